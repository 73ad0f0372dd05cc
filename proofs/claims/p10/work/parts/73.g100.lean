/-! methods on any state that keeps the invariant -/
/-! values of a set as a set: lists, publishers; how many -/
def vsI (K : Nat → Bool) (li : Nat → Int32) : Nat → Int32
  | 0 => 0
  | n + 1 => bif K n then vsI K li n ||| ((1 : Int32) <<< (li n &&& 31)) else vsI K li n
theorem vs_t {K : Nat → Bool} {li : Nat → Int32} {g : Int32} {j : Nat} (hj : j < 20) (h : g = vsI K li j) (hk : K j = true) : g ||| ((1 : Int32) <<< (li (Int32.toNatClampNeg (nI j)) &&& 31)) = vsI K li (j + 1) := by
  rw [nI_clamp (by omega)]
  show _ = (bif K j then vsI K li j ||| ((1 : Int32) <<< (li j &&& 31)) else vsI K li j)
  rw [hk, h]; rfl
theorem vs_f {K : Nat → Bool} {li : Nat → Int32} {g : Int32} {j : Nat} (h : g = vsI K li j) (hk : K j = false) : g = vsI K li (j + 1) := by
  show _ = (bif K j then vsI K li j ||| ((1 : Int32) <<< (li j &&& 31)) else vsI K li j)
  rw [hk]; exact h
theorem vs_f0 {K : Nat → Bool} {li : Nat → Int32} {g : Int32} {j : Nat} (h : g = vsI K li j) (hk : K j = false) : g ||| 0 = vsI K li (j + 1) := by
  rw [Int32.or_zero]; exact vs_f h hk
theorem vs_congr {K L : Nat → Bool} {li lj : Nat → Int32} : ∀ n : Nat, (∀ i, i < n → K i = L i ∧ li i = lj i) → vsI K li n = vsI L lj n := by
  intro n
  induction n with
  | zero => intro _; rfl
  | succ n ih =>
    intro h
    show (bif K n then vsI K li n ||| ((1 : Int32) <<< (li n &&& 31)) else vsI K li n) = (bif L n then vsI L lj n ||| ((1 : Int32) <<< (lj n &&& 31)) else vsI L lj n)
    obtain ⟨a, b⟩ := h n (by omega)
    rw [a, b, ih (fun i hi => h i (by omega))]
theorem vs_ext {K : Nat → Bool} {li : Nat → Int32} {n : Nat} (h : ∀ i, n ≤ i → K i = false) : ∀ q : Nat, vsI K li (n + q) = vsI K li n := by
  intro q
  induction q with
  | zero => rfl
  | succ q ih =>
    show (bif K (n + q) then vsI K li (n + q) ||| ((1 : Int32) <<< (li (n + q) &&& 31)) else vsI K li (n + q)) = _
    rw [h (n + q) (by omega)]; exact ih
theorem vs_ls {K : Nat → Bool} {on li : Nat → Int32} {one : Int32} : ∀ n : Nat, (∀ i, i < n → K i = decide (on i = one)) → vsI K li n = lsR on li one n := by
  intro n
  induction n with
  | zero => intro _; rfl
  | succ n ih =>
    intro h
    show (bif K n then vsI K li n ||| ((1 : Int32) <<< (li n &&& 31)) else vsI K li n) = lsR on li one n ||| (if on n = one then (1 : Int32) <<< (li n &&& 31) else 0)
    rw [ih (fun i hi => h i (by omega)), h n (by omega)]
    by_cases e : on n = one
    · rw [decide_eq_true e, if_pos e]; rfl
    · rw [decide_eq_false e, if_neg e, Int32.or_zero]; rfl
theorem vs_hi {K : Nat → Bool} {li : Nat → Int32} : ∀ n : Nat, (∀ i, i < n → K i = true → inR (li i) 0 4) → ∀ l, 5 ≤ l → tb (vsI K li n) l = false := by
  intro n
  induction n with
  | zero => intro _ l _; exact tb_0 l
  | succ n ih =>
    intro h l hl
    show tb (bif K n then vsI K li n ||| ((1 : Int32) <<< (li n &&& 31)) else vsI K li n) l = false
    have q := ih (fun i hi => h i (by omega)) l hl
    cases hk : K n
    · exact q
    · simp only [cond_true]
      obtain ⟨m, hm, e⟩ := nI_inR (M := 4) (h n (by omega) hk) (by decide)
      rw [tb_or, q, e, tb_shl (by omega), decide_eq_false (show ¬ l = m by omega)]; simp
theorem cnt_hi {f : Nat → Bool} {n : Nat} (h : ∀ i, n ≤ i → f i = false) : ∀ q : Nat, cntB f (n + q) = cntB f n := by
  intro q
  rw [cnt_add, cnt_z q (fun i _ => h (n + i) (by omega))]; rfl
theorem cb_cnt (s : Int32) : ∀ n : Nat, cb s n = cntB (tb s) n := by
  intro n
  induction n with
  | zero => rfl
  | succ n ih =>
    show cb s n + (if tb s n then 1 else 0) = cntB (tb s) n + (bif tb s n then 1 else 0)
    rw [ih]
    cases tb s n <;> rfl
theorem pc_20 {s : Int32} (h : ∀ k, 20 ≤ k → tb s k = false) : pcI s = nI (cntB (tb s) 20) := by
  rw [pcI_nI, show 32 = 20 + 12 from rfl, cnt_hi h]
theorem pc_cb {s : Int32} (h : ∀ k, 20 ≤ k → tb s k = false) : pcI s = nI (cb s 20) := by
  rw [pc_20 h, cb_cnt]
/-! rivals: lists that have two or more -/
def cuN (P : Nat → Bool) (li : Nat → Int32) (l n : Nat) : Nat := cntB (fun o => P o && decide (li o = nI l)) n
def rvN (P : Nat → Bool) (li : Nat → Int32) (n : Nat) : Nat := cntB (fun l => decide (2 ≤ cuN P li l n)) 4
def RV (P : Nat → Bool) (li : Nat → Int32) (j : Nat) (one two : Int32) : Prop := ∀ l, l < 32 → tb one l = decide (1 ≤ cuN P li l j) ∧ tb two l = decide (2 ≤ cuN P li l j)
theorem rv_0 {P : Nat → Bool} {li : Nat → Int32} : RV P li 0 0 0 := fun l _ => ⟨by rw [tb_0]; rfl, by rw [tb_0]; rfl⟩
theorem cu_s (P : Nat → Bool) (li : Nat → Int32) (l j : Nat) : cuN P li l (j + 1) = cuN P li l j + (bif P j && decide (li j = nI l) then 1 else 0) := rfl
theorem rv_f {P : Nat → Bool} {li : Nat → Int32} {j : Nat} {one two : Int32} (h : RV P li j one two) (hp : P j = false) : RV P li (j + 1) one two := by
  intro l hl
  rw [cu_s, hp]; exact h l hl
theorem rv_t {P : Nat → Bool} {li : Nat → Int32} {j : Nat} {one two : Int32} (hj : j < 20) (h : RV P li j one two) (hp : P j = true) (hl3 : inR (li j) 0 3) : RV P li (j + 1) (one ||| ((1 : Int32) <<< (li (Int32.toNatClampNeg (nI j)) &&& 31))) (two ||| (one &&& ((1 : Int32) <<< (li (Int32.toNatClampNeg (nI j)) &&& 31)))) := by
  rw [nI_clamp (by omega)]
  obtain ⟨m, hm, e⟩ := nI_inR (M := 3) hl3 (by decide)
  intro l hl
  obtain ⟨a, b⟩ := h l hl
  rw [cu_s, hp, e, tb_or, tb_or, tb_and, tb_shl (by omega), decide_eq_true hl, a, b]
  by_cases q : l = m
  · rw [decide_eq_true q, decide_eq_true (show nI m = nI l by rw [q])]
    constructor
    · rw [decide_eq_true (show 1 ≤ cuN P li l j + (bif true && true then 1 else 0) by simp only [Bool.and_true, cond_true]; omega)]; simp
    · by_cases q1 : 1 ≤ cuN P li l j
      · rw [decide_eq_true q1, decide_eq_true (show 2 ≤ cuN P li l j + (bif true && true then 1 else 0) by simp only [Bool.and_true, cond_true]; omega)]; simp
      · rw [decide_eq_false q1, decide_eq_false (show ¬ 2 ≤ cuN P li l j by omega), decide_eq_false (show ¬ 2 ≤ cuN P li l j + (bif true && true then 1 else 0) by simp only [Bool.and_true, cond_true]; omega)]; simp
  · rw [decide_eq_false q, decide_eq_false (show ¬ nI m = nI l from fun q2 => q ((nI_eq (by omega) (by omega)).mp q2).symm)]
    simp
theorem rv_end {P : Nat → Bool} {li : Nat → Int32} {one two : Int32} (hl : ∀ i, i < 20 → inR (li i) 0 3) (h : RV P li 20 one two) : pcI two = nI (rvN P li 20) := by
  have z : ∀ l, 4 ≤ l → tb two l = false := by
    intro l h4
    by_cases q : l < 32
    · rw [(h l q).2]
      have e : cuN P li l 20 = 0 := cnt_z 20 (fun o ho => by
        obtain ⟨m, hm, e⟩ := nI_inR (M := 3) (hl o ho) (by decide)
        rw [e, decide_eq_false (show ¬ nI m = nI l from fun q2 => by have := (nI_eq (by omega) (by omega)).mp q2; omega)]; simp)
      rw [e]; rfl
    · exact tb_hi two (by omega)
  rw [pcI_nI, show 32 = 4 + 28 from rfl, cnt_hi z]
  congr 1
  exact cnt_congr 4 (fun l hl4 => (h l (by omega)).2)
theorem cu_congr {P Q : Nat → Bool} {li lj : Nat → Int32} {l : Nat} {n : Nat} (h : ∀ i, i < n → P i = Q i ∧ li i = lj i) : cuN P li l n = cuN Q lj l n := cnt_congr n (fun i hi => by rw [(h i hi).1, (h i hi).2])
theorem rv_congr {P Q : Nat → Bool} {li lj : Nat → Int32} {n : Nat} (h : ∀ i, i < n → P i = Q i ∧ li i = lj i) : rvN P li n = rvN Q lj n := cnt_congr 4 (fun l _ => by rw [cu_congr h])
theorem cu_ext {P : Nat → Bool} {li : Nat → Int32} {l n : Nat} (h : ∀ i, n ≤ i → P i = false) (q : Nat) : cuN P li l (n + q) = cuN P li l n := cnt_hi (fun i hi => by rw [h i hi]; rfl) q
theorem rv_ext {P : Nat → Bool} {li : Nat → Int32} {n : Nat} (h : ∀ i, n ≤ i → P i = false) (q : Nat) : rvN P li (n + q) = rvN P li n := cnt_congr 4 (fun l _ => by rw [cu_ext h])
set_option maxRecDepth 100000 in
set_option maxHeartbeats 40000000 in
theorem ge_X0_valuesOf_2 {G : vG} {l : Launch} (σ : Sg) (c : Int32) (hI : Inv σ) : Sp G l yX0_valuesOf cX0_valuesOf 4 (some .int) 1 0 0 [.int c, .ref 2] (WW σ) (QI (fun x w2 => w2 = WW σ ∧ x = vsI (tb c) (σ.2.2.1 2) 20)) := by
  refine Sp_of_R [(some (.int c)), (some (.ref 2)), none, none] [none, none] rfl (by simp) rfl (Nat.le_of_ble_eq_true rfl) ?_
  refine R_iconst (pc := 0) (v := 0) dX0_valuesOf_0 (by decide) ?_
  refine st_4_2_i_a (pc := 1) dX0_valuesOf_1 ?_
  refine R_iconst (pc := 2) (v := 0) dX0_valuesOf_2 (by decide) ?_
  refine st_4_3_i_i (pc := 3) dX0_valuesOf_3 ?_
  have HL4 : ∀ (q j4 : Nat) (g2_4 : Int32), j4 + q = 20 → 0 ≤ j4 → g2_4 = vsI (tb c) (σ.2.2.1 2) j4 → R G l yX0_valuesOf cX0_valuesOf 4 (some .int) 1 0 0 (QI (fun x w2 => w2 = WW σ ∧ x = vsI (tb c) (σ.2.2.1 2) 20)) 4 [(some (.int c)), (some (.ref 2)), (some (.int g2_4)), (some (.int (nI j4)))] [] (WW σ) 0 0 := by
    intro q
    induction q with
    | zero =>
      intro j4 g2_4 hj hs4 hX4_0
      obtain rfl : j4 = 20 := by omega
      refine R_iload_n (pc := 4) dX0_valuesOf_4 rfl rfl ?_
      refine R_bipush (pc := 5) (v := 20) dX0_valuesOf_5 (by decide) ?_
      refine R_icge (pc := 7) 32 dX0_valuesOf_7 (by decide) (fun _ => ?_) (fun h => absurd (by decide) h)
      refine R_iload_n (pc := 32) dX0_valuesOf_32 rfl rfl ?_
      exact R_iret (pc := 33) dX0_valuesOf_33 rfl rfl (Nat.zero_le _) (Nat.zero_le _) ⟨_, rfl, rfl, hX4_0⟩
    | succ q ih4 =>
      intro j4 g2_4 hj hs4 hX4_0
      have hrg4 : inR (nI j4) 0 19 := inR_ix hs4 (show j4 < 20 by omega) (by decide) (by decide) (by decide)
      have hlt4 : j4 < 20 := by omega
      refine R_iload_n (pc := 4) dX0_valuesOf_4 rfl rfl ?_
      refine R_bipush (pc := 5) (v := 20) dX0_valuesOf_5 (by decide) ?_
      refine R_icge (pc := 7) 32 dX0_valuesOf_7 (by decide) (fun h => False.elim (by have q1 := ti_le h; have q2 := ti_in (show inR (nI j4) 0 19 from hrg4); have q3 := ti_in (show inR 20 20 20 from (inR_self _)); have z0 : (0 : Int32).toInt = 0 := (by decide);  have z1 : (19 : Int32).toInt = 19 := (by decide);  have z2 : (20 : Int32).toInt = 20 := (by decide); omega)) (fun _ => ?_)
      refine R_iload_n (pc := 10) dX0_valuesOf_10 rfl rfl ?_
      refine R_iload_n (pc := 11) dX0_valuesOf_11 rfl rfl ?_
      refine k_X0_61 (pc := 12) (sp_X8_has _ _ _) rfl (by decide) (Nat.le_refl _) (Nat.le_refl _) (Nat.le_of_ble_eq_true rfl) dX0_valuesOf_12 (fun x w2 h => ?_)
      rcases h with ⟨rfl, ⟨hh3, rfl⟩ | ⟨hh3, rfl⟩⟩
      · skip
        refine R_ifeq (pc := 15) 26 dX0_valuesOf_15 (by decide) (fun h => absurd h (by decide)) (fun _ => ?_)
        refine R_iload_n (pc := 18) dX0_valuesOf_18 rfl rfl ?_
        refine R_iconst (pc := 19) (v := 1) dX0_valuesOf_19 (by decide) ?_
        refine R_aload_n (pc := 20) dX0_valuesOf_20 rfl rfl ?_
        refine R_iload_n (pc := 21) dX0_valuesOf_21 rfl rfl ?_
        have hx5 : vp_in (nI j4) 20 := (vp_in_nI (by omega) (by decide))
        refine R_iaload (pc := 22) dX0_valuesOf_22 (c_2 _) hx5 ?_
        refine R_ishl (pc := 23) dX0_valuesOf_23 ?_
        refine R_ior (pc := 24) dX0_valuesOf_24 ?_
        refine st_4_2_i_a (pc := 25) dX0_valuesOf_25 ?_
        refine inc_4_3_1_i (pc := 26) dX0_valuesOf_26 ?_
        have r6 : inR ((nI j4) + 1) 1 20 := inR_add (show inR (nI j4) 0 19 from hrg4) (show inR 1 1 1 from (inR_self _)) (by decide) (by decide)
        have e7 := ti_add (l := 1) (h := 20) (show inR (nI j4) 0 19 from hrg4) (show inR 1 1 1 from (inR_self _)) (by decide) (by decide)
        refine R_goto (pc := 29) 4 dX0_valuesOf_29 (by decide) ?_
        rw [nI_1]
        exact ih4 (j4 + 1) _ (by omega) (by omega) (vs_t (K := tb c) (li := σ.2.2.1 2) (by omega) hX4_0 (has_t (by omega) hh3))
      · skip
        refine R_ifeq (pc := 15) 26 dX0_valuesOf_15 (by decide) (fun _ => ?_) (fun h => absurd (by decide) h)
        refine inc_4_3_1_i (pc := 26) dX0_valuesOf_26 ?_
        have r9 : inR ((nI j4) + 1) 1 20 := inR_add (show inR (nI j4) 0 19 from hrg4) (show inR 1 1 1 from (inR_self _)) (by decide) (by decide)
        have e10 := ti_add (l := 1) (h := 20) (show inR (nI j4) 0 19 from hrg4) (show inR 1 1 1 from (inR_self _)) (by decide) (by decide)
        refine R_goto (pc := 29) 4 dX0_valuesOf_29 (by decide) ?_
        rw [nI_1]
        exact ih4 (j4 + 1) _ (by omega) (by omega) (vs_f (K := tb c) (li := σ.2.2.1 2) hX4_0 (has_f (by omega) hh3))
  exact HL4 20 0 _ (by omega) (by omega) rfl
set_option maxRecDepth 100000 in
set_option maxHeartbeats 40000000 in
theorem ge_X0_valuesOf_3 {G : vG} {l : Launch} (σ : Sg) (c : Int32) (hI : Inv σ) : Sp G l yX0_valuesOf cX0_valuesOf 4 (some .int) 1 0 0 [.int c, .ref 3] (WW σ) (QI (fun x w2 => w2 = WW σ ∧ x = vsI (tb c) (σ.2.2.1 3) 20)) := by
  refine Sp_of_R [(some (.int c)), (some (.ref 3)), none, none] [none, none] rfl (by simp) rfl (Nat.le_of_ble_eq_true rfl) ?_
  refine R_iconst (pc := 0) (v := 0) dX0_valuesOf_0 (by decide) ?_
  refine st_4_2_i_a (pc := 1) dX0_valuesOf_1 ?_
  refine R_iconst (pc := 2) (v := 0) dX0_valuesOf_2 (by decide) ?_
  refine st_4_3_i_i (pc := 3) dX0_valuesOf_3 ?_
  have HL4 : ∀ (q j4 : Nat) (g2_4 : Int32), j4 + q = 20 → 0 ≤ j4 → g2_4 = vsI (tb c) (σ.2.2.1 3) j4 → R G l yX0_valuesOf cX0_valuesOf 4 (some .int) 1 0 0 (QI (fun x w2 => w2 = WW σ ∧ x = vsI (tb c) (σ.2.2.1 3) 20)) 4 [(some (.int c)), (some (.ref 3)), (some (.int g2_4)), (some (.int (nI j4)))] [] (WW σ) 0 0 := by
    intro q
    induction q with
    | zero =>
      intro j4 g2_4 hj hs4 hX4_0
      obtain rfl : j4 = 20 := by omega
      refine R_iload_n (pc := 4) dX0_valuesOf_4 rfl rfl ?_
      refine R_bipush (pc := 5) (v := 20) dX0_valuesOf_5 (by decide) ?_
      refine R_icge (pc := 7) 32 dX0_valuesOf_7 (by decide) (fun _ => ?_) (fun h => absurd (by decide) h)
      refine R_iload_n (pc := 32) dX0_valuesOf_32 rfl rfl ?_
      exact R_iret (pc := 33) dX0_valuesOf_33 rfl rfl (Nat.zero_le _) (Nat.zero_le _) ⟨_, rfl, rfl, hX4_0⟩
    | succ q ih4 =>
      intro j4 g2_4 hj hs4 hX4_0
      have hrg4 : inR (nI j4) 0 19 := inR_ix hs4 (show j4 < 20 by omega) (by decide) (by decide) (by decide)
      have hlt4 : j4 < 20 := by omega
      refine R_iload_n (pc := 4) dX0_valuesOf_4 rfl rfl ?_
      refine R_bipush (pc := 5) (v := 20) dX0_valuesOf_5 (by decide) ?_
      refine R_icge (pc := 7) 32 dX0_valuesOf_7 (by decide) (fun h => False.elim (by have q1 := ti_le h; have q2 := ti_in (show inR (nI j4) 0 19 from hrg4); have q3 := ti_in (show inR 20 20 20 from (inR_self _)); have z0 : (0 : Int32).toInt = 0 := (by decide);  have z1 : (19 : Int32).toInt = 19 := (by decide);  have z2 : (20 : Int32).toInt = 20 := (by decide); omega)) (fun _ => ?_)
      refine R_iload_n (pc := 10) dX0_valuesOf_10 rfl rfl ?_
      refine R_iload_n (pc := 11) dX0_valuesOf_11 rfl rfl ?_
      refine k_X0_61 (pc := 12) (sp_X8_has _ _ _) rfl (by decide) (Nat.le_refl _) (Nat.le_refl _) (Nat.le_of_ble_eq_true rfl) dX0_valuesOf_12 (fun x w2 h => ?_)
      rcases h with ⟨rfl, ⟨hh3, rfl⟩ | ⟨hh3, rfl⟩⟩
      · skip
        refine R_ifeq (pc := 15) 26 dX0_valuesOf_15 (by decide) (fun h => absurd h (by decide)) (fun _ => ?_)
        refine R_iload_n (pc := 18) dX0_valuesOf_18 rfl rfl ?_
        refine R_iconst (pc := 19) (v := 1) dX0_valuesOf_19 (by decide) ?_
        refine R_aload_n (pc := 20) dX0_valuesOf_20 rfl rfl ?_
        refine R_iload_n (pc := 21) dX0_valuesOf_21 rfl rfl ?_
        have hx5 : vp_in (nI j4) 20 := (vp_in_nI (by omega) (by decide))
        refine R_iaload (pc := 22) dX0_valuesOf_22 (c_3 _) hx5 ?_
        refine R_ishl (pc := 23) dX0_valuesOf_23 ?_
        refine R_ior (pc := 24) dX0_valuesOf_24 ?_
        refine st_4_2_i_a (pc := 25) dX0_valuesOf_25 ?_
        refine inc_4_3_1_i (pc := 26) dX0_valuesOf_26 ?_
        have r6 : inR ((nI j4) + 1) 1 20 := inR_add (show inR (nI j4) 0 19 from hrg4) (show inR 1 1 1 from (inR_self _)) (by decide) (by decide)
        have e7 := ti_add (l := 1) (h := 20) (show inR (nI j4) 0 19 from hrg4) (show inR 1 1 1 from (inR_self _)) (by decide) (by decide)
        refine R_goto (pc := 29) 4 dX0_valuesOf_29 (by decide) ?_
        rw [nI_1]
        exact ih4 (j4 + 1) _ (by omega) (by omega) (vs_t (K := tb c) (li := σ.2.2.1 3) (by omega) hX4_0 (has_t (by omega) hh3))
      · skip
        refine R_ifeq (pc := 15) 26 dX0_valuesOf_15 (by decide) (fun _ => ?_) (fun h => absurd (by decide) h)
        refine inc_4_3_1_i (pc := 26) dX0_valuesOf_26 ?_
        have r9 : inR ((nI j4) + 1) 1 20 := inR_add (show inR (nI j4) 0 19 from hrg4) (show inR 1 1 1 from (inR_self _)) (by decide) (by decide)
        have e10 := ti_add (l := 1) (h := 20) (show inR (nI j4) 0 19 from hrg4) (show inR 1 1 1 from (inR_self _)) (by decide) (by decide)
        refine R_goto (pc := 29) 4 dX0_valuesOf_29 (by decide) ?_
        rw [nI_1]
        exact ih4 (j4 + 1) _ (by omega) (by omega) (vs_f (K := tb c) (li := σ.2.2.1 3) hX4_0 (has_f (by omega) hh3))
  exact HL4 20 0 _ (by omega) (by omega) rfl
set_option maxRecDepth 100000 in
set_option maxHeartbeats 40000000 in
theorem ge_X0_listsOf {G : vG} {l : Launch} (σ : Sg) (c : Int32) (hI : Inv σ) : Sp G l yX0_listsOf cX0_listsOf 2 (some .int) 2 0 0 [.ref 1, .int c] (WW σ) (QI (fun x w2 => w2 = WW σ ∧ x = vsI (tb c) (σ.2.2.1 2) 20)) := by
  refine Sp_of_R [(some (.ref 1)), (some (.int c))] [] rfl (by simp) rfl (Nat.le_of_ble_eq_true rfl) ?_
  refine R_iload_n (pc := 0) dX0_listsOf_0 rfl rfl ?_
  refine R_aload_n (pc := 1) dX0_listsOf_1 rfl rfl ?_
  refine g_X0_9 (pc := 2) (v := .ref 2) rfl dX0_listsOf_2 (c_1 _) rfl ?_
  refine k_X0_57 (pc := 5) (ge_X0_valuesOf_2 _ _ hI) rfl (by decide) (Nat.le_refl _) (Nat.le_refl _) (Nat.le_of_ble_eq_true rfl) dX0_listsOf_5 (fun x w2 h => ?_)
  obtain ⟨rfl, rfl⟩ := h
  exact R_iret (pc := 8) dX0_listsOf_8 rfl rfl (Nat.zero_le _) (Nat.zero_le _) ⟨_, rfl, rfl, rfl⟩
set_option maxRecDepth 100000 in
set_option maxHeartbeats 40000000 in
theorem ge_X0_publishersOf {G : vG} {l : Launch} (σ : Sg) (c : Int32) (hI : Inv σ) : Sp G l yX0_publishersOf cX0_publishersOf 2 (some .int) 2 0 0 [.ref 1, .int c] (WW σ) (QI (fun x w2 => w2 = WW σ ∧ x = vsI (tb c) (σ.2.2.1 3) 20)) := by
  refine Sp_of_R [(some (.ref 1)), (some (.int c))] [] rfl (by simp) rfl (Nat.le_of_ble_eq_true rfl) ?_
  refine R_iload_n (pc := 0) dX0_publishersOf_0 rfl rfl ?_
  refine R_aload_n (pc := 1) dX0_publishersOf_1 rfl rfl ?_
  refine g_X0_15 (pc := 2) (v := .ref 3) rfl dX0_publishersOf_2 (c_1 _) rfl ?_
  refine k_X0_57 (pc := 5) (ge_X0_valuesOf_3 _ _ hI) rfl (by decide) (Nat.le_refl _) (Nat.le_refl _) (Nat.le_of_ble_eq_true rfl) dX0_publishersOf_5 (fun x w2 h => ?_)
  obtain ⟨rfl, rfl⟩ := h
  exact R_iret (pc := 8) dX0_publishersOf_8 rfl rfl (Nat.zero_le _) (Nat.zero_le _) ⟨_, rfl, rfl, rfl⟩
set_option maxRecDepth 100000 in
set_option maxHeartbeats 40000000 in
theorem ge_X8_timesSeen {G : vG} {l : Launch} (σ : Sg) (c : Int32) (hI : Inv σ) (hc : inR c 0 19) : Sp G l yX8_timesSeen cX8_timesSeen 2 (some .int) 4 0 0 [.ref 0, .int c] (WW σ) (QI (fun x w2 => w2 = WW σ ∧ x = (pcI (vsI (kin (fun a b => mtC σ (nI a) (nI b)) (tb (thI σ)) (Int32.toNatClampNeg c)) (σ.2.2.1 2) 20)))) := by
  refine Sp_of_R [(some (.ref 0)), (some (.int c))] [] rfl (by simp) rfl (Nat.le_of_ble_eq_true rfl) ?_
  refine R_aload_n (pc := 0) dX8_timesSeen_0 rfl rfl ?_
  refine g_X8_10 (pc := 1) (v := .ref 1) rfl dX8_timesSeen_1 (c_0 _) rfl ?_
  refine R_aload_n (pc := 4) dX8_timesSeen_4 rfl rfl ?_
  refine g_X8_21 (pc := 5) (v := .ref 12) rfl dX8_timesSeen_5 (c_0 _) rfl ?_
  refine R_iload_n (pc := 8) dX8_timesSeen_8 rfl rfl ?_
  refine R_aload_n (pc := 9) dX8_timesSeen_9 rfl rfl ?_
  refine g_X8_10 (pc := 10) (v := .ref 1) rfl dX8_timesSeen_10 (c_0 _) rfl ?_
  refine k_X8_126 (pc := 13) (ge_X0_there _ hI) rfl (c_1 _) (by decide) (Nat.le_refl _) (Nat.le_refl _) (Nat.le_of_ble_eq_true rfl) dX8_timesSeen_13 (fun x w2 h => ?_)
  obtain ⟨rfl, rfl⟩ := h
  refine k_X8_144 (pc := 16) (gn_X3_sameCard _ _ _ hI hc (thI_in σ)) rfl (c_12 _) (by decide) (Nat.le_refl _) (Nat.le_refl _) (Nat.le_of_ble_eq_true rfl) dX8_timesSeen_16 (fun x w2 h => ?_)
  obtain ⟨rfl, rfl⟩ := h
  refine k_X8_164 (pc := 19) (ge_X0_listsOf _ _ hI) rfl (c_1 _) (by decide) (Nat.le_refl _) (Nat.le_refl _) (Nat.le_of_ble_eq_true rfl) dX8_timesSeen_19 (fun x w2 h => ?_)
  obtain ⟨rfl, rfl⟩ := h
  refine R_cv (vsI (kin (fun a b => mtC σ (nI a) (nI b)) (tb (thI σ)) (Int32.toNatClampNeg c)) (σ.2.2.1 2) 20) (vs_congr 20 (fun i hi => ⟨by rw [tb_bs 20 (by omega), decide_eq_true hi]; rfl, rfl⟩)) ?_
  refine k_X8_159 (pc := 22) (sp_J6_bitCount_0f7a4 _ _) rfl (by decide) (Nat.le_refl _) (Nat.le_refl _) (Nat.le_of_ble_eq_true rfl) dX8_timesSeen_22 (fun x w2 h => ?_)
  obtain ⟨rfl, rfl⟩ := h
  refine R_cv (pcI (vsI (kin (fun a b => mtC σ (nI a) (nI b)) (tb (thI σ)) (Int32.toNatClampNeg c)) (σ.2.2.1 2) 20)) rfl ?_
  exact R_iret (pc := 25) dX8_timesSeen_25 rfl rfl (Nat.zero_le _) (Nat.zero_le _) ⟨_, rfl, rfl, rfl⟩
set_option maxRecDepth 100000 in
set_option maxHeartbeats 40000000 in
theorem gn_X3_rivals {G : vG} {l : Launch} (σ : Sg) (c b : Int32) (hI : Inv σ) (hc : inR c 0 19) (hli : ∀ i : Nat, i < 20 → inR (σ.2.2.1 2 i) 0 3) : Sp G l yX3_rivals cX3_rivals 7 (some .int) 2 0 0 [.ref 12, .int c, .int b] (WW σ) (QI (fun x w2 => w2 = WW σ ∧ x = nI (rvN (fun o => tb b o && (!decide (nI o = c) && mtC σ c (nI o))) (σ.2.2.1 2) 20))) := by
  refine Sp_of_R [(some (.ref 12)), (some (.int c)), (some (.int b)), none, none, none, none] [none, none, none, none] rfl (by simp) rfl (Nat.le_of_ble_eq_true rfl) ?_
  refine R_iconst (pc := 0) (v := 0) dX3_rivals_0 (by decide) ?_
  refine st_7_3_i_i (pc := 1) dX3_rivals_1 ?_
  refine R_iconst (pc := 2) (v := 0) dX3_rivals_2 (by decide) ?_
  refine st_7_4_i_i (pc := 3) dX3_rivals_3 ?_
  refine R_iconst (pc := 5) (v := 0) dX3_rivals_5 (by decide) ?_
  refine st_7_5_i_i (pc := 6) dX3_rivals_6 ?_
  have HL8 : ∀ (q j8 : Nat) (g3_8 : Int32) (g4_8 : Int32) (g6_8 : Option Value), j8 + q = 20 → 0 ≤ j8 → RV (fun o => tb b o && (!decide (nI o = c) && mtC σ c (nI o))) (σ.2.2.1 2) j8 g3_8 g4_8 → R G l yX3_rivals cX3_rivals 7 (some .int) 2 0 0 (QI (fun x w2 => w2 = WW σ ∧ x = nI (rvN (fun o => tb b o && (!decide (nI o = c) && mtC σ c (nI o))) (σ.2.2.1 2) 20))) 8 [(some (.ref 12)), (some (.int c)), (some (.int b)), (some (.int g3_8)), (some (.int g4_8)), (some (.int (nI j8))), g6_8] [] (WW σ) 0 0 := by
    intro q
    induction q with
    | zero =>
      intro j8 g3_8 g4_8 g6_8 hj hs8 hX8_0
      obtain rfl : j8 = 20 := by omega
      refine R_iload (pc := 8) dX3_rivals_8 rfl ?_
      refine R_bipush (pc := 10) (v := 20) dX3_rivals_10 (by decide) ?_
      refine R_icge (pc := 12) 74 dX3_rivals_12 (by decide) (fun _ => ?_) (fun h => absurd (by decide) h)
      refine R_iload (pc := 74) dX3_rivals_74 rfl ?_
      refine k_X3_116 (pc := 76) (sp_J6_bitCount_0f7a4 _ _) rfl (by decide) (Nat.le_refl _) (Nat.le_refl _) (Nat.le_of_ble_eq_true rfl) dX3_rivals_76 (fun x w2 h => ?_)
      obtain ⟨rfl, rfl⟩ := h
      refine R_cv (pcI g4_8) rfl ?_
      exact R_iret (pc := 79) dX3_rivals_79 rfl rfl (Nat.zero_le _) (Nat.zero_le _) ⟨_, rfl, rfl, (rv_end hli hX8_0)⟩
    | succ q ih8 =>
      intro j8 g3_8 g4_8 g6_8 hj hs8 hX8_0
      have hrg8 : inR (nI j8) 0 19 := inR_ix hs8 (show j8 < 20 by omega) (by decide) (by decide) (by decide)
      have hlt8 : j8 < 20 := by omega
      refine R_iload (pc := 8) dX3_rivals_8 rfl ?_
      refine R_bipush (pc := 10) (v := 20) dX3_rivals_10 (by decide) ?_
      refine R_icge (pc := 12) 74 dX3_rivals_12 (by decide) (fun h => False.elim (by have q1 := ti_le h; have q2 := ti_in (show inR (nI j8) 0 19 from hrg8); have q3 := ti_in (show inR 20 20 20 from (inR_self _)); have z0 : (0 : Int32).toInt = 0 := (by decide);  have z1 : (19 : Int32).toInt = 19 := (by decide);  have z2 : (20 : Int32).toInt = 20 := (by decide); omega)) (fun _ => ?_)
      refine R_iload_n (pc := 15) dX3_rivals_15 rfl rfl ?_
      refine R_iload (pc := 16) dX3_rivals_16 rfl ?_
      refine k_X3_106 (pc := 18) (sp_X8_has _ _ _) rfl (by decide) (Nat.le_refl _) (Nat.le_refl _) (Nat.le_of_ble_eq_true rfl) dX3_rivals_18 (fun x w2 h => ?_)
      rcases h with ⟨rfl, ⟨hh3, rfl⟩ | ⟨hh3, rfl⟩⟩
      · skip
        refine R_ifeq (pc := 21) 68 dX3_rivals_21 (by decide) (fun h => absurd h (by decide)) (fun _ => ?_)
        refine R_iload (pc := 24) dX3_rivals_24 rfl ?_
        refine R_iload_n (pc := 26) dX3_rivals_26 rfl rfl ?_
        refine R_iceq (pc := 27) 68 dX3_rivals_27 (by decide) (fun b27_5 => ?_) (fun b27_5 => ?_)
        · skip
          refine inc_7_5_1_i (pc := 68) dX3_rivals_68 ?_
          have r6 : inR ((nI j8) + 1) 1 20 := inR_add (show inR (nI j8) 0 19 from hrg8) (show inR 1 1 1 from (inR_self _)) (by decide) (by decide)
          have e7 := ti_add (l := 1) (h := 20) (show inR (nI j8) 0 19 from hrg8) (show inR 1 1 1 from (inR_self _)) (by decide) (by decide)
          refine R_goto (pc := 71) 8 dX3_rivals_71 (by decide) ?_
          rw [nI_1]
          exact ih8 (j8 + 1) _ _ _ (by omega) (by omega) (rv_f (P := (fun o => tb b o && (!decide (nI o = c) && mtC σ c (nI o)))) hX8_0 (by show (tb b j8 && (!decide (nI j8 = c) && _)) = false; rw [decide_eq_true b27_5]; simp))
        · skip
          refine R_aload_n (pc := 30) dX3_rivals_30 rfl rfl ?_
          refine R_iload_n (pc := 31) dX3_rivals_31 rfl rfl ?_
          refine R_iload (pc := 32) dX3_rivals_32 rfl ?_
          refine k_X3_109 (pc := 34) (ge_X3_isMatch _ _ _ hI hc hrg8) rfl (c_12 _) (by decide) (Nat.le_refl _) (Nat.le_refl _) (Nat.le_of_ble_eq_true rfl) dX3_rivals_34 (fun x w2 h => ?_)
          rcases h with ⟨rfl, ⟨h8, rfl⟩ | ⟨h8, rfl⟩⟩
          · skip
            refine R_ifeq (pc := 37) 68 dX3_rivals_37 (by decide) (fun h => absurd h (by decide)) (fun _ => ?_)
            refine R_iconst (pc := 40) (v := 1) dX3_rivals_40 (by decide) ?_
            refine R_aload_n (pc := 41) dX3_rivals_41 rfl rfl ?_
            refine g_X3_27 (pc := 42) (v := .ref 1) rfl dX3_rivals_42 (c_12 _) rfl ?_
            refine g_X3_85 (pc := 45) (v := .ref 2) rfl dX3_rivals_45 (c_1 _) rfl ?_
            refine R_iload (pc := 48) dX3_rivals_48 rfl ?_
            have hx10 : vp_in (nI j8) 20 := (vp_in_nI (by omega) (by decide))
            refine R_iaload (pc := 50) dX3_rivals_50 (c_2 _) hx10 ?_
            refine R_ishl (pc := 51) dX3_rivals_51 ?_
            refine st_7_6_i_i (pc := 52) dX3_rivals_52 ?_
            refine R_iload (pc := 54) dX3_rivals_54 rfl ?_
            refine R_iload_n (pc := 56) dX3_rivals_56 rfl rfl ?_
            refine R_iload (pc := 57) dX3_rivals_57 rfl ?_
            refine R_iand (pc := 59) dX3_rivals_59 ?_
            refine R_ior (pc := 60) dX3_rivals_60 ?_
            refine st_7_4_i_i (pc := 61) dX3_rivals_61 ?_
            refine R_iload_n (pc := 63) dX3_rivals_63 rfl rfl ?_
            refine R_iload (pc := 64) dX3_rivals_64 rfl ?_
            refine R_ior (pc := 66) dX3_rivals_66 ?_
            refine st_7_3_i_i (pc := 67) dX3_rivals_67 ?_
            refine inc_7_5_1_i (pc := 68) dX3_rivals_68 ?_
            have r11 : inR ((nI j8) + 1) 1 20 := inR_add (show inR (nI j8) 0 19 from hrg8) (show inR 1 1 1 from (inR_self _)) (by decide) (by decide)
            have e12 := ti_add (l := 1) (h := 20) (show inR (nI j8) 0 19 from hrg8) (show inR 1 1 1 from (inR_self _)) (by decide) (by decide)
            refine R_goto (pc := 71) 8 dX3_rivals_71 (by decide) ?_
            rw [nI_1]
            exact ih8 (j8 + 1) _ _ _ (by omega) (by omega) (rv_t (P := (fun o => tb b o && (!decide (nI o = c) && mtC σ c (nI o)))) (by omega) hX8_0 (by show (tb b j8 && (!decide (nI j8 = c) && mtC σ c (nI j8))) = true; rw [has_t (by omega) hh3, decide_eq_false b27_5, h8]; rfl) (hli _ (by omega)))
          · skip
            refine R_ifeq (pc := 37) 68 dX3_rivals_37 (by decide) (fun _ => ?_) (fun h => absurd (by decide) h)
            refine inc_7_5_1_i (pc := 68) dX3_rivals_68 ?_
            have r14 : inR ((nI j8) + 1) 1 20 := inR_add (show inR (nI j8) 0 19 from hrg8) (show inR 1 1 1 from (inR_self _)) (by decide) (by decide)
            have e15 := ti_add (l := 1) (h := 20) (show inR (nI j8) 0 19 from hrg8) (show inR 1 1 1 from (inR_self _)) (by decide) (by decide)
            refine R_goto (pc := 71) 8 dX3_rivals_71 (by decide) ?_
            rw [nI_1]
            exact ih8 (j8 + 1) _ _ _ (by omega) (by omega) (rv_f (P := (fun o => tb b o && (!decide (nI o = c) && mtC σ c (nI o)))) hX8_0 (by show (tb b j8 && (!decide (nI j8 = c) && mtC σ c (nI j8))) = false; rw [h8]; simp))
      · skip
        refine R_ifeq (pc := 21) 68 dX3_rivals_21 (by decide) (fun _ => ?_) (fun h => absurd (by decide) h)
        refine inc_7_5_1_i (pc := 68) dX3_rivals_68 ?_
        have r17 : inR ((nI j8) + 1) 1 20 := inR_add (show inR (nI j8) 0 19 from hrg8) (show inR 1 1 1 from (inR_self _)) (by decide) (by decide)
        have e18 := ti_add (l := 1) (h := 20) (show inR (nI j8) 0 19 from hrg8) (show inR 1 1 1 from (inR_self _)) (by decide) (by decide)
        refine R_goto (pc := 71) 8 dX3_rivals_71 (by decide) ?_
        rw [nI_1]
        exact ih8 (j8 + 1) _ _ _ (by omega) (by omega) (rv_f (P := (fun o => tb b o && (!decide (nI o = c) && mtC σ c (nI o)))) hX8_0 (by show (tb b j8 && _) = false; rw [has_f (by omega) hh3]; rfl))
  exact HL8 20 0 _ _ _ (by omega) (by omega) rv_0
