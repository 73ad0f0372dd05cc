/-! methods on any state that keeps the invariant -/
/-! the reference's tokens: a word's code, base 27 -/
def enc (f : Nat → Int32) (s : Nat) : Nat → Int
  | 0 => 0
  | L + 1 => 27 * enc f s L + ((f (s + L)).toInt - 96)
def isL (f : Nat → Int32) (k : Nat) : Bool := inB (f k) 97 122
def isD (f : Nat → Int32) (k : Nat) : Bool := inB (f k) 48 57
theorem isL_r {f : Nat → Int32} {k : Nat} (h : isL f k = true) : 1 ≤ (f k).toInt - 96 ∧ (f k).toInt - 96 ≤ 26 := by
  have q := ti_in (inB_r h)
  have z1 : (97 : Int32).toInt = 97 := by decide
  have z2 : (122 : Int32).toInt = 122 := by decide
  omega
theorem enc_pos {f : Nat → Int32} {s : Nat} : ∀ L, (∀ i, i < L → isL f (s + i) = true) → 0 ≤ enc f s L ∧ (1 ≤ L → 1 ≤ enc f s L) := by
  intro L
  induction L with
  | zero => intro _; exact ⟨Int.le_refl _, fun h => by omega⟩
  | succ L ih =>
    intro h
    have a := (ih (fun i hi => h i (by omega))).1
    have b := isL_r (h L (by omega))
    show 0 ≤ 27 * enc f s L + ((f (s + L)).toInt - 96) ∧ (1 ≤ L + 1 → 1 ≤ 27 * enc f s L + ((f (s + L)).toInt - 96))
    omega
theorem enc_0 {f : Nat → Int32} {s L : Nat} (h : ∀ i, i < L → isL f (s + i) = true) : enc f s L = 0 ↔ L = 0 := by
  constructor
  · intro e
    have := (enc_pos L h).2
    omega
  · intro e; rw [e]; rfl
/-- the last letter and the rest, from the code -/
theorem enc_c {f : Nat → Int32} {s L : Nat} {q r : Int} (h : ∀ i, i < L → isL f (s + i) = true) (hr : 0 ≤ q) (hq : 1 ≤ r ∧ r ≤ 26) (e : enc f s L = 27 * q + r) : ∃ M, L = M + 1 ∧ enc f s M = q ∧ (f (s + M)).toInt - 96 = r := by
  cases L with
  | zero => exact absurd (show (0 : Int) = 27 * q + r from e) (by omega)
  | succ M =>
    have b := isL_r (h M (by omega))
    have e2 : 27 * enc f s M + ((f (s + M)).toInt - 96) = 27 * q + r := e
    exact ⟨M, rfl, by omega, by omega⟩
def encJ (f : Nat → Int32) (s : Nat) : Nat → Int64
  | 0 => 0
  | L + 1 => ((27 * encJ f s L) + (Int32.toInt64 (f (s + L)))) - 96
theorem pow27 : ∀ L : Fin 9, (27 : Int) ^ L.val ≤ 282429536481 := by decide +kernel
theorem encJ_ti {f : Nat → Int32} {s : Nat} : ∀ L, L ≤ 9 → (∀ i, i < L → isL f (s + i) = true) → (encJ f s L).toInt = enc f s L ∧ 0 ≤ enc f s L ∧ enc f s L < 27 ^ L := by
  intro L
  induction L with
  | zero =>
    intro _ _
    refine ⟨?_, Int.le_refl _, ?_⟩
    · show (0 : Int64).toInt = 0; decide
    · show (0 : Int) < 27 ^ 0; decide
  | succ L ih =>
    intro hL h
    obtain ⟨e, h0, h1⟩ := ih (by omega) (fun i hi => h i (by omega))
    have b := isL_r (h L (by omega))
    have hp : (27 : Int) ^ L ≤ 282429536481 := pow27 ⟨L, by omega⟩
    have h2 : enc f s L < 282429536481 := Int.lt_of_lt_of_le h1 hp
    have e1 : (27 * encJ f s L).toInt = 27 * enc f s L := by
      rw [Int64.toInt_mul, e, show (27 : Int64).toInt = 27 from by decide]
      exact Int.bmod_eq_of_le (by omega) (by omega)
    have e2 : ((27 * encJ f s L) + (Int32.toInt64 (f (s + L)))).toInt = 27 * enc f s L + (f (s + L)).toInt := by
      rw [Int64.toInt_add, e1, Int32.toInt_toInt64]
      exact Int.bmod_eq_of_le (by omega) (by omega)
    refine ⟨?_, ?_, ?_⟩
    · show (((27 * encJ f s L) + (Int32.toInt64 (f (s + L)))) - 96).toInt = 27 * enc f s L + ((f (s + L)).toInt - 96)
      rw [Int64.toInt_sub, e2, show (96 : Int64).toInt = 96 from by decide, Int.bmod_eq_of_le (by omega) (by omega)]
      omega
    · show 0 ≤ 27 * enc f s L + ((f (s + L)).toInt - 96)
      omega
    · show 27 * enc f s L + ((f (s + L)).toInt - 96) < 27 ^ (L + 1)
      rw [Int.pow_succ]
      omega
def tokL (f : Nat → Int32) (s L : Nat) : Int64 := bif decide (L ≤ 9) then encJ f s L else -4
theorem tokL_0 (f : Nat → Int32) (s : Nat) : tokL f s (s - s) = 0 := by rw [Nat.sub_self]; rfl
theorem tokL_t {f : Nat → Int32} {s L : Nat} (h : L ≤ 9) : tokL f s L = encJ f s L := by unfold tokL; rw [decide_eq_true h]; rfl
theorem tokL_f {f : Nat → Int32} {s L : Nat} (h : 9 < L) : tokL f s L = -4 := by unfold tokL; rw [decide_eq_false (by omega)]; rfl
theorem tokL_a {f : Nat → Int32} {s k : Nat} (h : s ≤ k) (h9 : k - s < 9) : ((27 * tokL f s (k - s)) + (Int32.toInt64 (f k))) - 96 = tokL f s (k + 1 - s) := by
  rw [show k + 1 - s = (k - s) + 1 by omega, tokL_t (by omega), tokL_t (by omega)]
  show _ = ((27 * encJ f s (k - s)) + (Int32.toInt64 (f (s + (k - s))))) - 96
  rw [show s + (k - s) = k by omega]
theorem tokL_b {f : Nat → Int32} {s k : Nat} (h9 : 9 ≤ k - s) : (-4 : Int64) = tokL f s (k + 1 - s) := (tokL_f (by omega)).symm
theorem sub_lt {k s m : Nat} {c : Int32} (hc : c = nI m) (hm : m < 1000) (hs : s ≤ k) (hk : k ≤ 160) (q : ¬ c ≤ nI k - nI s) : k - s < m := by
  rw [hc, sub_nI hs hk] at q
  exact Nat.not_le.mp (fun e => q ((nI_leI (by omega) (by omega)).mpr e))
theorem sub_ge {k s m : Nat} {c : Int32} (hc : c = nI m) (hm : m < 1000) (hs : s ≤ k) (hk : k ≤ 160) (q : c ≤ nI k - nI s) : m ≤ k - s := by
  rw [hc, sub_nI hs hk] at q
  exact nI_les (by omega) (by omega) q
theorem sub_gt {k s m : Nat} {c : Int32} (hc : c = nI m) (hm : m < 1000) (hs : s ≤ k) (hk : k ≤ 160) (q : ¬ nI k - nI s ≤ c) : m < k - s := by
  rw [hc, sub_nI hs hk] at q
  exact Nat.not_le.mp (fun e => q ((nI_leI (by omega) (by omega)).mpr e))
theorem lt_nI {a m : Nat} {c : Int32} (hc : c = nI m) (hm : m < 1000) (ha : a < 1000) (q : ¬ c ≤ nI a) : a < m := by
  rw [hc] at q
  exact Nat.not_le.mp (fun e => q ((nI_leI (by omega) (by omega)).mpr e))
theorem ge_nI {a m : Nat} {c : Int32} (hc : c = nI m) (hm : m < 1000) (ha : a < 1000) (q : c ≤ nI a) : m ≤ a := by
  rw [hc] at q
  exact nI_les (by omega) (by omega) q
theorem le_nI {a m : Nat} {c : Int32} (hc : c = nI m) (hm : m < 1000) (ha : a < 1000) (q : nI a ≤ c) : a ≤ m := by
  rw [hc] at q
  exact nI_les (by omega) (by omega) q
theorem gt_nI {a m : Nat} {c : Int32} (hc : c = nI m) (hm : m < 1000) (ha : a < 1000) (q : ¬ nI a ≤ c) : m < a := by
  rw [hc] at q
  exact Nat.not_le.mp (fun e => q ((nI_leI (by omega) (by omega)).mpr e))
/-! digits -/
theorem nuF_snoc {f : Nat → Int32} : ∀ (m i : Nat) (g : Int32), nuF f (m + 1) i g = ((10 * nuF f m i g) + f (i + m)) - 48 := by
  intro m
  induction m with
  | zero => intro i g; rfl
  | succ m ih =>
    intro i g
    show nuF f (m + 1) (i + 1) (((10 * g) + f i) - 48) = _
    rw [ih (i + 1)]
    show _ = ((10 * nuF f m (i + 1) (((10 * g) + f i) - 48)) + f (i + (m + 1))) - 48
    rw [show i + 1 + m = i + (m + 1) by omega]
theorem nuT_0 (f : Nat → Int32) (s : Nat) : (0 : Int32) = nuF f (min (s - s) 5) s 0 := by rw [Nat.sub_self]; rfl
theorem nuT_a {f : Nat → Int32} {s k : Nat} (h : s ≤ k) (h5 : k - s < 5) : ((10 * nuF f (min (k - s) 5) s 0) + f k) - 48 = nuF f (min (k + 1 - s) 5) s 0 := by
  rw [show min (k + 1 - s) 5 = (k - s) + 1 by omega, show min (k - s) 5 = k - s by omega, nuF_snoc, show s + (k - s) = k by omega]
theorem nuT_b {f : Nat → Int32} {s k : Nat} (h5 : 5 ≤ k - s) : nuF f (min (k - s) 5) s 0 = nuF f (min (k + 1 - s) 5) s 0 := by
  rw [show min (k + 1 - s) 5 = 5 by omega, show min (k - s) 5 = 5 by omega]
theorem dig_s {s k : Nat} (h : s ≤ k) : nI (k - s) + 1 = nI (k + 1 - s) := by rw [nI_1, show k + 1 - s = (k - s) + 1 by omega]
/-! rows of letters, of digits -/
theorem no_ld {a : Int32} (h : inB a 97 122 = true) : inB a 48 57 = false := by
  refine inB_f (fun q => ?_)
  have r1 := ti_in (inB_r h)
  have r2 := ti_in q
  have z1 : (97 : Int32).toInt = 97 := by decide
  have z2 : (57 : Int32).toInt = 57 := by decide
  omega
theorem row_l {f : Nat → Int32} {s : Nat} (h : isL f s = true) (b : Int32) : rowB (f s) b = inB b 97 122 := by
  have h1 : inB (f s) 97 122 = true := h
  unfold rowB
  rw [h1, no_ld h1, Bool.true_and, Bool.false_and, Bool.or_false]
theorem row_d {f : Nat → Int32} {s : Nat} (h : isD f s = true) (b : Int32) : rowB (f s) b = inB b 48 57 := by
  have h1 : inB (f s) 48 57 = true := h
  have h2 : inB (f s) 97 122 = false := by
    cases h3 : inB (f s) 97 122
    · rfl
    · rw [no_ld h3] at h1; cases h1
  unfold rowB
  rw [h1, h2, Bool.true_and, Bool.false_and, Bool.false_or]
theorem row_o {f : Nat → Int32} {s : Nat} (h1 : isL f s = false) (h2 : isD f s = false) (b : Int32) : rowB (f s) b = false := by
  have e1 : inB (f s) 97 122 = false := h1
  have e2 : inB (f s) 48 57 = false := h2
  unfold rowB
  rw [e1, e2]; rfl
theorem te_st {f : Nat → Int32} {n s : Nat} (hn : n ≤ 160) (hs : s < n) (hP : rowB (f s) (f s) = true) : teF (fun k => rowB (f s) (f k)) n (160 - s) s = tkE f n s := by
  rw [tkE_lt hs]
  exact (te_s2 hn rfl hs hP).symm
theorem te_all {P : Nat → Bool} {n : Nat} : ∀ (q k i : Nat), k ≤ i → i < teF P n q k → P i = true := by
  intro q
  induction q with
  | zero => intro k i h1 h2; exact absurd (show i < k from h2) (by omega)
  | succ q ih =>
    intro k i h1 h2
    have h3 : i < (if k < n ∧ P k = true then teF P n q (k + 1) else k) := h2
    by_cases c : k < n ∧ P k = true
    · rw [if_pos c] at h3
      by_cases e : i = k
      · rw [e]; exact c.2
      · exact ih (k + 1) i (by omega) h3
    · rw [if_neg c] at h3; omega
theorem tk_all {f : Nat → Int32} {n s i : Nat} (hs : s < n) (h1 : s ≤ i) (h2 : i < tkE f n s) (hP : rowB (f s) (f s) = true) : rowB (f s) (f i) = true := by
  by_cases e : i = s
  · rw [e]; exact hP
  · rw [tkE_lt hs] at h2
    exact te_all (P := fun k => rowB (f s) (f k)) _ _ i (by omega) h2
theorem tk_o {f : Nat → Int32} {n s : Nat} (hs : s < n) (h1 : isL f s = false) (h2 : isD f s = false) : tkE f n s = s + 1 := by
  rw [tkE_lt hs]
  exact (te_e (P := fun k => rowB (f s) (f k)) rfl (Or.inr (row_o h1 h2 _))).symm
theorem enc_w0 {f : Nat → Int32} {s L : Nat} (h : ∀ i, i < L → isL f (s + i) = true) : enc f s L = 411 ↔ L = 2 ∧ wCh f s 0 = true := by
  constructor
  · intro e
    obtain ⟨M1, hM1, e1, c1⟩ := enc_c (q := 15) (r := 6) h (by decide) (by decide) (e.trans (by decide))
    have h1 : ∀ i, i < M1 → isL f (s + i) = true := fun i hi => h i (by omega)
    obtain ⟨M0, hM0, e0, c0⟩ := enc_c (q := 0) (r := 15) h1 (by decide) (by decide) (e1.trans (by decide))
    have h0 : ∀ i, i < M0 → isL f (s + i) = true := fun i hi => h i (by omega)
    have z := (enc_0 h0).mp e0
    refine ⟨by omega, ?_⟩
    have d0 : f (s + 0) = 111 := by rw [show M0 = 0 by omega] at c0; exact Int32.toInt_inj.mp (by have z : (111 : Int32).toInt = 111 := (by decide); omega)
    have d1 : f (s + 1) = 102 := by rw [show M1 = 1 by omega] at c1; exact Int32.toInt_inj.mp (by have z : (102 : Int32).toInt = 102 := (by decide); omega)
    show (decide (f s = 111) && _) = true
    rw [decide_eq_true (show f s = 111 from d0), decide_eq_true d1]; rfl
  · rintro ⟨rfl, hw⟩
    have hw2 : (decide (f s = 111) && decide (f (s + 1) = 102)) = true := hw
    simp only [Bool.and_eq_true, decide_eq_true_eq] at hw2
    obtain ⟨d0, d1⟩ := hw2
    show 27 * (27 * (0 : Int) + ((f s).toInt - 96)) + ((f (s + 1)).toInt - 96) = 411
    rw [d0, d1]; decide
theorem enc_w1 {f : Nat → Int32} {s L : Nat} (h : ∀ i, i < L → isL f (s + i) = true) : enc f s L = 131638 ↔ L = 4 ∧ wCh f s 1 = true := by
  constructor
  · intro e
    obtain ⟨M3, hM3, e3, c3⟩ := enc_c (q := 4875) (r := 13) h (by decide) (by decide) (e.trans (by decide))
    have h3 : ∀ i, i < M3 → isL f (s + i) = true := fun i hi => h i (by omega)
    obtain ⟨M2, hM2, e2, c2⟩ := enc_c (q := 180) (r := 15) h3 (by decide) (by decide) (e3.trans (by decide))
    have h2 : ∀ i, i < M2 → isL f (s + i) = true := fun i hi => h i (by omega)
    obtain ⟨M1, hM1, e1, c1⟩ := enc_c (q := 6) (r := 18) h2 (by decide) (by decide) (e2.trans (by decide))
    have h1 : ∀ i, i < M1 → isL f (s + i) = true := fun i hi => h i (by omega)
    obtain ⟨M0, hM0, e0, c0⟩ := enc_c (q := 0) (r := 6) h1 (by decide) (by decide) (e1.trans (by decide))
    have h0 : ∀ i, i < M0 → isL f (s + i) = true := fun i hi => h i (by omega)
    have z := (enc_0 h0).mp e0
    refine ⟨by omega, ?_⟩
    have d0 : f (s + 0) = 102 := by rw [show M0 = 0 by omega] at c0; exact Int32.toInt_inj.mp (by have z : (102 : Int32).toInt = 102 := (by decide); omega)
    have d1 : f (s + 1) = 114 := by rw [show M1 = 1 by omega] at c1; exact Int32.toInt_inj.mp (by have z : (114 : Int32).toInt = 114 := (by decide); omega)
    have d2 : f (s + 2) = 111 := by rw [show M2 = 2 by omega] at c2; exact Int32.toInt_inj.mp (by have z : (111 : Int32).toInt = 111 := (by decide); omega)
    have d3 : f (s + 3) = 109 := by rw [show M3 = 3 by omega] at c3; exact Int32.toInt_inj.mp (by have z : (109 : Int32).toInt = 109 := (by decide); omega)
    show (decide (f s = 102) && _) = true
    rw [decide_eq_true (show f s = 102 from d0), decide_eq_true d1, decide_eq_true d2, decide_eq_true d3]; rfl
  · rintro ⟨rfl, hw⟩
    have hw2 : (decide (f s = 102) && (decide (f (s + 1) = 114) && (decide (f (s + 2) = 111) && decide (f (s + 3) = 109)))) = true := hw
    simp only [Bool.and_eq_true, decide_eq_true_eq] at hw2
    obtain ⟨d0, d1, d2, d3⟩ := hw2
    show 27 * (27 * (27 * (27 * (0 : Int) + ((f s).toInt - 96)) + ((f (s + 1)).toInt - 96)) + ((f (s + 2)).toInt - 96)) + ((f (s + 3)).toInt - 96) = 131638
    rw [d0, d1, d2, d3]; decide
theorem enc_w2 {f : Nat → Int32} {s L : Nat} (h : ∀ i, i < L → isL f (s + i) = true) : enc f s L = 555 ↔ L = 2 ∧ wCh f s 2 = true := by
  constructor
  · intro e
    obtain ⟨M1, hM1, e1, c1⟩ := enc_c (q := 20) (r := 15) h (by decide) (by decide) (e.trans (by decide))
    have h1 : ∀ i, i < M1 → isL f (s + i) = true := fun i hi => h i (by omega)
    obtain ⟨M0, hM0, e0, c0⟩ := enc_c (q := 0) (r := 20) h1 (by decide) (by decide) (e1.trans (by decide))
    have h0 : ∀ i, i < M0 → isL f (s + i) = true := fun i hi => h i (by omega)
    have z := (enc_0 h0).mp e0
    refine ⟨by omega, ?_⟩
    have d0 : f (s + 0) = 116 := by rw [show M0 = 0 by omega] at c0; exact Int32.toInt_inj.mp (by have z : (116 : Int32).toInt = 116 := (by decide); omega)
    have d1 : f (s + 1) = 111 := by rw [show M1 = 1 by omega] at c1; exact Int32.toInt_inj.mp (by have z : (111 : Int32).toInt = 111 := (by decide); omega)
    show (decide (f s = 116) && _) = true
    rw [decide_eq_true (show f s = 116 from d0), decide_eq_true d1]; rfl
  · rintro ⟨rfl, hw⟩
    have hw2 : (decide (f s = 116) && decide (f (s + 1) = 111)) = true := hw
    simp only [Bool.and_eq_true, decide_eq_true_eq] at hw2
    obtain ⟨d0, d1⟩ := hw2
    show 27 * (27 * (0 : Int) + ((f s).toInt - 96)) + ((f (s + 1)).toInt - 96) = 555
    rw [d0, d1]; decide
theorem enc_w3 {f : Nat → Int32} {s L : Nat} (h : ∀ i, i < L → isL f (s + i) = true) : enc f s L = 2968 ↔ L = 3 ∧ wCh f s 3 = true := by
  constructor
  · intro e
    obtain ⟨M2, hM2, e2, c2⟩ := enc_c (q := 109) (r := 25) h (by decide) (by decide) (e.trans (by decide))
    have h2 : ∀ i, i < M2 → isL f (s + i) = true := fun i hi => h i (by omega)
    obtain ⟨M1, hM1, e1, c1⟩ := enc_c (q := 4) (r := 1) h2 (by decide) (by decide) (e2.trans (by decide))
    have h1 : ∀ i, i < M1 → isL f (s + i) = true := fun i hi => h i (by omega)
    obtain ⟨M0, hM0, e0, c0⟩ := enc_c (q := 0) (r := 4) h1 (by decide) (by decide) (e1.trans (by decide))
    have h0 : ∀ i, i < M0 → isL f (s + i) = true := fun i hi => h i (by omega)
    have z := (enc_0 h0).mp e0
    refine ⟨by omega, ?_⟩
    have d0 : f (s + 0) = 100 := by rw [show M0 = 0 by omega] at c0; exact Int32.toInt_inj.mp (by have z : (100 : Int32).toInt = 100 := (by decide); omega)
    have d1 : f (s + 1) = 97 := by rw [show M1 = 1 by omega] at c1; exact Int32.toInt_inj.mp (by have z : (97 : Int32).toInt = 97 := (by decide); omega)
    have d2 : f (s + 2) = 121 := by rw [show M2 = 2 by omega] at c2; exact Int32.toInt_inj.mp (by have z : (121 : Int32).toInt = 121 := (by decide); omega)
    show (decide (f s = 100) && _) = true
    rw [decide_eq_true (show f s = 100 from d0), decide_eq_true d1, decide_eq_true d2]; rfl
  · rintro ⟨rfl, hw⟩
    have hw2 : (decide (f s = 100) && (decide (f (s + 1) = 97) && decide (f (s + 2) = 121))) = true := hw
    simp only [Bool.and_eq_true, decide_eq_true_eq] at hw2
    obtain ⟨d0, d1, d2⟩ := hw2
    show 27 * (27 * (27 * (0 : Int) + ((f s).toInt - 96)) + ((f (s + 1)).toInt - 96)) + ((f (s + 2)).toInt - 96) = 2968
    rw [d0, d1, d2]; decide
theorem enc_w4 {f : Nat → Int32} {s L : Nat} (h : ∀ i, i < L → isL f (s + i) = true) : enc f s L = 40187 ↔ L = 4 ∧ wCh f s 4 = true := by
  constructor
  · intro e
    obtain ⟨M3, hM3, e3, c3⟩ := enc_c (q := 1488) (r := 11) h (by decide) (by decide) (e.trans (by decide))
    have h3 : ∀ i, i < M3 → isL f (s + i) = true := fun i hi => h i (by omega)
    obtain ⟨M2, hM2, e2, c2⟩ := enc_c (q := 55) (r := 3) h3 (by decide) (by decide) (e3.trans (by decide))
    have h2 : ∀ i, i < M2 → isL f (s + i) = true := fun i hi => h i (by omega)
    obtain ⟨M1, hM1, e1, c1⟩ := enc_c (q := 2) (r := 1) h2 (by decide) (by decide) (e2.trans (by decide))
    have h1 : ∀ i, i < M1 → isL f (s + i) = true := fun i hi => h i (by omega)
    obtain ⟨M0, hM0, e0, c0⟩ := enc_c (q := 0) (r := 2) h1 (by decide) (by decide) (e1.trans (by decide))
    have h0 : ∀ i, i < M0 → isL f (s + i) = true := fun i hi => h i (by omega)
    have z := (enc_0 h0).mp e0
    refine ⟨by omega, ?_⟩
    have d0 : f (s + 0) = 98 := by rw [show M0 = 0 by omega] at c0; exact Int32.toInt_inj.mp (by have z : (98 : Int32).toInt = 98 := (by decide); omega)
    have d1 : f (s + 1) = 97 := by rw [show M1 = 1 by omega] at c1; exact Int32.toInt_inj.mp (by have z : (97 : Int32).toInt = 97 := (by decide); omega)
    have d2 : f (s + 2) = 99 := by rw [show M2 = 2 by omega] at c2; exact Int32.toInt_inj.mp (by have z : (99 : Int32).toInt = 99 := (by decide); omega)
    have d3 : f (s + 3) = 107 := by rw [show M3 = 3 by omega] at c3; exact Int32.toInt_inj.mp (by have z : (107 : Int32).toInt = 107 := (by decide); omega)
    show (decide (f s = 98) && _) = true
    rw [decide_eq_true (show f s = 98 from d0), decide_eq_true d1, decide_eq_true d2, decide_eq_true d3]; rfl
  · rintro ⟨rfl, hw⟩
    have hw2 : (decide (f s = 98) && (decide (f (s + 1) = 97) && (decide (f (s + 2) = 99) && decide (f (s + 3) = 107)))) = true := hw
    simp only [Bool.and_eq_true, decide_eq_true_eq] at hw2
    obtain ⟨d0, d1, d2, d3⟩ := hw2
    show 27 * (27 * (27 * (27 * (0 : Int) + ((f s).toInt - 96)) + ((f (s + 1)).toInt - 96)) + ((f (s + 2)).toInt - 96)) + ((f (s + 3)).toInt - 96) = 40187
    rw [d0, d1, d2, d3]; decide
/-! what a token is, in words of the text -/
def wcD : Nat → Int64
  | 0 => 411
  | 1 => 131638
  | 2 => 555
  | 3 => 2968
  | _ => 40187
def TV (f : Nat → Int32) (n s : Nat) (t : Int64) (v : Int32) : Prop := (∀ k, k < 5 → (t = wcD k ↔ rdB f n s k = true)) ∧ (t = -3 ↔ rdB f n s 5 = true) ∧ (t = -2 ↔ s = n) ∧ (t = -1 → v = nu f n s) ∧ (¬ t = -1 → nu f n s = -1)
theorem rdB_ff {f : Nat → Int32} {n s k : Nat} (h : ¬ tkE f n s - s = wLn k) : rdB f n s k = false := by unfold rdB; rw [decide_eq_false h]; rfl
theorem rdB_fw {f : Nat → Int32} {n s k : Nat} (h : wCh f s k = false) : rdB f n s k = false := by unfold rdB; rw [h, Bool.and_false]
theorem wLn_1 (k : Nat) : 1 ≤ wLn k ∧ wLn k ≤ 4 := by
  match k with
  | 0 => exact ⟨by decide, by decide⟩
  | 1 => exact ⟨by decide, by decide⟩
  | 2 => exact ⟨by decide, by decide⟩
  | 3 => exact ⟨by decide, by decide⟩
  | 4 => exact ⟨by decide, by decide⟩
  | k + 5 => exact (show 1 ≤ 1 ∧ 1 ≤ 4 from ⟨by decide, by decide⟩)
/-- the first sign of a word is a letter -/
theorem wCh_l {f : Nat → Int32} {s k : Nat} (hk : k < 5) (h : isL f s = false) : wCh f s k = false := by
  have g : ∀ c : Int32, inB c 97 122 = true → decide (f s = c) = false := by
    intro c hc
    refine decide_eq_false (fun e => ?_)
    have h2 : inB (f s) 97 122 = false := h
    rw [e, hc] at h2; cases h2
  match k, hk with
  | 0, _ => show (decide (f s = 111) && _) = false; rw [g 111 (by decide)]; rfl
  | 1, _ => show (decide (f s = 102) && _) = false; rw [g 102 (by decide)]; rfl
  | 2, _ => show (decide (f s = 116) && _) = false; rw [g 116 (by decide)]; rfl
  | 3, _ => show (decide (f s = 100) && _) = false; rw [g 100 (by decide)]; rfl
  | 4, _ => show (decide (f s = 98) && _) = false; rw [g 98 (by decide)]; rfl
  | k + 5, hk => exact absurd hk (by omega)
theorem wcD_ne {k : Nat} (hk : k < 5) : ¬ wcD k = -1 ∧ ¬ wcD k = -2 ∧ ¬ wcD k = -3 ∧ ¬ wcD k = -4 := by
  match k, hk with
  | 0, _ => exact ⟨by decide, by decide, by decide, by decide⟩
  | 1, _ => exact ⟨by decide, by decide, by decide, by decide⟩
  | 2, _ => exact ⟨by decide, by decide, by decide, by decide⟩
  | 3, _ => exact ⟨by decide, by decide, by decide, by decide⟩
  | 4, _ => exact ⟨by decide, by decide, by decide, by decide⟩
  | k + 5, hk => exact absurd hk (by omega)
theorem iff_ff {p : Prop} {b : Bool} (h1 : ¬ p) (h2 : b = false) : p ↔ b = true := ⟨fun h => absurd h h1, fun h => by rw [h2] at h; cases h⟩
/-- the end of the text -/
theorem tv_end {f : Nat → Int32} {n : Nat} {t : Int64} {v : Int32} (ht : t = -2) : TV f n n t v := by
  have e : tkE f n n = n := tkE_ge (Nat.le_refl n)
  subst ht
  refine ⟨fun k hk => iff_ff (fun h => (wcD_ne hk).2.1 h.symm) (rdB_ff (by have := wLn_1 k; rw [e]; omega)), iff_ff (by decide) (rdB_ff (by have := wLn_1 5; rw [e]; omega)), ⟨fun _ => rfl, fun _ => rfl⟩, fun h => absurd h (by decide), fun _ => ?_⟩
  unfold nu
  rw [decide_eq_false (show ¬ 1 ≤ tkE f n n - n by rw [e]; omega)]; rfl
/-- a row of letters -/
theorem tv_let {f : Nat → Int32} {n s k : Nat} {t : Int64} {v : Int32} (hn : n ≤ 160) (hs : s < n) (hL : isL f s = true) (hk : k = tkE f n s) (ht : t = tokL f s (k - s)) : TV f n s t v := by
  have hP : rowB (f s) (f s) = true := by rw [row_l hL]; exact hL
  have hlt := (te_p (f := f) (Nat.le_of_lt hs)).2.2 hs
  have hl : ∀ i, i < k - s → isL f (s + i) = true := by
    intro i hi
    have q := tk_all (f := f) (n := n) (i := s + i) hs (by omega) (by omega) hP
    rw [row_l hL] at q
    exact q
  have h59 : rdB f n s 5 = false := by
    refine rdB_fw ?_
    show decide (f s = 59) = false
    refine decide_eq_false (fun e => ?_)
    have h2 : inB (f s) 97 122 = true := hL
    rw [e] at h2
    exact absurd h2 (by decide)
  have hnu : nu f n s = -1 := by
    unfold nu
    have h2 : inB (f s) 48 57 = false := no_ld hL
    rw [h2, Bool.and_false, Bool.and_false]; rfl
  subst ht
  by_cases h9 : k - s ≤ 9
  · rw [tokL_t h9]
    obtain ⟨e, h0, h1⟩ := encJ_ti (f := f) (s := s) (k - s) h9 hl
    have hp := (enc_pos (f := f) (s := s) (k - s) hl).2 (by omega)
    have ne : ∀ c : Int64, c.toInt ≤ 0 → ¬ encJ f s (k - s) = c := by
      intro c hc q
      rw [← q, e] at hc
      omega
    have tw : ∀ (c : Int64) (j : Nat) (z : Int), c.toInt = z → (enc f s (k - s) = z ↔ k - s = wLn j ∧ wCh f s j = true) → (encJ f s (k - s) = c ↔ rdB f n s j = true) := by
      intro c j z hz h
      unfold rdB
      rw [← hk]
      constructor
      · intro q
        have a := h.mp (by rw [← e, q, hz])
        rw [decide_eq_true a.1, a.2]; rfl
      · intro q
        simp only [Bool.and_eq_true, decide_eq_true_eq] at q
        exact Int64.toInt_inj.mp (by rw [e, hz]; exact h.mpr q)
    refine ⟨fun j hj => ?_, iff_ff (ne _ (by decide)) h59, ⟨fun q => absurd q (ne _ (by decide)), fun q => absurd q (by omega)⟩, fun q => absurd q (ne _ (by decide)), fun _ => hnu⟩
    match j, hj with
    | 0, _ => exact tw 411 0 411 (by decide) (enc_w0 hl)
    | 1, _ => exact tw 131638 1 131638 (by decide) (enc_w1 hl)
    | 2, _ => exact tw 555 2 555 (by decide) (enc_w2 hl)
    | 3, _ => exact tw 2968 3 2968 (by decide) (enc_w3 hl)
    | 4, _ => exact tw 40187 4 40187 (by decide) (enc_w4 hl)
    | j + 5, hj => exact absurd hj (by omega)
  · rw [tokL_f (by omega)]
    refine ⟨fun j hj => iff_ff (fun h => (wcD_ne hj).2.2.2 h.symm) (rdB_ff (by have := wLn_1 j; omega)), iff_ff (by decide) h59, ⟨fun q => absurd q (by decide), fun q => absurd q (by omega)⟩, fun q => absurd q (by decide), fun _ => hnu⟩
/-- a row of digits -/
theorem tv_dig {f : Nat → Int32} {n s k : Nat} {t : Int64} {v : Int32} (hn : n ≤ 160) (hs : s < n) (hD : isD f s = true) (hk : k = tkE f n s) (ht : t = -4 ∧ 5 < k - s ∨ t = -1 ∧ k - s ≤ 5) (hv : v = nuF f (min (k - s) 5) s 0) : TV f n s t v := by
  have hL : isL f s = false := by
    cases h3 : isL f s
    · rfl
    · have h4 : isD f s = false := no_ld h3
      rw [h4] at hD; cases hD
  have hlt := (te_p (f := f) (Nat.le_of_lt hs)).2.2 hs
  have h59 : rdB f n s 5 = false := by
    refine rdB_fw ?_
    show decide (f s = 59) = false
    refine decide_eq_false (fun e => ?_)
    have h2 : inB (f s) 48 57 = true := hD
    rw [e] at h2
    exact absurd h2 (by decide)
  have hD2 : inB (f s) 48 57 = true := hD
  rcases ht with ⟨rfl, h5⟩ | ⟨rfl, h5⟩
  · refine ⟨fun j hj => iff_ff (fun h => (wcD_ne hj).2.2.2 h.symm) (rdB_fw (wCh_l hj hL)), iff_ff (by decide) h59, ⟨fun q => absurd q (by decide), fun q => absurd q (by omega)⟩, fun q => absurd q (by decide), fun _ => ?_⟩
    unfold nu
    rw [← hk, decide_eq_false (show ¬ k - s ≤ 5 by omega), Bool.false_and, Bool.and_false]; rfl
  · refine ⟨fun j hj => iff_ff (fun h => (wcD_ne hj).1 h.symm) (rdB_fw (wCh_l hj hL)), iff_ff (by decide) h59, ⟨fun q => absurd q (by decide), fun q => absurd q (by omega)⟩, fun _ => ?_, fun q => absurd rfl q⟩
    rw [hv]
    unfold nu
    rw [← hk, decide_eq_true (show 1 ≤ k - s by omega), decide_eq_true h5, hD2, show min (k - s) 5 = k - s by omega]; rfl
/-- any other byte -/
theorem tv_oth {f : Nat → Int32} {n s : Nat} {t : Int64} {v : Int32} (hs : s < n) (hL : isL f s = false) (hD : isD f s = false) (ht : f s = 59 ∧ t = -3 ∨ ¬ f s = 59 ∧ t = -4) : TV f n s t v := by
  have e := tk_o hs hL hD
  have hnu : nu f n s = -1 := by
    unfold nu
    have h2 : inB (f s) 48 57 = false := hD
    rw [h2, Bool.and_false, Bool.and_false]; rfl
  rcases ht with ⟨h, rfl⟩ | ⟨h, rfl⟩
  · refine ⟨fun j hj => iff_ff (fun q => (wcD_ne hj).2.2.1 q.symm) (rdB_fw (wCh_l hj hL)), ⟨fun _ => ?_, fun _ => rfl⟩, ⟨fun q => absurd q (by decide), fun q => absurd q (by omega)⟩, fun q => absurd q (by decide), fun _ => hnu⟩
    show (decide (tkE f n s - s = 1) && decide (f s = 59)) = true
    rw [decide_eq_true (show tkE f n s - s = 1 by rw [e]; omega), decide_eq_true h]; rfl
  · refine ⟨fun j hj => iff_ff (fun q => (wcD_ne hj).2.2.2 q.symm) (rdB_fw (wCh_l hj hL)), iff_ff (by decide) (rdB_fw (decide_eq_false h)), ⟨fun q => absurd q (by decide), fun q => absurd q (by omega)⟩, fun q => absurd q (by decide), fun _ => hnu⟩
/-- where the reference's reader stands: f the text, r the lines read, c how many -/
def mQs (f r : Nat → Int32) (n : Nat) (c : Int32) (σ : Sg) : Prop := σ.1 14037 = nI n ∧ σ.2.2.1 170 = f ∧ σ.2.2.1 171 = r ∧ σ.1 14045 = c ∧ n ≤ 160
def MT (f : Nat → Int32) (n s : Nat) (σ : Sg) : Prop := σ.1 14039 = nI (tkE f n s) ∧ σ.1 14040 = nI s ∧ s ≤ n ∧ TV f n s (σ.2.1 14041) (σ.1 14043)
def qPs (f r : Nat → Int32) (n : Nat) (c : Int32) (σ : Sg) (k : Nat) : Prop := mQs f r n c σ ∧ σ.1 14039 = nI k
def qLt (f r : Nat → Int32) (n : Nat) (c : Int32) (σ : Sg) (s k : Nat) : Prop := mQs f r n c σ ∧ σ.1 14039 = nI k ∧ σ.1 14040 = nI s ∧ σ.2.1 14041 = tokL f s (k - s)
def qDg (f r : Nat → Int32) (n : Nat) (c : Int32) (σ : Sg) (s k : Nat) : Prop := mQs f r n c σ ∧ σ.1 14039 = nI k ∧ σ.1 14040 = nI s ∧ σ.1 14042 = nI (k - s) ∧ σ.1 14043 = nuF f (min (k - s) 5) s 0
theorem mt_of {f : Nat → Int32} {n i j : Nat} {σ : Sg} (e : i = j) (h : MT f n i σ) : MT f n j σ := e ▸ h
theorem mt_end {f : Nat → Int32} {n i : Nat} {σ : Sg} (e : i = n) (h1 : σ.1 14039 = nI i) (h2 : σ.1 14040 = nI i) (ht : σ.2.1 14041 = -2) : MT f n i σ := by
  subst e
  exact ⟨h1.trans (by rw [tkE_ge (Nat.le_refl _)]), h2, Nat.le_refl _, tv_end ht⟩
