/-! methods on any state that keeps the invariant -/
/-! shifts by their numbers: 5 (dy + 2) + dx + 2 -/
def dX (n : Nat) : Int32 := nI (n % 5) + (-2)
def dY (n : Nat) : Int32 := nI (n / 5) + (-2)
def shN (n : Nat) : Nat := 8 * (n / 5) + n % 5
theorem dX_rem : ∀ n : Fin 25, (nI n.val - nI n.val / 5 * 5) - 2 = dX n.val ∧ nI n.val / 5 - 2 = dY n.val := by decide +kernel
def ibI (s t n i : Nat) : Bool := ibG (nI s) (nI t) (dX n) (dY n) i
theorem ox_t : ∀ x : Fin 8, ∀ u : Fin 5, (nI x.val + (nI u.val + (-2))).toInt = (x.val : Int) + u.val - 2 := by decide +kernel
theorem ox_7 {x u : Nat} (hx : x < 8) (hu : u < 5) : inB (nI x + (nI u + (-2))) 0 7 = (decide (2 ≤ x + u) && decide (x + u ≤ 9)) := by
  have e := ox_t ⟨x, hx⟩ ⟨u, hu⟩
  simp only at e
  have z : (0 : Int32).toInt = 0 := by decide
  have z7 : (7 : Int32).toInt = 7 := by decide
  by_cases q : 2 ≤ x + u ∧ x + u ≤ 9
  · rw [decide_eq_true q.1, decide_eq_true q.2]
    exact inB_t (of_ti (by omega) (by omega))
  · have f : ¬ inR (nI x + (nI u + (-2))) 0 7 := fun h => q (by have := ti_in h; omega)
    rw [inB_f f]
    by_cases q1 : 2 ≤ x + u
    · rw [decide_eq_true q1, decide_eq_false (show ¬ x + u ≤ 9 by omega)]; rfl
    · rw [decide_eq_false q1]; rfl
theorem oy_7 {y v t : Nat} (hy : y < 8) (hv : v < 5) (ht : t < 5) : inB (nI y + (nI v + (-2))) (nI t) 7 = (decide (t + 2 ≤ y + v) && decide (y + v ≤ 9)) := by
  have e := ox_t ⟨y, hy⟩ ⟨v, hv⟩
  simp only at e
  have z : (nI t).toInt = t := nI_toInt (by omega)
  have z7 : (7 : Int32).toInt = 7 := by decide
  by_cases q : t + 2 ≤ y + v ∧ y + v ≤ 9
  · rw [decide_eq_true q.1, decide_eq_true q.2]
    exact inB_t (of_ti (by omega) (by omega))
  · have f : ¬ inR (nI y + (nI v + (-2))) (nI t) 7 := fun h => q (by have := ti_in h; omega)
    rw [inB_f f]
    by_cases q1 : t + 2 ≤ y + v
    · rw [decide_eq_true q1, decide_eq_false (show ¬ y + v ≤ 9 by omega)]; rfl
    · rw [decide_eq_false q1]; rfl
/-- a cell that is in both, in numbers -/
def ibP (s t n i : Nat) : Prop := s ≤ i / 8 ∧ 2 ≤ i % 8 + n % 5 ∧ i % 8 + n % 5 ≤ 9 ∧ t + 2 ≤ i / 8 + n / 5 ∧ i / 8 + n / 5 ≤ 9
theorem ib_iff {s t n i : Nat} (hs : s < 5) (ht : t < 5) (hn : n < 25) (hi : i < 64) : ibI s t n i = true ↔ ibP s t n i := by
  unfold ibI ibG dX dY ibP
  rw [ox_7 (show i % 8 < 8 by omega) (show n % 5 < 5 by omega), oy_7 (show i / 8 < 8 by omega) (show n / 5 < 5 by omega) ht]
  simp only [Bool.and_eq_true, Bool.not_eq_true', decide_eq_true_eq, decide_eq_false_iff_not]
  rw [nI_ltI (by omega) (by omega)]
  omega
theorem ib_shift {s t n i : Nat} (hs : s < 5) (ht : t < 5) (hn : n < 25) (hi : i < 64) (h : ibI s t n i = true) : 18 ≤ i + shN n ∧ i + shN n - 18 < 64 ∧ ibI t s (24 - n) (i + shN n - 18) = true ∧ 8 * (nI (i / 8) + dY n) + (nI (i % 8) + dX n) = nI (i + shN n - 18) := by
  have p := (ib_iff hs ht hn hi).mp h
  unfold ibP at p
  unfold shN
  have e0 : i = 8 * (i / 8) + i % 8 := by omega
  have en : n = 5 * (n / 5) + n % 5 := by omega
  have k1 : (i + (8 * (n / 5) + n % 5) - 18) / 8 = i / 8 + n / 5 - 2 := by omega
  have k2 : (i + (8 * (n / 5) + n % 5) - 18) % 8 = i % 8 + n % 5 - 2 := by omega
  have hj : i + (8 * (n / 5) + n % 5) - 18 < 64 := by omega
  refine ⟨by omega, hj, (ib_iff ht hs (by omega) hj).mpr ?_, ?_⟩
  · unfold ibP
    rw [k1, k2]
    have m1 : (24 - n) / 5 = 4 - n / 5 := by omega
    have m2 : (24 - n) % 5 = 4 - n % 5 := by omega
    rw [m1, m2]
    omega
  · have nx : nI (i % 8) + dX n = nI (i % 8 + n % 5 - 2) := by
      apply Int32.toInt_inj.mp
      have e := ox_t ⟨i % 8, by omega⟩ ⟨n % 5, by omega⟩
      simp only at e
      rw [nI_toInt (by omega)]
      unfold dX
      omega
    have ny : nI (i / 8) + dY n = nI (i / 8 + n / 5 - 2) := by
      apply Int32.toInt_inj.mp
      have e := ox_t ⟨i / 8, by omega⟩ ⟨n / 5, by omega⟩
      simp only at e
      rw [nI_toInt (by omega)]
      unfold dY
      omega
    have m88 : ∀ p q : Fin 8, 8 * nI p.val + nI q.val = nI (8 * p.val + q.val) := by decide +kernel
    have e := m88 ⟨i / 8 + n / 5 - 2, by omega⟩ ⟨i % 8 + n % 5 - 2, by omega⟩
    simp only at e
    rw [nx, ny, e]
    congr 1
    omega
