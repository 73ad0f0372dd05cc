/-! methods on any state that keeps the invariant -/
/-! shifts by their numbers: 5 (dy + 2) + dx + 2 -/
def dX (n : Nat) : Int32 := nI (n % 5) + (-2)
def dY (n : Nat) : Int32 := nI (n / 5) + (-2)
def shN (n : Nat) : Nat := 8 * (n / 5) + n % 5
theorem dX_rem : ∀ n : Fin 25, (nI n.val - nI n.val / 5 * 5) - 2 = dX n.val ∧ nI n.val / 5 - 2 = dY n.val := by decide +kernel
def ibI (s t n i : Nat) : Bool := ibG (nI s) (nI t) (dX n) (dY n) i
theorem ox_t : ∀ x : Fin 8, ∀ u : Fin 5, (nI x.val + (nI u.val + (-2))).toInt = (x.val : Int) + u.val - 2 := by decide +kernel
theorem ox_7 {x u : Nat} (hx : x < 8) (hu : u < 5) : inB (nI x + (nI u + (-2))) 0 7 = (decide (2 ≤ x + u) && decide (x + u ≤ 9)) := by
  have e := ox_t ⟨x, hx⟩ ⟨u, hu⟩
  simp only at e
  have z : (0 : Int32).toInt = 0 := by decide
  have z7 : (7 : Int32).toInt = 7 := by decide
  by_cases q : 2 ≤ x + u ∧ x + u ≤ 9
  · rw [decide_eq_true q.1, decide_eq_true q.2]
    exact inB_t (of_ti (by omega) (by omega))
  · have f : ¬ inR (nI x + (nI u + (-2))) 0 7 := fun h => q (by have := ti_in h; omega)
    rw [inB_f f]
    by_cases q1 : 2 ≤ x + u
    · rw [decide_eq_true q1, decide_eq_false (show ¬ x + u ≤ 9 by omega)]; rfl
    · rw [decide_eq_false q1]; rfl
theorem oy_7 {y v t : Nat} (hy : y < 8) (hv : v < 5) (ht : t < 5) : inB (nI y + (nI v + (-2))) (nI t) 7 = (decide (t + 2 ≤ y + v) && decide (y + v ≤ 9)) := by
  have e := ox_t ⟨y, hy⟩ ⟨v, hv⟩
  simp only at e
  have z : (nI t).toInt = t := nI_toInt (by omega)
  have z7 : (7 : Int32).toInt = 7 := by decide
  by_cases q : t + 2 ≤ y + v ∧ y + v ≤ 9
  · rw [decide_eq_true q.1, decide_eq_true q.2]
    exact inB_t (of_ti (by omega) (by omega))
  · have f : ¬ inR (nI y + (nI v + (-2))) (nI t) 7 := fun h => q (by have := ti_in h; omega)
    rw [inB_f f]
    by_cases q1 : t + 2 ≤ y + v
    · rw [decide_eq_true q1, decide_eq_false (show ¬ y + v ≤ 9 by omega)]; rfl
    · rw [decide_eq_false q1]; rfl
/-- a cell that is in both, in numbers -/
def ibP (s t n i : Nat) : Prop := s ≤ i / 8 ∧ 2 ≤ i % 8 + n % 5 ∧ i % 8 + n % 5 ≤ 9 ∧ t + 2 ≤ i / 8 + n / 5 ∧ i / 8 + n / 5 ≤ 9
theorem ib_iff {s t n i : Nat} (hs : s < 5) (ht : t < 5) (hn : n < 25) (hi : i < 64) : ibI s t n i = true ↔ ibP s t n i := by
  unfold ibI ibG dX dY ibP
  rw [ox_7 (show i % 8 < 8 by omega) (show n % 5 < 5 by omega), oy_7 (show i / 8 < 8 by omega) (show n / 5 < 5 by omega) ht]
  simp only [Bool.and_eq_true, Bool.not_eq_true', decide_eq_true_eq, decide_eq_false_iff_not]
  rw [nI_ltI (by omega) (by omega)]
  exact ⟨fun ⟨h1, h2, h3⟩ => ⟨Nat.le_of_not_lt h1, h2.1, h2.2, h3.1, h3.2⟩, fun ⟨h1, h2, h3, h4, h5⟩ => ⟨Nat.not_lt.mpr h1, ⟨h2, h3⟩, h4, h5⟩⟩
theorem dm5 {x y : Nat} (hx : x < 5) : (5 * y + x) / 5 = y ∧ (5 * y + x) % 5 = x := by omega
theorem m88 : ∀ p q : Fin 8, 8 * nI p.val + nI q.val = nI (8 * p.val + q.val) := by decide +kernel
theorem ox_n {x u : Nat} (hx : x < 8) (hu : u < 5) (h : 2 ≤ x + u) : nI x + (nI u + (-2)) = nI (x + u - 2) := by
  apply Int32.toInt_inj.mp
  have e := ox_t ⟨x, hx⟩ ⟨u, hu⟩
  simp only at e
  rw [nI_toInt (by omega), e]
  omega
theorem ib_shift' {s t V U Y X : Nat} (hs : s < 5) (ht : t < 5) (hV : V < 5) (hU : U < 5) (hY : Y < 8) (hX : X < 8) (p1 : s ≤ Y) (p2 : 2 ≤ X + U) (p3 : X + U ≤ 9) (p4 : t + 2 ≤ Y + V) (p5 : Y + V ≤ 9) : 18 ≤ 8 * Y + X + (8 * V + U) ∧ 8 * Y + X + (8 * V + U) - 18 < 64 ∧ ibI t s (24 - (5 * V + U)) (8 * Y + X + (8 * V + U) - 18) = true ∧ 8 * (nI Y + dY (5 * V + U)) + (nI X + dX (5 * V + U)) = nI (8 * Y + X + (8 * V + U) - 18) := by
  have e : 8 * Y + X + (8 * V + U) - 18 = 8 * (Y + V - 2) + (X + U - 2) := by omega
  have e2 : 24 - (5 * V + U) = 5 * (4 - V) + (4 - U) := by omega
  rw [e, e2]
  refine ⟨by omega, by omega, (ib_iff ht hs (by omega) (by omega)).mpr ?_, ?_⟩
  · unfold ibP
    rw [(dm8 (show X + U - 2 < 8 by omega)).1, (dm8 (show X + U - 2 < 8 by omega)).2, (dm5 (show 4 - U < 5 by omega)).1, (dm5 (show 4 - U < 5 by omega)).2]
    omega
  · unfold dX dY
    rw [(dm5 hU).1, (dm5 hU).2, ox_n hX hU p2, ox_n hY hV (by omega)]
    exact m88 ⟨Y + V - 2, by omega⟩ ⟨X + U - 2, by omega⟩
theorem ib_shift {s t n i : Nat} (hs : s < 5) (ht : t < 5) (hn : n < 25) (hi : i < 64) (h : ibI s t n i = true) : 18 ≤ i + shN n ∧ i + shN n - 18 < 64 ∧ ibI t s (24 - n) (i + shN n - 18) = true ∧ 8 * (nI (i / 8) + dY n) + (nI (i % 8) + dX n) = nI (i + shN n - 18) := by
  have p := (ib_iff hs ht hn hi).mp h
  unfold ibP at p
  have q := ib_shift' (V := n / 5) (U := n % 5) (Y := i / 8) (X := i % 8) hs ht (by omega) (by omega) (by omega) (by omega) p.1 p.2.1 p.2.2.1 p.2.2.2.1 p.2.2.2.2
  rw [Nat.div_add_mod n 5, Nat.div_add_mod i 8] at q
  exact q
