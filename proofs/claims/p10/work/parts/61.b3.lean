/-! methods on any state that keeps the invariant -/
/-! the mask of the cells in both -/
theorem cl_bit {col : Int64} {L : Nat} (hL : L ≤ 7) (hc : ∀ x, 8 ≤ x → x < 64 → tbL col x = false) {i : Nat} (hi : i < 64) : ∀ (q y : Nat) (acc : Int64), y + q = 8 → tbL (clL col (nI L) q (nI y) acc) i = (tbL acc i || (decide (y ≤ i / 8) && (decide (i / 8 ≤ L) && tbL col (i % 8)))) := by
  intro q
  induction q with
  | zero =>
    intro y acc h
    show tbL acc i = _
    rw [decide_eq_false (show ¬ y ≤ i / 8 by omega)]; simp
  | succ q ih =>
    intro y acc h
    show tbL (if nI L < nI y then acc else clL col (nI L) q (nI y + 1) (acc ||| (col <<< (Int32.toInt64 (8 * nI y) &&& 63)))) i = _
    by_cases c : L < y
    · rw [if_pos ((nI_ltI (by omega) (by omega)).mpr c)]
      by_cases d : y ≤ i / 8
      · rw [decide_eq_false (show ¬ i / 8 ≤ L by omega)]; simp
      · rw [decide_eq_false d]; simp
    · have m8 : ∀ p : Fin 8, 8 * nI p.val = nI (8 * p.val) := by decide +kernel
      have e8 := m8 ⟨y, by omega⟩
      simp only at e8
      rw [if_neg (fun q2 => c ((nI_ltI (by omega) (by omega)).mp q2)), nI_1, ih (y + 1) _ (by omega), tbL_or, e8, shl_bit (by omega) hi]
      by_cases d : i / 8 = y
      · rw [decide_eq_true (show 8 * y ≤ i by omega), decide_eq_false (show ¬ y + 1 ≤ i / 8 by omega), decide_eq_true (show y ≤ i / 8 by omega), decide_eq_true (show i / 8 ≤ L by omega), show i - 8 * y = i % 8 by omega]; simp
      · have z : (decide (8 * y ≤ i) && tbL col (i - 8 * y)) = false := by
          by_cases d2 : 8 * y ≤ i
          · rw [hc _ (by omega) (by omega)]; simp
          · rw [decide_eq_false d2]; rfl
        have e2 : decide (y + 1 ≤ i / 8) = decide (y ≤ i / 8) := by rw [decide_eq_decide]; omega
        rw [z, e2, Bool.or_false]
theorem clC_bit : ∀ u : Fin 5, ∀ x : Fin 64, tbL (clC (nI u.val + (-2))) x.val = (decide (x.val < 8) && (decide (2 ≤ x.val + u.val) && decide (x.val + u.val ≤ 9))) := by decide +kernel
theorem clF_n : ∀ s t v : Fin 5, clF (nI s.val) (nI t.val) (nI v.val + (-2)) = nI (max s.val (t.val + 2 - v.val)) := by decide +kernel
theorem clT_n : ∀ v : Fin 5, clT (nI v.val + (-2)) = nI (min 7 (9 - v.val)) := by decide +kernel
theorem cb_bit {s t n i : Nat} (hs : s < 5) (ht : t < 5) (hn : n < 25) (hi : i < 64) : tbL (cbC (nI s) (nI t) (dX n) (dY n)) i = ibI s t n i := by
  have hu : n % 5 < 5 := by omega
  have hv : n / 5 < 5 := by omega
  unfold cbC dX dY
  have f1 := clF_n ⟨s, hs⟩ ⟨t, ht⟩ ⟨n / 5, hv⟩
  have f2 := clT_n ⟨n / 5, hv⟩
  simp only at f1 f2
  rw [f1, f2, nI_toInt (by omega), show ((8 : Int) - ((max s (t + 2 - n / 5) : Nat) : Int)).toNat = 8 - max s (t + 2 - n / 5) by omega]
  have hc : ∀ x, x < 64 → tbL (clC (nI (n % 5) + (-2))) x = (decide (x < 8) && (decide (2 ≤ x + n % 5) && decide (x + n % 5 ≤ 9))) := fun x hx => clC_bit ⟨n % 5, hu⟩ ⟨x, hx⟩
  rw [cl_bit (by omega) (fun x h8 h64 => by rw [hc x h64, decide_eq_false (show ¬ x < 8 by omega)]; rfl) hi _ _ _ (by omega), hc _ (by omega)]
  have z : tbL 0 i = false := by unfold tbL; simp
  rw [z, Bool.false_or, decide_eq_true (show i % 8 < 8 by omega), Bool.true_and, Bool.eq_iff_iff, ib_iff hs ht hn hi]
  unfold ibP
  simp only [Bool.and_eq_true, decide_eq_true_eq]
  have a1 : max s (t + 2 - n / 5) ≤ i / 8 ↔ (s ≤ i / 8 ∧ t + 2 ≤ i / 8 + n / 5) := by
    rw [Nat.max_le]
    exact ⟨fun h => ⟨h.1, by have := h.2; omega⟩, fun h => ⟨h.1, by have := h.2; omega⟩⟩
  have a2 : i / 8 ≤ min 7 (9 - n / 5) ↔ i / 8 + n / 5 ≤ 9 := by
    rw [Nat.le_min]
    exact ⟨fun h => by have := h.2; omega, fun h => ⟨by omega, by omega⟩⟩
  rw [a1, a2]
  exact ⟨fun ⟨⟨a, b⟩, c, d, e⟩ => ⟨a, d, e, b, c⟩, fun ⟨a, d, e, b, c⟩ => ⟨⟨a, b⟩, c, d, e⟩⟩
