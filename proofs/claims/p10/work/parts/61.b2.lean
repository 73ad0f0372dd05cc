/-! methods on any state that keeps the invariant -/
theorem uL_bit {p : Int64} {k : Nat} (hk : k < 64) (i : Nat) : tbL (uL p (nI k)) i = tbL p (k + i) := by
  have e : (uL p (nI k)).toBitVec = p.toBitVec >>> k := by
    have : ∀ k : Fin 64, ((Int64.toUInt64 (Int32.toInt64 (nI k.val)) &&& Int64.toUInt64 63).toBitVec % 64).toNat = k.val := by decide +kernel
    show p.toBitVec >>> ((Int64.toUInt64 (Int32.toInt64 (nI k)) &&& Int64.toUInt64 63).toBitVec % 64) = _
    rw [BitVec.ushiftRight_eq', this ⟨k, hk⟩]
  unfold tbL
  rw [e, BitVec.getLsbD_ushiftRight]
theorem shl_bit {p : Int64} {k : Nat} (hk : k < 64) {i : Nat} (hi : i < 64) : tbL (p <<< ((nI k).toInt64 &&& 63)) i = (decide (k ≤ i) && tbL p (i - k)) := by
  unfold tbL
  rw [Int64.toBitVec_shiftLeft]
  show (p.toBitVec <<< ((((nI k).toInt64 &&& 63).toBitVec.smod 64#64).toNat)).getLsbD i = _
  rw [nI63 ⟨k, hk⟩, BitVec.getLsbD_shiftLeft]
  by_cases q : i < k
  · rw [decide_eq_true q, decide_eq_false (show ¬ k ≤ i by omega)]; simp
  · rw [decide_eq_false q, decide_eq_true (show k ≤ i by omega), decide_eq_true hi]; rfl
theorem tbL_or (a b : Int64) (k : Nat) : tbL (a ||| b) k = (tbL a k || tbL b k) := by unfold tbL; rw [Int64.toBitVec_or, BitVec.getLsbD_or]
