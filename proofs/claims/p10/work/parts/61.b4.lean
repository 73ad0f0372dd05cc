/-! methods on any state that keeps the invariant -/
theorem ix_chk : ∀ i : Fin 64, 8 * nI (i.val / 8) + nI (i.val % 8) = nI i.val := by decide +kernel
theorem sh_chk : ∀ n : Fin 25, shN n.val ≤ 36 ∧ shN (24 - n.val) = 36 - shN n.val ∧ (8 * dY n.val + dX n.val).toInt = (shN n.val : Int) - 18 := by decide +kernel
theorem bitM_of {p : Int64} {a b : Int32} {k : Nat} (hk : k < 64) (e : 8 * b + a = nI k) : bitM p a b = if tbL p k then 1 else 0 := by
  unfold bitM
  rw [e, bitL_of hk]
  cases tbL p k <;> rfl
theorem dfG_bit {pa pb : Int64} {s t n i : Nat} (hn : n < 25) (hs : s < 5) (ht : t < 5) (hi : i < 64) : dfG pa pb (nI s) (nI t) (dX n) (dY n) i = (ibI s t n i && (tbL pa i != tbL pb (i + shN n - 18))) := by
  unfold dfG
  show (ibI s t n i && _) = _
  cases h : ibI s t n i
  · rfl
  · have q := ib_shift hs ht hn hi h
    rw [bitM_of hi (ix_chk ⟨i, hi⟩), bitM_of q.2.1 q.2.2.2]
    cases tbL pa i <;> cases tbL pb (i + shN n - 18) <;> rfl
theorem mv_bit {p : Int64} {n i : Nat} (hn : n < 25) (hi : i < 64) (h1 : 18 ≤ i + shN n) (h2 : i + shN n - 18 < 64) : tbL (mvC p (8 * dY n + dX n)) i = tbL p (i + shN n - 18) := by
  obtain ⟨c1, c2, c3⟩ := sh_chk ⟨n, hn⟩
  simp only at c1 c3
  unfold mvC
  by_cases q : shN n < 18
  · have hlt : 8 * dY n + dX n < 0 := Int32.lt_iff_toInt_lt.mpr (by rw [c3]; show _ < (0 : Int); omega)
    have e : -(8 * dY n + dX n) = nI (18 - shN n) := by
      apply Int32.toInt_inj.mp
      rw [nI_toInt (by omega), Int32.toInt_neg, c3]
      rw [Int.bmod_eq_of_le (by omega) (by omega)]; omega
    rw [if_pos hlt, e, shl_bit (by omega) hi, decide_eq_true (show 18 - shN n ≤ i by omega), Bool.true_and]
    exact congrArg (tbL p) (by omega)
  · have hge : ¬ 8 * dY n + dX n < 0 := Int32.not_lt.mpr (Int32.le_iff_toInt_le.mpr (by rw [c3]; show (0 : Int) ≤ _; omega))
    have e : 8 * dY n + dX n = nI (shN n - 18) := by
      apply Int32.toInt_inj.mp
      rw [nI_toInt (by omega), c3]; omega
    rw [if_neg hge, e, uL_bit (by omega)]
    exact congrArg (tbL p) (by omega)
/-- the class's words for one shift -/
def ucF (pa pb : Int64) (sa sb : Int32) (n : Nat) : Int32 := bif decide (pcL (cbC sa sb (dX n) (dY n)) < 24) then -1 else pcL ((pa ^^^ mvC pb (8 * dY n + dX n)) &&& cbC sa sb (dX n) (dY n))
theorem tbL_xor (a b : Int64) (k : Nat) : tbL (a ^^^ b) k = (tbL a k != tbL b k) := by unfold tbL; rw [Int64.toBitVec_xor, BitVec.getLsbD_xor]
theorem uc_ub {pa pb : Int64} {sa sb : Int32} {n : Nat} (hn : n < 25) (ha : inR sa 0 4) (hb : inR sb 0 4) : ucF pa pb sa sb n = ubF pa pb sa sb (dX n) (dY n) := by
  obtain ⟨s, hs, rfl⟩ := nI_inR (M := 4) ha (by decide)
  obtain ⟨t, ht, rfl⟩ := nI_inR (M := 4) hb (by decide)
  have hc : ∀ i, i < 64 → (cbC (nI s) (nI t) (dX n) (dY n)).toBitVec.getLsbD i = ibG (nI s) (nI t) (dX n) (dY n) i := by
    intro i hi
    exact cb_bit (by omega) (by omega) hn hi
  have e1 : pcL (cbC (nI s) (nI t) (dX n) (dY n)) = nI (cntB (ibG (nI s) (nI t) (dX n) (dY n)) 64) := by rw [pcL_nI, cnt_congr 64 hc]
  have e2 : pcL ((pa ^^^ mvC pb (8 * dY n + dX n)) &&& cbC (nI s) (nI t) (dX n) (dY n)) = nI (cntB (dfG pa pb (nI s) (nI t) (dX n) (dY n)) 64) := by
    rw [pcL_nI]
    congr 1
    refine cnt_congr 64 (fun i hi => ?_)
    show tbL _ i = _
    rw [dfG_bit hn (by omega) (by omega) hi, tbL_and, tbL_xor]
    show ((tbL pa i != tbL (mvC pb (8 * dY n + dX n)) i) && (cbC (nI s) (nI t) (dX n) (dY n)).toBitVec.getLsbD i) = (ibG (nI s) (nI t) (dX n) (dY n) i && _)
    rw [hc i hi, Bool.and_comm]
    cases h : ibG (nI s) (nI t) (dX n) (dY n) i
    · exact (Bool.false_and _).trans (Bool.false_and _).symm
    · have q := ib_shift (s := s) (t := t) (by omega) (by omega) hn hi h
      rw [mv_bit hn hi q.1 q.2.1]
  unfold ucF ubF
  rw [e1, e2]
