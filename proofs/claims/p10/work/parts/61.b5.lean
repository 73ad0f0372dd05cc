/-! methods on any state that keeps the invariant -/
/-! either way round it is the same -/
theorem cnt_shift {P Q : Nat → Bool} {S : Nat} (hS : S ≤ 36) (h1 : ∀ i j, i < 64 → j < 64 → j + 18 = i + S → P i = Q j) (h2 : ∀ i, i < 64 → P i = true → 18 ≤ i + S ∧ i + S - 18 < 64) (h3 : ∀ j, j < 64 → Q j = true → S ≤ j + 18 ∧ j + 18 - S < 64) : cntB P 64 = cntB Q 64 := by
  have bf : ∀ b : Bool, (b = true → False) → b = false := fun b h => by cases b; rfl; exact (h rfl).elim
  by_cases q : 18 ≤ S
  · obtain ⟨k, hk, rfl⟩ : ∃ k, k ≤ 18 ∧ S = k + 18 := ⟨S - 18, by omega, by omega⟩
    have eP : cntB P 64 = cntB P (64 - k) + cntB (fun i => P ((64 - k) + i)) k := by rw [← cnt_add]; congr 1; omega
    have eQ : cntB Q 64 = cntB Q k + cntB (fun i => Q (k + i)) (64 - k) := by rw [← cnt_add]; congr 1; omega
    rw [eP, eQ, cnt_z k (f := fun i => P ((64 - k) + i)) (fun i hi => bf _ (fun e => by have := h2 _ (by omega) e; omega)), cnt_z k (f := Q) (fun i hi => bf _ (fun e => by have := h3 _ (by omega) e; omega)), Nat.add_zero, Nat.zero_add]
    exact cnt_congr _ (fun i hi => h1 i (k + i) (by omega) (by omega) (by omega))
  · obtain ⟨k, hk, e⟩ : ∃ k, k ≤ 18 ∧ S + k = 18 := ⟨18 - S, by omega, by omega⟩
    have eQ : cntB Q 64 = cntB Q (64 - k) + cntB (fun i => Q ((64 - k) + i)) k := by rw [← cnt_add]; congr 1; omega
    have eP : cntB P 64 = cntB P k + cntB (fun i => P (k + i)) (64 - k) := by rw [← cnt_add]; congr 1; omega
    rw [eP, eQ, cnt_z k (f := fun i => Q ((64 - k) + i)) (fun i hi => bf _ (fun e => by have := h3 _ (by omega) e; omega)), cnt_z k (f := P) (fun i hi => bf _ (fun e => by have := h2 _ (by omega) e; omega)), Nat.add_zero, Nat.zero_add]
    exact cnt_congr _ (fun i hi => h1 (k + i) i (by omega) (by omega) (by omega))
theorem ub_rev {pa pb : Int64} {sa sb : Int32} {n : Nat} (hn : n < 25) (ha : inR sa 0 4) (hb : inR sb 0 4) : ubF pa pb sa sb (dX n) (dY n) = ubF pb pa sb sa (dX (24 - n)) (dY (24 - n)) := by
  obtain ⟨s, hs, rfl⟩ := nI_inR (M := 4) ha (by decide)
  obtain ⟨t, ht, rfl⟩ := nI_inR (M := 4) hb (by decide)
  have hm : 24 - n < 25 := by omega
  have hnm : 24 - (24 - n) = n := by omega
  obtain ⟨c1, c2, -⟩ := sh_chk ⟨n, hn⟩
  simp only at c1 c2
  have A : ∀ i, i < 64 → ibI s t n i = true → 18 ≤ i + shN n ∧ i + shN n - 18 < 64 ∧ ibI t s (24 - n) (i + shN n - 18) = true := by
    intro i hi h
    have q := ib_shift (by omega) (by omega) hn hi h
    exact ⟨q.1, q.2.1, q.2.2.1⟩
  have B : ∀ j, j < 64 → ibI t s (24 - n) j = true → shN n ≤ j + 18 ∧ j + 18 - shN n < 64 ∧ ibI s t n (j + 18 - shN n) = true := by
    intro j hj h
    have q := ib_shift (by omega) (by omega) hm hj h
    rw [hnm, c2] at q
    have e : j + (36 - shN n) - 18 = j + 18 - shN n := by omega
    rw [e] at q
    exact ⟨by omega, q.2.1, q.2.2.1⟩
  have C : ∀ i j, i < 64 → j < 64 → j + 18 = i + shN n → ibI s t n i = ibI t s (24 - n) j := by
    intro i j hi hj e
    cases h : ibI s t n i
    · cases h2 : ibI t s (24 - n) j
      · rfl
      · have q := (B j hj h2).2.2
        rw [show j + 18 - shN n = i by omega, h] at q; cases q
    · have q := (A i hi h).2.2
      rw [show i + shN n - 18 = j by omega] at q; exact q.symm
  have e1 : cntB (ibG (nI s) (nI t) (dX n) (dY n)) 64 = cntB (ibG (nI t) (nI s) (dX (24 - n)) (dY (24 - n))) 64 :=
    cnt_shift c1 C (fun i hi h => ⟨(A i hi h).1, (A i hi h).2.1⟩) (fun j hj h => ⟨(B j hj h).1, (B j hj h).2.1⟩)
  have e2 : cntB (dfG pa pb (nI s) (nI t) (dX n) (dY n)) 64 = cntB (dfG pb pa (nI t) (nI s) (dX (24 - n)) (dY (24 - n))) 64 := by
    refine cnt_shift (S := shN n) c1 (fun i j hi hj e => ?_) (fun i hi h => ?_) (fun j hj h => ?_)
    · rw [dfG_bit hn (by omega) (by omega) hi, dfG_bit hm (by omega) (by omega) hj, C i j hi hj e]
      cases h : ibI t s (24 - n) j
      · rfl
      · have q := (B j hj h).1
        rw [show i + shN n - 18 = j by omega, c2, show j + (36 - shN n) - 18 = i by omega]
        cases tbL pa i <;> cases tbL pb j <;> rfl
    · have h2 : ibI s t n i = true := by
        rw [dfG_bit hn (by omega) (by omega) hi, Bool.and_eq_true] at h; exact h.1
      exact ⟨(A i hi h2).1, (A i hi h2).2.1⟩
    · have h2 : ibI t s (24 - n) j = true := by
        rw [dfG_bit hm (by omega) (by omega) hj, Bool.and_eq_true] at h; exact h.1
      exact ⟨(B j hj h2).1, (B j hj h2).2.1⟩
  unfold ubF
  rw [e1, e2]
