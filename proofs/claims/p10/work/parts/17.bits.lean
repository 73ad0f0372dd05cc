/-! bits and intervals of ints -/
theorem ti_rng (a : Int32) : -2147483648 ≤ a.toInt ∧ a.toInt < 2147483648 := ⟨Int32.le_toInt a, Int32.toInt_lt a⟩
theorem ti_add {a b l1 h1 l2 h2 l h : Int32} (x : inR a l1 h1) (y : inR b l2 h2) (hl : l.toInt = l1.toInt + l2.toInt) (hh : h.toInt = h1.toInt + h2.toInt) : (a + b).toInt = a.toInt + b.toInt := by
  have := ti_in x; have := ti_in y; have := ti_rng l; have := ti_rng h
  rw [Int32.toInt_add]; exact Int.bmod_eq_of_le (by omega) (by omega)
theorem inR_add {a b l1 h1 l2 h2 l h : Int32} (x : inR a l1 h1) (y : inR b l2 h2) (hl : l.toInt = l1.toInt + l2.toInt) (hh : h.toInt = h1.toInt + h2.toInt) : inR (a + b) l h := by
  have := ti_in x; have := ti_in y; have e := ti_add x y hl hh
  exact of_ti (by omega) (by omega)
theorem ti_sub {a b l1 h1 l2 h2 l h : Int32} (x : inR a l1 h1) (y : inR b l2 h2) (hl : l.toInt = l1.toInt - h2.toInt) (hh : h.toInt = h1.toInt - l2.toInt) : (a - b).toInt = a.toInt - b.toInt := by
  have := ti_in x; have := ti_in y; have := ti_rng l; have := ti_rng h
  rw [Int32.toInt_sub]; exact Int.bmod_eq_of_le (by omega) (by omega)
theorem inR_sub {a b l1 h1 l2 h2 l h : Int32} (x : inR a l1 h1) (y : inR b l2 h2) (hl : l.toInt = l1.toInt - h2.toInt) (hh : h.toInt = h1.toInt - l2.toInt) : inR (a - b) l h := by
  have := ti_in x; have := ti_in y; have e := ti_sub x y hl hh
  exact of_ti (by omega) (by omega)
theorem ti_nat {a : Int32} (h : 0 ≤ a.toInt) : a.toInt = (a.toBitVec.toNat : Int) := by
  rw [← Int32.toInt_toBitVec, BitVec.toInt_eq_toNat_cond] at *
  split
  · rfl
  · rename_i q; rw [if_neg q] at h; have := a.toBitVec.isLt; omega
theorem ti_of_nat {a : Int32} (h : a.toBitVec.toNat < 2147483648) : a.toInt = (a.toBitVec.toNat : Int) := by
  rw [← Int32.toInt_toBitVec, BitVec.toInt_eq_toNat_cond, if_pos (by omega)]
theorem inR_and {a b h : Int32} (x : inR a 0 h) : inR (a &&& b) 0 h := by
  have q := ti_in x
  have z : (0 : Int32).toInt = 0 := by decide
  rw [z] at q
  have e := ti_nat q.1
  have l : (a &&& b).toBitVec.toNat ≤ a.toBitVec.toNat := by
    rw [Int32.toBitVec_and, BitVec.toNat_and]; exact Nat.and_le_left
  have := ti_rng h
  have e2 := ti_of_nat (a := a &&& b) (by omega)
  exact of_ti (by omega) (by omega)
theorem inR_or {a b h : Int32} (k : Nat) (hk : h.toInt = (2 ^ k : Nat) - 1) (x : inR a 0 h) (y : inR b 0 h) : inR (a ||| b) 0 h := by
  have q := ti_in x
  have p := ti_in y
  have z : (0 : Int32).toInt = 0 := by decide
  rw [z] at q p
  have e := ti_nat q.1
  have f := ti_nat p.1
  have l : (a ||| b).toBitVec.toNat < 2 ^ k := by
    rw [Int32.toBitVec_or, BitVec.toNat_or]; exact Nat.or_lt_two_pow (by omega) (by omega)
  have := ti_rng h
  have e2 := ti_of_nat (a := a ||| b) (by omega)
  exact of_ti (by omega) (by omega)
theorem low_bit (w : BitVec 32) (h : w ≠ 0) : ∃ k, k < 32 ∧ w &&& -w = 1#32 <<< k ∧ 2 ^ k ≤ w.toNat := by
  have hex : ∃ k, w.getLsbD k = true := by
    apply Classical.byContradiction
    intro q
    apply h
    apply BitVec.eq_of_getLsbD_eq
    intro i hi
    have := not_exists.mp q i
    simpa using this
  have : ∃ k, w.getLsbD k = true ∧ ∀ j, j < k → w.getLsbD j = false := by
    obtain ⟨k0, hk0⟩ := hex
    induction k0 using Nat.strongRecOn with
    | ind n ih =>
      by_cases q : ∃ j, j < n ∧ w.getLsbD j = true
      · obtain ⟨j, hj, hw⟩ := q; exact ih j hj hw
      · refine ⟨n, hk0, fun j hj => ?_⟩
        cases e : w.getLsbD j with
        | false => rfl
        | true => exact absurd ⟨j, hj, e⟩ q
  obtain ⟨k, hk, hlow⟩ := this
  have k32 : k < 32 := by
    apply Classical.byContradiction
    intro q
    rw [BitVec.getLsbD_of_ge _ _ (by omega)] at hk
    exact absurd hk (by decide)
  refine ⟨k, k32, ?_, Nat.ge_two_pow_of_testBit hk⟩
  apply BitVec.eq_of_getLsbD_eq
  intro i hi
  rw [BitVec.getLsbD_and, BitVec.getLsbD_neg, BitVec.getLsbD_shiftLeft, BitVec.getLsbD_one]
  rcases Nat.lt_trichotomy i k with c | c | c
  · rw [hlow i c]; simp [c]
  · subst c
    have : ¬ ∃ j, j < i ∧ w.getLsbD j = true := fun ⟨j, hj, e⟩ => by rw [hlow j hj] at e; exact absurd e (by decide)
    rw [hk, decide_eq_false this]; simp [hi]
  · have : ∃ j, j < i ∧ w.getLsbD j = true := ⟨k, c, hk⟩
    have n0 : ¬ (i - k = 0) := by omega
    rw [decide_eq_true this]; simp [hi, n0]; 
theorem pow_20 : ∀ k : Fin 20, inR (pcI (Int32.ofBitVec (1#32 <<< k.val) - 1)) 0 19 := by unfold inR; decide +kernel
theorem lowest_in {w : Int32} (h : inR w 0 1048575) (hn : ¬ w = 0) : inR (pcI ((w &&& -w) - 1)) 0 19 := by
  have q := ti_in h
  have z : (0 : Int32).toInt = 0 := by decide
  have z2 : (1048575 : Int32).toInt = 1048575 := by decide
  rw [z, z2] at q
  have e := ti_nat q.1
  have hb : w.toBitVec ≠ 0 := fun e => hn (Int32.toBitVec_inj.mp e)
  obtain ⟨k, hk, e1, e2⟩ := low_bit w.toBitVec hb
  have k20 : k < 20 := by
    apply Classical.byContradiction
    intro q
    have : (2 : Nat) ^ 20 ≤ 2 ^ k := Nat.pow_le_pow_right (by decide) (by omega)
    omega
  have e3 : w &&& -w = Int32.ofBitVec (1#32 <<< k) := by
    apply Int32.toBitVec_inj.mp
    rw [Int32.toBitVec_and, Int32.toBitVec_neg, e1]; rfl
  rw [e3]
  exact pow_20 ⟨k, k20⟩
theorem inR_self (c : Int32) : inR c c c := ⟨Int32.lt_irrefl, Int32.lt_irrefl⟩
theorem inR_any (c : Int32) : inR c (-2147483648) 2147483647 :=
  of_ti (by have := ti_rng c; have z : (-2147483648 : Int32).toInt = -2147483648 := by decide
            omega) (by have := ti_rng c; have z : (2147483647 : Int32).toInt = 2147483647 := by decide
                       omega)
theorem inR_ix {s j N : Nat} {a b : Int32} (h1 : s ≤ j) (h2 : j < N) (hN : N < 2 ^ 31) (ha : a.toInt = s) (hb : b.toInt = (N : Int) - 1) : inR (nI j) a b :=
  of_ti (by rw [nI_toInt (by omega)]; omega) (by rw [nI_toInt (by omega)]; omega)
theorem inR_max {a b l1 h1 l2 h2 l h : Int32} (x : inR a l1 h1) (y : inR b l2 h2) (hl : l.toInt ≤ l1.toInt ∨ l.toInt ≤ l2.toInt) (ha : h1.toInt ≤ h.toInt) (hb : h2.toInt ≤ h.toInt) : inR (if a < b then b else a) l h := by
  have := ti_in x; have := ti_in y
  split
  · rename_i q; have := ti_lt q; exact of_ti (by omega) (by omega)
  · rename_i q; have := ti_nlt q; exact of_ti (by omega) (by omega)
theorem inR_min {a b l1 h1 l2 h2 l h : Int32} (x : inR a l1 h1) (y : inR b l2 h2) (hl : h1.toInt ≤ h.toInt ∨ h2.toInt ≤ h.toInt) (ha : l.toInt ≤ l1.toInt) (hb : l.toInt ≤ l2.toInt) : inR (if b < a then b else a) l h := by
  have := ti_in x; have := ti_in y
  split
  · rename_i q; have := ti_lt q; exact of_ti (by omega) (by omega)
  · rename_i q; have := ti_nlt q; exact of_ti (by omega) (by omega)
theorem shl20 {c : Int32} (h : inR c 0 19) : inR ((1 : Int32) <<< (c &&& 31)) 0 1048575 := by
  have key : ∀ k : Fin 20, inR ((1 : Int32) <<< (nI k.val &&& 31)) 0 1048575 := by unfold inR; decide +kernel
  obtain ⟨j, hj, rfl⟩ := nI_inR (M := 19) h (by decide)
  exact key ⟨j, by omega⟩
theorem sw_of (a : Int32) (M : Nat) (hM : M < 100) : (∃ j : Nat, j ≤ M ∧ a = nI j) ∨ (a.toInt < 0 ∨ (M : Int) < a.toInt) := by
  by_cases h : a.toInt < 0
  · exact Or.inr (Or.inl h)
  · by_cases h2 : (M : Int) < a.toInt
    · exact Or.inr (Or.inr h2)
    · refine Or.inl ⟨a.toInt.toNat, by omega, ?_⟩
      apply Int32.toInt_inj.mp
      rw [nI_toInt (by omega)]
      omega
theorem sw4 (a : Int32) : a = 0 ∨ a = 1 ∨ a = 2 ∨ a = 3 ∨ a = 4 ∨ (a.toInt < 0 ∨ 4 < a.toInt) := by
  rcases sw_of a 4 (by decide) with ⟨j, hj, rfl⟩ | h
  · rcases (show j = 0 ∨ j = 1 ∨ j = 2 ∨ j = 3 ∨ j = 4 by omega) with rfl | rfl | rfl | rfl | rfl <;> decide
  · exact Or.inr (Or.inr (Or.inr (Or.inr (Or.inr h))))
theorem sw7 (a : Int32) : a = 0 ∨ a = 1 ∨ a = 2 ∨ a = 3 ∨ a = 4 ∨ a = 5 ∨ a = 6 ∨ a = 7 ∨ (a.toInt < 0 ∨ 7 < a.toInt) := by
  rcases sw_of a 7 (by decide) with ⟨j, hj, rfl⟩ | h
  · rcases (show j = 0 ∨ j = 1 ∨ j = 2 ∨ j = 3 ∨ j = 4 ∨ j = 5 ∨ j = 6 ∨ j = 7 by omega) with rfl | rfl | rfl | rfl | rfl | rfl | rfl | rfl <;> decide
  · exact Or.inr (Or.inr (Or.inr (Or.inr (Or.inr (Or.inr (Or.inr (Or.inr h)))))))
theorem sw2 (a : Int32) : a = 0 ∨ a = 1 ∨ a = 2 ∨ (a.toInt < 0 ∨ 2 < a.toInt) := by
  rcases sw_of a 2 (by decide) with ⟨j, hj, rfl⟩ | h
  · rcases (show j = 0 ∨ j = 1 ∨ j = 2 by omega) with rfl | rfl | rfl <;> decide
  · exact Or.inr (Or.inr (Or.inr h))
theorem max1_ne (t : Int32) : ¬ (if (1 : Int32) < t then t else 1) = 0 := by
  split
  · rename_i h; rintro rfl; exact absurd h (by decide)
  · decide
theorem up_row {A : Nat → Nat → Int32} {p q : Nat} {f : Nat → Int32} (j : Nat) (h : q ≠ p) : va_up A p f q j = A q j := by
  unfold va_up
  rw [if_neg h]
