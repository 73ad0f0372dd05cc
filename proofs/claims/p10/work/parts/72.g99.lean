/-! methods on any state that keeps the invariant -/
/-! together: what all of them leave -/
theorem kin_AM {R : Nat → Nat → Bool} {σ : Sg} {c i : Nat} (hc : AMp σ c = true) (h : kin R (AMp σ) c i = true) : AMp σ i = true := by
  rcases rch_in (kin_r h) with q | q
  · rw [q]; exact hc
  · exact q
theorem kin_lab {R : Nat → Nat → Bool} {σ : Sg} (hs : Sym R (AMp σ)) {c i : Nat} (hc : AMp σ c = true) (hi : AMp σ i = true) : kin R (AMp σ) c i = decide (lab R (AMp σ) i = lab R (AMp σ) c) := by
  have c20 : c < 20 := Nat.lt_of_lt_of_le (of_decide_eq_true hc) (tm_le _ _ _)
  have i20 : i < 20 := Nat.lt_of_lt_of_le (of_decide_eq_true hi) (tm_le _ _ _)
  have q := lab_same hs c20 i20 hc hi
  by_cases h : Rch R (AMp σ) c i
  · rw [kin_t h, decide_eq_true (q.mpr h)]
  · rw [kin_f h, decide_eq_false (fun e => h (q.mp e))]
theorem sym_lkN {σ : Sg} (hI : Inv σ) : Sym (lkN σ) (AMp σ) := fun x y hx hy hr => by
  have x20 : x < 20 := Nat.lt_of_lt_of_le (of_decide_eq_true hx) (tm_le _ _ _)
  have y20 : y < 20 := Nat.lt_of_lt_of_le (of_decide_eq_true hy) (tm_le _ _ _)
  show lkD σ y x = true
  rw [lkD_sym hI y20 x20]; exact hr
theorem sym_mtN {σ : Sg} (hI : Inv σ) : Sym (mtN σ) (AMp σ) := fun x y hx hy hr => by
  have x20 : x < 20 := Nat.lt_of_lt_of_le (of_decide_eq_true hx) (tm_le _ _ _)
  have y20 : y < 20 := Nat.lt_of_lt_of_le (of_decide_eq_true hy) (tm_le _ _ _)
  show mtD σ (nI y) (nI x) = true
  rw [mtD_sym hI y20 x20]; exact hr
theorem lab_20 {R : Nat → Nat → Bool} {σ : Sg} {c : Nat} (hc : AMp σ c = true) : lab R (AMp σ) c < 20 := by
  have c20 : c < 20 := Nat.lt_of_lt_of_le (of_decide_eq_true hc) (tm_le _ _ _)
  have := (lab_p (R := R) (A := AMp σ) c20).2.1
  omega
/-- what the reference's table of chains says of two cards -/
theorem neg_kin {R : Nat → Nat → Bool} {σ : Sg} {f : Nat → Int32} {c i : Nat} (hs : Sym R (AMp σ)) (hc : AMp σ c = true) (hi : AMp σ i = true) (e1 : f i = nI (lab R (AMp σ) i)) (e2 : f c = nI (lab R (AMp σ) c)) : decide (f i = f c) = kin R (AMp σ) c i := by
  rw [kin_lab hs hc hi, e1, e2, decide_eq_decide]
  have a := lab_20 (R := R) hc
  have b := lab_20 (R := R) hi
  exact nI_eq (by omega) (by omega)
