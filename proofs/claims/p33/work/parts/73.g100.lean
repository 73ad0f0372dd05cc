/-! methods on any state that keeps the invariant -/
/-! values of a set as a set: lists, publishers; how many -/
theorem cnt_hi {f : Nat → Bool} {n : Nat} (h : ∀ i, n ≤ i → f i = false) : ∀ q : Nat, cntB f (n + q) = cntB f n := by
  intro q
  rw [cnt_add, cnt_z q (fun i _ => h (n + i) (by omega))]; rfl
theorem pc_20 {s : Int32} (h : ∀ k, 20 ≤ k → tb s k = false) : pcI s = nI (cntB (tb s) 20) := by
  rw [pcI_nI, show 32 = 20 + 12 from rfl, cnt_hi h]
/-- a set of cards as a set of ints, and how many -/
theorem pc_bs {K : Nat → Bool} : pcI (bsI K 20) = nI (cntB K 20) := by
  rw [pc_20 (fun k hk => by rw [tb_bs 20 (by omega), decide_eq_false (by omega)]; rfl)]
  congr 1
  exact cnt_congr 20 (fun i hi => by rw [tb_bs 20 (by omega), decide_eq_true hi]; rfl)
/-! rivals: lists that have two or more -/
