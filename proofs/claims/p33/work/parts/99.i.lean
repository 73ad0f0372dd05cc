/-! count -/
/-! count: how many -/
def A_cnt (w v0 v1 v2 v3 v4 v5 v6 v7 : Int32) : Int32 := bif decide (w = 0) then v0 else bif decide (w = 1) then v1 else bif decide (w = 2) then v2 else bif decide (w = 3) then v3 else bif decide (w = 4) then v4 else bif decide (w = 5) then v5 else bif decide (w = 6) then v6 else bif decide (w = 7) then v7 else -3
theorem A_cnt_0 (v0 v1 v2 v3 v4 v5 v6 v7 : Int32) : A_cnt 0 v0 v1 v2 v3 v4 v5 v6 v7 = v0 := rfl
theorem A_cnt_1 (v0 v1 v2 v3 v4 v5 v6 v7 : Int32) : A_cnt 1 v0 v1 v2 v3 v4 v5 v6 v7 = v1 := rfl
theorem A_cnt_2 (v0 v1 v2 v3 v4 v5 v6 v7 : Int32) : A_cnt 2 v0 v1 v2 v3 v4 v5 v6 v7 = v2 := rfl
theorem A_cnt_3 (v0 v1 v2 v3 v4 v5 v6 v7 : Int32) : A_cnt 3 v0 v1 v2 v3 v4 v5 v6 v7 = v3 := rfl
theorem A_cnt_4 (v0 v1 v2 v3 v4 v5 v6 v7 : Int32) : A_cnt 4 v0 v1 v2 v3 v4 v5 v6 v7 = v4 := rfl
theorem A_cnt_5 (v0 v1 v2 v3 v4 v5 v6 v7 : Int32) : A_cnt 5 v0 v1 v2 v3 v4 v5 v6 v7 = v5 := rfl
theorem A_cnt_6 (v0 v1 v2 v3 v4 v5 v6 v7 : Int32) : A_cnt 6 v0 v1 v2 v3 v4 v5 v6 v7 = v6 := rfl
theorem A_cnt_7 (v0 v1 v2 v3 v4 v5 v6 v7 : Int32) : A_cnt 7 v0 v1 v2 v3 v4 v5 v6 v7 = v7 := rfl
theorem A_cnt_x {w : Int32} (v0 v1 v2 v3 v4 v5 v6 v7 : Int32) (h : w.toInt < 0 ∨ 7 < w.toInt) : A_cnt w v0 v1 v2 v3 v4 v5 v6 v7 = -3 := by
  unfold A_cnt
  rw [decide_eq_false (ne_out h (c := 0) (by decide)), decide_eq_false (ne_out h (c := 1) (by decide)), decide_eq_false (ne_out h (c := 2) (by decide)), decide_eq_false (ne_out h (c := 3) (by decide)), decide_eq_false (ne_out h (c := 4) (by decide)), decide_eq_false (ne_out h (c := 5) (by decide)), decide_eq_false (ne_out h (c := 6) (by decide)), decide_eq_false (ne_out h (c := 7) (by decide))]
  rfl
noncomputable def lsF (R : Nat → Nat → Bool) (A : Nat → Bool) : Nat → Bool := fun c => decide (lab R A c = c)
theorem cnt_lt (n : Nat) : ∀ k : Nat, cntB (fun i => decide (i < n)) k = min k n := by
  intro k
  induction k with
  | zero => exact (Nat.zero_min n).symm
  | succ k ih =>
    show cntB (fun i => decide (i < n)) k + (bif decide (k < n) then 1 else 0) = min (k + 1) n
    rw [ih]
    by_cases h : k < n
    · rw [decide_eq_true h]
      show min k n + 1 = min (k + 1) n
      omega
    · rw [decide_eq_false h]
      show min k n + 0 = min (k + 1) n
      omega
theorem cnt_cut {F G : Nat → Bool} {n : Nat} (hn : n ≤ 20) (h1 : ∀ i, i < n → F i = G i) (h2 : ∀ i, n ≤ i → F i = false) : cntB F 20 = cntB G n := by
  have q := cnt_hi (f := F) (n := n) h2 (20 - n)
  rw [show n + (20 - n) = 20 by omega] at q
  rw [q]
  exact cnt_congr n h1
theorem cn_there {σ σ2 : Sg} (hI : Inv σ) (hT : Tie σ) (k : Cor σ σ2) : pcI (thI σ) = nI (TMn σ2) := by
  have e : cntB (tb (thI σ)) 20 = TMn σ2 := by
    have h20 : TMn σ2 ≤ 20 := tm_le _ _ _
    rw [cnt_congr (g := fun i => decide (i < TMn σ2)) 20 (fun i _ => thI_AM hI hT k i), cnt_lt]
    omega
  rw [pc_20 (fun k hk => tb_20 (thI_in σ) hk), e]
theorem cn_lst {σ σ2 : Sg} {R Q : Nat → Nat → Bool} (hI : Inv σ) (hT : Tie σ) (k : Cor σ σ2) (h : ∀ c, tb (thI σ) c = true → lab R (tb (thI σ)) c = lab Q (AMp σ2) c) : pcI (bsI (lstB R (tb (thI σ))) 20) = nI (cntB (lsF Q (AMp σ2)) (TMn σ2)) := by
  rw [pc_bs]
  refine congrArg nI (cnt_cut (tm_le _ _ _) (fun i hi => ?_) (fun i hi => ?_))
  · have a : tb (thI σ) i = true := (thI_AM hI hT k i).trans (decide_eq_true hi)
    unfold lstB lsF
    rw [a, h i a]; rfl
  · have a : tb (thI σ) i = false := (thI_AM hI hT k i).trans (decide_eq_false (Nat.not_lt.mpr hi))
    unfold lstB
    rw [a]; rfl
theorem ls_t {R : Nat → Nat → Bool} {σ : Sg} {j : Nat} (h : lab R (AMp σ) j = j) : lsF R (AMp σ) j = true := decide_eq_true h
theorem ls_f {R : Nat → Nat → Bool} {σ : Sg} {j : Nat} (h : ¬ lab R (AMp σ) j = j) : lsF R (AMp σ) j = false := decide_eq_false h
