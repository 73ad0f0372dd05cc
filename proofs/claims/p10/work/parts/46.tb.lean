/-! sets as ints -/
/-! sets as ints: their bits one by one -/
def tb (s : Int32) (k : Nat) : Bool := s.toBitVec.getLsbD k
theorem nI31 : ∀ k : Fin 32, ((nI k.val &&& 31).toBitVec.smod 32#32).toNat = k.val := by decide +kernel
theorem sh_bv {k : Nat} (hk : k < 32) (s : Int32) : (s >>> (nI k &&& 31)).toBitVec = s.toBitVec.sshiftRight k := by
  rw [Int32.toBitVec_shiftRight]
  show s.toBitVec.sshiftRight (((nI k &&& 31).toBitVec.smod 32#32).toNat) = _
  rw [nI31 ⟨k, hk⟩]
theorem and1_bv (x : BitVec 32) : x &&& 1#32 = if x.getLsbD 0 then 1#32 else 0#32 := by
  rw [BitVec.and_one_eq_setWidth_ofBool_getLsbD]
  cases x.getLsbD 0 <;> rfl
theorem bit_of {s : Int32} {k : Nat} (hk : k < 31) : (s >>> (nI k &&& 31)) &&& 1 = if tb s k then 1 else 0 := by
  apply Int32.toBitVec_inj.mp
  rw [Int32.toBitVec_and, sh_bv (by omega)]
  show s.toBitVec.sshiftRight k &&& 1#32 = _
  rw [and1_bv, BitVec.getLsbD_sshiftRight]
  have h1 : (0 : Nat) + k = k := Nat.zero_add k
  have h2 : k + 0 = k := Nat.add_zero k
  simp only [h1, h2]
  unfold tb
  rw [if_pos (show k < 32 by omega)]
  cases s.toBitVec.getLsbD k <;> rfl
theorem tb_or (a b : Int32) (k : Nat) : tb (a ||| b) k = (tb a k || tb b k) := by unfold tb; rw [Int32.toBitVec_or, BitVec.getLsbD_or]
theorem tb_and (a b : Int32) (k : Nat) : tb (a &&& b) k = (tb a k && tb b k) := by unfold tb; rw [Int32.toBitVec_and, BitVec.getLsbD_and]
theorem tb_0 (k : Nat) : tb 0 k = false := by unfold tb; simp
theorem tb_shl {l : Nat} (hl : l < 32) (k : Nat) : tb ((1 : Int32) <<< (nI l &&& 31)) k = (decide (k < 32) && decide (k = l)) := by
  unfold tb
  rw [Int32.toBitVec_shiftLeft]
  show (1#32 <<< (((nI l &&& 31).toBitVec.smod 32#32).toNat)).getLsbD k = _
  rw [nI31 ⟨l, hl⟩, BitVec.getLsbD_shiftLeft, BitVec.getLsbD_one]
  by_cases h1 : k < 32
  · by_cases h2 : k < l
    · simp [h1, h2]; omega
    · simp [h1, h2]; omega
  · simp [h1]
/-- how many of the first bits are in a set -/
def cb (s : Int32) : Nat → Nat
  | 0 => 0
  | k + 1 => cb s k + (if tb s k then 1 else 0)
theorem cb_le (s : Int32) : ∀ n : Nat, cb s n ≤ n := by
  intro n
  induction n with
  | zero => exact Nat.le_refl _
  | succ n ih => unfold cb; split <;> omega
theorem cb_pos {s : Int32} {k : Nat} (h : tb s k = true) : ∀ n : Nat, k < n → 0 < cb s n := by
  intro n
  induction n with
  | zero => intro h; omega
  | succ n ih =>
    intro hk
    unfold cb
    by_cases e : k = n
    · subst e; rw [if_pos h]; omega
    · have := ih (by omega); omega
theorem cb_step {s g : Int32} {j : Nat} (h : g = nI (cb s j)) (hj : j < 20) : g + ((s >>> (nI j &&& 31)) &&& 1) = nI (cb s (j + 1)) := by
  rw [h, bit_of (by omega)]
  show _ = nI (cb s j + (if tb s j then 1 else 0))
  split
  · exact nI_1 _
  · simp
/-- the set of places at which the cards with one value lie -/
def lsR (on li : Nat → Int32) (one : Int32) : Nat → Int32
  | 0 => 0
  | c + 1 => lsR on li one c ||| (if on c = one then (1 : Int32) <<< (li c &&& 31) else 0)
theorem ls_s1 {on li : Nat → Int32} {one g : Int32} {j : Nat} (h : g = lsR on li one j) (hj : j < 20) (e : on (Int32.toNatClampNeg (nI j)) = one) : g ||| ((1 : Int32) <<< (li (Int32.toNatClampNeg (nI j)) &&& 31)) = lsR on li one (j + 1) := by
  rw [nI_clamp (by omega)] at e ⊢
  show _ = lsR on li one j ||| (if on j = one then (1 : Int32) <<< (li j &&& 31) else 0)
  rw [if_pos e, h]
theorem ls_s2 {on li : Nat → Int32} {one g : Int32} {j : Nat} (h : g = lsR on li one j) (hj : j < 20) (e : ¬ on (Int32.toNatClampNeg (nI j)) = one) : g ||| 0 = lsR on li one (j + 1) := by
  rw [nI_clamp (by omega)] at e
  show _ = lsR on li one j ||| (if on j = one then (1 : Int32) <<< (li j &&& 31) else 0)
  rw [if_neg e, h]
theorem ls_tb {on li : Nat → Int32} {one : Int32} {c : Nat} (he : on c = one) (hl : inR (li c) 0 3) : ∀ n : Nat, c < n → tb (lsR on li one n) (li c).toNatClampNeg = true := by
  obtain ⟨l, hl2, e⟩ := nI_inR (M := 3) hl (by decide)
  rw [e, nI_clamp (by omega)]
  intro n
  induction n with
  | zero => intro h; omega
  | succ n ih =>
    intro hn
    unfold lsR
    rw [tb_or]
    by_cases e2 : c = n
    · subst e2
      rw [if_pos he, e, tb_shl (by omega)]
      simp
      omega
    · rw [ih (by omega)]; rfl
theorem tm_exit {n a : Int32} {f : Nat → Int32} {j : Nat} (hj : j ≤ 20) (h1 : j ≤ tm n a f) (h2 : nI (tm n a f) ≤ nI j) : j = tm n a f := by
  have := tm_le n a f
  have := (nI_leI (a := tm n a f) (b := j) (by omega) (by omega)).mp h2
  omega
theorem tm_next {n a : Int32} {f : Nat → Int32} {j : Nat} (hj : j < 20) (h2 : ¬ nI (tm n a f) ≤ nI j) : j + 1 ≤ tm n a f := by
  have := tm_le n a f
  have : ¬ tm n a f ≤ j := fun q => h2 (nI_le q (by omega))
  omega
theorem tm_ex20 {n a : Int32} {f : Nat → Int32} (h1 : 20 ≤ tm n a f) : 20 = tm n a f := by
  have := tm_le n a f
  omega
theorem cor_tm {σ σ2 : Sg} (h : Cor σ σ2) : tm (σ2.1 14000) (σ2.1 14013) (σ2.2.2.1 148) = tm (σ.1 14000) (σ.1 14013) (σ.2.2.1 148) := by
  rw [h.1 14000 rfl, h.1 14013 rfl, h.2.2.1 148 rfl]
theorem pr_ne {σ : Sg} {c : Int32} (hI : Inv σ) (hc : inR c 0 19) (h : c.toNatClampNeg < tm (σ.1 14000) (σ.1 14013) (σ.2.2.1 148)) : ¬ nI (cb (lsR (σ.2.2.1 153) (σ.2.2.1 141) (σ.2.2.1 153 c.toNatClampNeg) (tm (σ.1 14000) (σ.1 14013) (σ.2.2.1 148))) 20) = 0 := by
  have hl := iva_141 hI c.toNatClampNeg (clamp19 hc)
  have h1 := ls_tb (on := σ.2.2.1 153) (li := σ.2.2.1 141) rfl hl _ h
  have h3 := ti_in hl
  have z1 : (3 : Int32).toInt = 3 := by decide
  have h2 := cb_pos h1 20 (by show (σ.2.2.1 141 c.toNatClampNeg).toInt.toNat < 20; omega)
  have := cb_le (lsR (σ.2.2.1 153) (σ.2.2.1 141) (σ.2.2.1 153 c.toNatClampNeg) (tm (σ.1 14000) (σ.1 14013) (σ.2.2.1 148))) 20
  exact nI_ne0 h2 (by omega)
theorem sq_nn {f : Int32} (h : inR f 0 20) : 0 ≤ (f * f).toInt ∧ 0 ≤ (f * (f - 1)).toInt := by
  obtain ⟨j, hj, rfl⟩ := nI_inR (M := 20) h (by decide)
  have : ∀ k : Fin 21, 0 ≤ (nI k.val * nI k.val).toInt ∧ 0 ≤ (nI k.val * (nI k.val - 1)).toInt := by decide +kernel
  exact this ⟨j, by omega⟩
theorem mul_nn {f g : Int32} (h : inR f 0 20) (k : inR g 0 20) : 0 ≤ (f * g).toInt := by
  obtain ⟨i, hi, rfl⟩ := nI_inR (M := 20) h (by decide)
  obtain ⟨j, hj, rfl⟩ := nI_inR (M := 20) k (by decide)
  have : ∀ (k : Fin 21) (l : Fin 21), 0 ≤ (nI k.val * nI l.val).toInt := by decide +kernel
  exact this ⟨i, by omega⟩ ⟨j, by omega⟩
theorem two_nn {g : Int32} (h : inR g 0 20) : 0 ≤ (2 * g).toInt ∧ (¬ g = 0 → ¬ 2 * g = 0) := by
  obtain ⟨j, hj, rfl⟩ := nI_inR (M := 20) h (by decide)
  have : ∀ k : Fin 21, 0 ≤ (2 * nI k.val).toInt ∧ (¬ nI k.val = 0 → ¬ 2 * nI k.val = 0) := by decide +kernel
  exact this ⟨j, by omega⟩
theorem and_01 (a : Int32) : inR (a &&& 1) 0 1 := by
  have h : a &&& 1 = if a.toBitVec.getLsbD 0 then 1 else 0 := by
    apply Int32.toBitVec_inj.mp
    rw [Int32.toBitVec_and]
    show a.toBitVec &&& 1#32 = _
    rw [and1_bv]
    cases a.toBitVec.getLsbD 0 <;> rfl
  rw [h]
  split <;> exact ⟨by decide, by decide⟩
/-- a count that a round of a loop adds 0 or 1 to -/
def Ct (g : Int32) (j : Nat) : Prop := 0 ≤ g.toInt ∧ g.toInt ≤ (j : Int)
theorem ct_0 : Ct 0 0 := by unfold Ct; decide
theorem ct_s {g b : Int32} {j : Nat} (h : Ct g j) (hj : j < 20) (hb : inR b 0 1) : Ct (g + b) (j + 1) := by
  have z1 : (20 : Int32).toInt = 20 := by decide
  have z0 : (0 : Int32).toInt = 0 := by decide
  have z2 : (1 : Int32).toInt = 1 := by decide
  have h1 := ti_in hb
  have h2 : inR g 0 20 := of_ti (by have := h.1; omega) (by have := h.2; omega)
  have h3 := ti_add (l := 0) (h := 21) h2 hb (by decide) (by decide)
  unfold Ct at h ⊢
  omega
theorem ct_r {g : Int32} {j : Nat} (h : Ct g j) (hj : j ≤ 20) : inR g 0 20 := by
  have z1 : (20 : Int32).toInt = 20 := by decide
  have z0 : (0 : Int32).toInt = 0 := by decide
  exact of_ti (by have := h.1; omega) (by have := h.2; omega)
