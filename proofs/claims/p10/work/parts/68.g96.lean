/-! methods on any state that keeps the invariant -/
/-! chains: what is reached, step by step, from one among others -/
def Rch (R : Nat → Nat → Bool) (A : Nat → Bool) (c j : Nat) : Prop := ∀ S : Nat → Prop, S c → (∀ x y, S x → A y = true → R x y = true → S y) → S j
theorem rch_0 (R : Nat → Nat → Bool) (A : Nat → Bool) (c : Nat) : Rch R A c c := fun _ h _ => h
theorem rch_s {R : Nat → Nat → Bool} {A : Nat → Bool} {c x y : Nat} (h : Rch R A c x) (ha : A y = true) (hr : R x y = true) : Rch R A c y := fun S h0 hs => hs x y (h S h0 hs) ha hr
theorem rch_t {R : Nat → Nat → Bool} {A : Nat → Bool} {c x y : Nat} (h : Rch R A c x) (k : Rch R A x y) : Rch R A c y := fun S h0 hs => k S (h S h0 hs) hs
theorem rch_in {R : Nat → Nat → Bool} {A : Nat → Bool} {c j : Nat} (h : Rch R A c j) : j = c ∨ A j = true := h (fun j => j = c ∨ A j = true) (Or.inl rfl) (fun _ _ _ ha _ => Or.inr ha)
noncomputable def kin (R : Nat → Nat → Bool) (A : Nat → Bool) (c : Nat) : Nat → Bool := fun j => @decide (Rch R A c j) (Classical.propDecidable _)
theorem kin_t {R : Nat → Nat → Bool} {A : Nat → Bool} {c j : Nat} (h : Rch R A c j) : kin R A c j = true := @decide_eq_true _ (Classical.propDecidable _) h
theorem kin_f {R : Nat → Nat → Bool} {A : Nat → Bool} {c j : Nat} (h : ¬ Rch R A c j) : kin R A c j = false := @decide_eq_false _ (Classical.propDecidable _) h
theorem kin_r {R : Nat → Nat → Bool} {A : Nat → Bool} {c j : Nat} (h : kin R A c j = true) : Rch R A c j := @of_decide_eq_true _ (Classical.propDecidable _) h
def Sym (R : Nat → Nat → Bool) (A : Nat → Bool) : Prop := ∀ x y, A x = true → A y = true → R x y = true → R y x = true
theorem rch_sym {R : Nat → Nat → Bool} {A : Nat → Bool} (hs : Sym R A) {c j : Nat} (hc : A c = true) (h : Rch R A c j) : Rch R A j c := by
  have q := h (fun j => A j = true ∧ Rch R A j c) ⟨hc, rch_0 R A c⟩ (fun x y hx hy hr => ⟨hy, rch_t (rch_s (rch_0 R A y) hx.1 (hs x y hx.1 hy hr)) hx.2⟩)
  exact q.2
theorem kin_congr {R Q : Nat → Nat → Bool} {A B : Nat → Bool} {c : Nat} (hA : ∀ i, A i = B i) (hc : A c = true) (hR : ∀ x y, A x = true → A y = true → ¬ x = y → R x y = Q x y) : kin R A c = kin Q B c := by
  have e : A = B := funext hA
  subst e
  have one : ∀ {R Q : Nat → Nat → Bool}, (∀ x y, A x = true → A y = true → ¬ x = y → R x y = Q x y) → ∀ j, Rch R A c j → Rch Q A c j := by
    intro R Q hR j h S h0 hs
    have q := h (fun j => A j = true ∧ S j) ⟨hc, h0⟩ (fun x y hx hy hr => ⟨hy, by
      by_cases e : x = y
      · rw [← e]; exact hx.2
      · exact hs x y hx.2 hy ((hR x y hx.1 hy e).symm.trans hr)⟩)
    exact q.2
  funext j
  by_cases h : Rch R A c j
  · rw [kin_t h, kin_t (one hR j h)]
  · rw [kin_f h, kin_f (fun q => h (one (fun x y a b e => (hR x y a b e).symm) j q))]
/-- the least of a set, from i on -/
def lo (K : Nat → Bool) : Nat → Nat → Nat
  | 0, i => i
  | q + 1, i => bif K i then i else lo K q (i + 1)
theorem lo_at {K : Nat → Bool} {i k : Nat} : ∀ q : Nat, i ≤ k → k < i + q → K k = true → (∀ j, i ≤ j → j < k → K j = false) → lo K q i = k := by
  intro q
  induction q generalizing i with
  | zero => intro h1 h2; omega
  | succ q ih =>
    intro h1 h2 hk hl
    show (bif K i then i else lo K q (i + 1)) = k
    by_cases e : i = k
    · subst e; rw [hk]; rfl
    · rw [hl i (Nat.le_refl _) (by omega)]
      exact ih (by omega) (by omega) hk (fun j a b => hl j (by omega) b)
theorem lo_ex {K : Nat → Bool} {i k : Nat} : ∀ q : Nat, i ≤ k → k < i + q → K k = true → K (lo K q i) = true ∧ i ≤ lo K q i ∧ lo K q i ≤ k ∧ ∀ j, i ≤ j → j < lo K q i → K j = false := by
  intro q
  induction q generalizing i with
  | zero => intro h1 h2; omega
  | succ q ih =>
    intro h1 h2 hk
    have e0 : lo K (q + 1) i = bif K i then i else lo K q (i + 1) := rfl
    cases h : K i
    · rw [e0, h]
      have ne : ¬ i = k := fun e => by rw [e, hk] at h; cases h
      obtain ⟨a, b, c, d⟩ := ih (i := i + 1) (by omega) (by omega) hk
      refine ⟨a, by simp only [cond_false]; omega, c, fun j h3 h4 => ?_⟩
      by_cases e : j = i
      · rw [e]; exact h
      · exact d j (by omega) h4
    · rw [e0, h]
      exact ⟨h, Nat.le_refl _, h1, fun j h3 h4 => by simp only [cond_true] at h4; omega⟩
noncomputable def lab (R : Nat → Nat → Bool) (A : Nat → Bool) (c : Nat) : Nat := lo (kin R A c) 20 0
theorem lab_p {R : Nat → Nat → Bool} {A : Nat → Bool} {c : Nat} (hc : c < 20) : Rch R A c (lab R A c) ∧ lab R A c ≤ c ∧ ∀ j, Rch R A c j → lab R A c ≤ j := by
  obtain ⟨a, -, b, d⟩ := lo_ex (K := kin R A c) (i := 0) (k := c) 20 (Nat.zero_le _) (by omega) (kin_t (rch_0 R A c))
  refine ⟨kin_r a, b, fun j hj => ?_⟩
  apply Nat.le_of_not_lt
  intro q
  have := d j (Nat.zero_le _) q
  rw [kin_t hj] at this; cases this
theorem lab_at {R : Nat → Nat → Bool} {A : Nat → Bool} {c k : Nat} (hc : c < 20) (h : Rch R A c k) (hl : ∀ j, Rch R A c j → k ≤ j) : lab R A c = k := by
  obtain ⟨a, b, d⟩ := lab_p (R := R) (A := A) hc
  exact Nat.le_antisymm (d k h) (hl _ a)
theorem lab_eq {R : Nat → Nat → Bool} {A : Nat → Bool} (hs : Sym R A) {c j : Nat} (hc : c < 20) (hj : j < 20) (hac : A c = true) (h : Rch R A c j) : lab R A j = lab R A c := by
  obtain ⟨a, b, d⟩ := lab_p (R := R) (A := A) hc
  exact lab_at hj (rch_t (rch_sym hs hac h) a) (fun i hi => d i (rch_t h hi))
theorem lab_same {R : Nat → Nat → Bool} {A : Nat → Bool} (hs : Sym R A) {c j : Nat} (hc : c < 20) (hj : j < 20) (hac : A c = true) (haj : A j = true) : lab R A j = lab R A c ↔ Rch R A c j := by
  constructor
  · intro e
    have p1 := (lab_p (R := R) (A := A) hc).1
    have p2 := (lab_p (R := R) (A := A) hj).1
    rw [e] at p2
    exact rch_t p1 (rch_sym hs haj p2)
  · intro h; exact lab_eq hs hc hj hac h
/-! sets as ints -/
def bsI (K : Nat → Bool) : Nat → Int32
  | 0 => 0
  | n + 1 => bif K n then bsI K n ||| ((1 : Int32) <<< (nI n &&& 31)) else bsI K n
theorem tb_bs {K : Nat → Bool} : ∀ n : Nat, n ≤ 31 → ∀ i, tb (bsI K n) i = (decide (i < n) && K i) := by
  intro n
  induction n with
  | zero => intro _ i; show tb 0 i = _; rw [tb_0]; rfl
  | succ n ih =>
    intro hn i
    have e0 : bsI K (n + 1) = bif K n then bsI K n ||| ((1 : Int32) <<< (nI n &&& 31)) else bsI K n := rfl
    rw [e0]
    by_cases e : i = n
    · subst e
      cases h : K i
      · simp only [cond_false]
        rw [ih (by omega), decide_eq_false (Nat.lt_irrefl i)]; simp
      · simp only [cond_true]
        rw [tb_or, ih (by omega), tb_shl (by omega), decide_eq_true (show i < 32 by omega)]; simp
    · have e2 : decide (i < n + 1) = decide (i < n) := by
        rw [decide_eq_decide]; omega
      rw [e2]
      cases h : K n
      · exact ih (by omega) i
      · simp only [cond_true]
        rw [tb_or, ih (by omega), tb_shl (by omega), decide_eq_false e]; simp
theorem tb_hi (s : Int32) {k : Nat} (h : 32 ≤ k) : tb s k = false := BitVec.getLsbD_of_ge _ _ h
theorem tb_ext {s t : Int32} (h : ∀ k, tb s k = tb t k) : s = t := by
  apply Int32.toBitVec_inj.mp
  apply BitVec.eq_of_getLsbD_eq
  intro i _
  exact h i
theorem bs_of {x : Int32} {K : Nat → Bool} (h : ∀ i, i < 20 → tb x i = K i) (h2 : ∀ i, 20 ≤ i → tb x i = false) : x = bsI K 20 := by
  apply tb_ext
  intro i
  rw [tb_bs 20 (by omega)]
  by_cases e : i < 20
  · rw [h i e, decide_eq_true e]; rfl
  · rw [h2 i (by omega), decide_eq_false e]; rfl
theorem tb_not {s : Int32} {k : Nat} (hk : k < 32) : tb (s ^^^ -1) k = !tb s k := by
  unfold tb
  rw [Int32.toBitVec_xor, BitVec.getLsbD_xor]
  have : ∀ k : Fin 32, ((-1 : Int32).toBitVec).getLsbD k.val = true := by decide +kernel
  rw [this ⟨k, hk⟩]
  cases s.toBitVec.getLsbD k <;> rfl
theorem tb_20 {s : Int32} (h : inR s 0 1048575) {k : Nat} (hk : 20 ≤ k) : tb s k = false := by
  have q := ti_in h
  have z : (0 : Int32).toInt = 0 := by decide
  have z2 : (1048575 : Int32).toInt = 1048575 := by decide
  rw [z, z2] at q
  have e := ti_nat q.1
  show Nat.testBit s.toBitVec.toNat k = false
  apply Nat.testBit_lt_two_pow
  have : (2 : Nat) ^ 20 ≤ 2 ^ k := Nat.pow_le_pow_right (by decide) hk
  omega
theorem in_20 {s : Int32} (h : ∀ k, 20 ≤ k → tb s k = false) : inR s 0 1048575 := by
  have hl : s.toBitVec.toNat < 2 ^ 20 := by
    apply Nat.lt_pow_two_of_testBit
    intro i hi
    exact h i hi
  have e := ti_of_nat (a := s) (by omega)
  have z : (0 : Int32).toInt = 0 := by decide
  have z2 : (1048575 : Int32).toInt = 1048575 := by decide
  exact of_ti (by omega) (by omega)
theorem bs_in (K : Nat → Bool) : inR (bsI K 20) 0 1048575 := in_20 (fun k hk => by rw [tb_bs 20 (by omega), decide_eq_false (by omega)]; rfl)
theorem pow20e : ∀ k : Fin 20, pcI (Int32.ofBitVec (1#32 <<< k.val) - 1) = nI k.val := by decide +kernel
/-- the place of the lowest bit -/
theorem low_is {w : Int32} (h : inR w 0 1048575) (hn : ¬ w = 0) : ∃ k : Nat, k < 20 ∧ pcI ((w &&& -w) - 1) = nI k ∧ tb w k = true ∧ ∀ i, i < k → tb w i = false := by
  have hb : w.toBitVec ≠ 0 := fun e => hn (Int32.toBitVec_inj.mp e)
  obtain ⟨k, hk, e1, e2⟩ := low_bit w.toBitVec hb
  have e3 : w &&& -w = Int32.ofBitVec (1#32 <<< k) := by
    apply Int32.toBitVec_inj.mp
    rw [Int32.toBitVec_and, Int32.toBitVec_neg, e1]; rfl
  have bit : ∀ i, (w.toBitVec &&& -w.toBitVec).getLsbD i = (decide (i < 32) && decide (i = k)) := by
    intro i
    rw [e1, BitVec.getLsbD_shiftLeft, BitVec.getLsbD_one]
    by_cases c : i < 32
    · by_cases d : i = k
      · subst d; simp [c]
      · by_cases d2 : i < k
        · simp [c, d, d2]
        · have : ¬ i - k = 0 := by omega
          simp [c, d, d2, this]
    · simp [c]
  have hkt : tb w k = true := by
    have q := bit k
    rw [BitVec.getLsbD_and, decide_eq_true hk, decide_eq_true rfl] at q
    simp only [Bool.and_true, Bool.and_eq_true] at q
    exact q.1
  have k20 : k < 20 := by
    apply Nat.lt_of_not_le
    intro q
    rw [tb_20 h q] at hkt; cases hkt
  refine ⟨k, k20, by rw [e3]; exact pow20e ⟨k, k20⟩, hkt, ?_⟩
  have all : ∀ n i, i < n → i < k → tb w i = false := by
    intro n
    induction n with
    | zero => intro i hi; omega
    | succ n ih =>
      intro i hi hik
      by_cases e : i = n
      · subst e
        cases ht : tb w i
        · rfl
        · have q := bit i
          rw [BitVec.getLsbD_and, BitVec.getLsbD_neg] at q
          have no : ¬ ∃ j, j < i ∧ w.toBitVec.getLsbD j = true := fun ⟨j, hj, hw⟩ => by
            have := ih j hj (by omega)
            unfold tb at this
            rw [this] at hw; cases hw
          have ht2 : w.toBitVec.getLsbD i = true := ht
          rw [ht2, decide_eq_false no, decide_eq_true (show i < 32 by omega), decide_eq_false (show ¬ i = k by omega)] at q
          simp at q
      · exact ih i (by omega) hik
  exact fun i hi => all (i + 1) i (by omega) hi
/-! the class's way: those that wait are taken up, the lowest first -/
def CB (R : Nat → Nat → Bool) (b : Int32) (c n : Nat) (f w : Int32) : Prop := tb f c = true ∧ (∀ j, tb f j = true → j < 20 ∧ Rch R (tb b) c j) ∧ (∀ j, tb w j = true → tb f j = true) ∧ (∀ x y, tb f x = true → tb w x = false → y < 20 → tb b y = true → R x y = true → tb f y = true) ∧ cntB (fun i => tb f i && !tb w i) 20 = n
def CI (R : Nat → Nat → Bool) (b : Int32) (c n k j : Nat) (f w : Int32) : Prop := tb f c = true ∧ (∀ j, tb f j = true → j < 20 ∧ Rch R (tb b) c j) ∧ (∀ j, tb w j = true → tb f j = true) ∧ (∀ x y, tb f x = true → tb w x = false → y < 20 → tb b y = true → R x y = true → x = k ∧ j ≤ y ∨ tb f y = true) ∧ cntB (fun i => tb f i && !tb w i) 20 = n + 1 ∧ tb f k = true ∧ tb w k = false
theorem cb_0 {R : Nat → Nat → Bool} {b c : Int32} (hc : inR c 0 19) : CB R b c.toNatClampNeg 0 ((1 : Int32) <<< (c &&& 31)) ((1 : Int32) <<< (c &&& 31)) := by
  have h := clamp19 hc
  have e : ∀ i, tb ((1 : Int32) <<< (c &&& 31)) i = (decide (i < 32) && decide (i = c.toNatClampNeg)) := by
    intro i
    have q := tb_shl (l := c.toNatClampNeg) (by omega) i
    rw [nI_of_in hc] at q; exact q
  refine ⟨by rw [e, decide_eq_true (show c.toNatClampNeg < 32 by omega), decide_eq_true rfl]; rfl, fun j hj => ?_, fun j hj => hj, fun x y h1 h2 _ _ _ => (by rw [h1] at h2; cases h2), ?_⟩
  · rw [e, Bool.and_eq_true, decide_eq_true_eq, decide_eq_true_eq] at hj
    obtain ⟨-, rfl⟩ := hj
    exact ⟨h, rch_0 _ _ _⟩
  · exact cnt_z _ (fun i _ => by
      show (tb ((1 : Int32) <<< (c &&& 31)) i && !tb ((1 : Int32) <<< (c &&& 31)) i) = false
      cases tb ((1 : Int32) <<< (c &&& 31)) i <;> rfl)
theorem cnt_one {P Q : Nat → Bool} {k : Nat} (hP : P k = false) (hQ : Q k = true) (h : ∀ i, ¬ i = k → P i = Q i) : ∀ n : Nat, k < n → cntB Q n = cntB P n + 1 := by
  intro n
  induction n with
  | zero => intro h; omega
  | succ n ih =>
    intro hk
    show cntB Q n + (bif Q n then 1 else 0) = cntB P n + (bif P n then 1 else 0) + 1
    by_cases e : k = n
    · subst e
      rw [hP, hQ, cnt_congr k (fun i hi => h i (by omega))]; rfl
    · rw [ih (by omega), h n (fun e2 => e e2.symm)]; omega
/-- one that waits is taken up -/
theorem cb_take {R : Nat → Nat → Bool} {b f w : Int32} {c n k : Nat} (h : CB R b c n f w) (hk : k < 20) (hw : tb w k = true) : CI R b c n k 0 f (w &&& (((1 : Int32) <<< (nI k &&& 31)) ^^^ -1)) := by
  obtain ⟨a1, a2, a3, a4, a5⟩ := h
  have e : ∀ i, i < 32 → tb (w &&& (((1 : Int32) <<< (nI k &&& 31)) ^^^ -1)) i = (tb w i && !decide (i = k)) := by
    intro i hi
    rw [tb_and, tb_not hi, tb_shl (by omega), decide_eq_true hi, Bool.true_and]
  have lt : ∀ x, tb f x = true → x < 32 := fun x hx => by have := (a2 x hx).1; omega
  have hkk : tb (w &&& (((1 : Int32) <<< (nI k &&& 31)) ^^^ -1)) k = false := by rw [e k (by omega), decide_eq_true rfl]; simp
  refine ⟨a1, a2, fun j hj => a3 j ?_, fun x y h1 h2 h3 h4 h5 => ?_, ?_, a3 k hw, hkk⟩
  · rw [tb_and, Bool.and_eq_true] at hj; exact hj.1
  · by_cases q : x = k
    · exact Or.inl ⟨q, Nat.zero_le _⟩
    · rw [e x (lt x h1), decide_eq_false q, Bool.not_false, Bool.and_true] at h2
      exact Or.inr (a4 x y h1 h2 h3 h4 h5)
  · rw [← a5]
    refine cnt_one (k := k) (by rw [hw]; simp) (by rw [a3 k hw, hkk]; rfl) (fun i hi => ?_) 20 hk
    by_cases q : i < 32
    · rw [e i q, decide_eq_false hi]; simp
    · have : tb f i = false := tb_hi f (by omega)
      rw [this]; rfl
theorem ci_old {R : Nat → Nat → Bool} {b f w : Int32} {c n k j : Nat} (h : CI R b c n k j f w) (hn : tb b j = true → R k j = true → tb f j = true) : CI R b c n k (j + 1) f w := by
  obtain ⟨a1, a2, a3, a4, a5, a6, a7⟩ := h
  refine ⟨a1, a2, a3, fun x y h1 h2 h3 h4 h5 => ?_, a5, a6, a7⟩
  rcases a4 x y h1 h2 h3 h4 h5 with ⟨q1, q2⟩ | q
  · by_cases e : y = j
    · subst e; subst q1; exact Or.inr (hn h4 h5)
    · exact Or.inl ⟨q1, by omega⟩
  · exact Or.inr q
theorem ci_new {R : Nat → Nat → Bool} {b f w : Int32} {c n k j : Nat} (h : CI R b c n k j f w) (hj : j < 20) (hb : tb b j = true) (hf : tb f j = false) (hr : R k j = true) : CI R b c n k (j + 1) (f ||| ((1 : Int32) <<< (nI j &&& 31))) (w ||| ((1 : Int32) <<< (nI j &&& 31))) := by
  obtain ⟨a1, a2, a3, a4, a5, a6, a7⟩ := h
  have e : ∀ (s : Int32) (i : Nat), i < 32 → tb (s ||| ((1 : Int32) <<< (nI j &&& 31))) i = (tb s i || decide (i = j)) := by
    intro s i hi
    rw [tb_or, tb_shl (by omega), decide_eq_true hi, Bool.true_and]
  have e2 : ∀ (s : Int32) (i : Nat), tb (s ||| ((1 : Int32) <<< (nI j &&& 31))) i = true → tb s i = true ∨ i = j := by
    intro s i hi
    by_cases q : i < 32
    · rw [e s i q, Bool.or_eq_true, decide_eq_true_eq] at hi; exact hi
    · rw [tb_hi _ (by omega)] at hi; cases hi
  have up : ∀ (s : Int32) (i : Nat), tb s i = true → tb (s ||| ((1 : Int32) <<< (nI j &&& 31))) i = true := by
    intro s i hi; rw [tb_or, hi]; rfl
  have jn : ∀ s : Int32, tb (s ||| ((1 : Int32) <<< (nI j &&& 31))) j = true := by
    intro s; rw [e s j (by omega), decide_eq_true rfl, Bool.or_true]
  have nkj : ¬ k = j := fun q => by rw [q, hf] at a6; cases a6
  refine ⟨up f c a1, fun i hi => ?_, fun i hi => ?_, fun x y h1 h2 h3 h4 h5 => ?_, ?_, up f k a6, ?_⟩
  · rcases e2 f i hi with q | q
    · exact a2 i q
    · rw [q]; exact ⟨hj, rch_s (a2 k a6).2 hb hr⟩
  · rcases e2 w i hi with q | q
    · exact up f i (a3 i q)
    · rw [q]; exact jn f
  · rcases e2 f x h1 with q | q
    · have hw : tb w x = false := by
        cases hq : tb w x
        · rfl
        · rw [up w x hq] at h2; cases h2
      rcases a4 x y q hw h3 h4 h5 with ⟨q1, q2⟩ | q2
      · by_cases e3 : y = j
        · rw [e3]; exact Or.inr (jn f)
        · exact Or.inl ⟨q1, by omega⟩
      · exact Or.inr (up f y q2)
    · rw [q, jn w] at h2; cases h2
  · rw [← a5]
    refine cnt_congr 20 (fun i hi => ?_)
    rw [e f i (by omega), e w i (by omega)]
    by_cases q : i = j
    · subst q; rw [hf]; simp
    · rw [decide_eq_false q]; simp
  · rw [e w k (by have := (a2 k a6).1; omega), a7, decide_eq_false nkj]; rfl
theorem ci_end {R : Nat → Nat → Bool} {b f w : Int32} {c n k : Nat} (h : CI R b c n k 20 f w) : CB R b c (n + 1) f w := by
  obtain ⟨a1, a2, a3, a4, a5, a6, a7⟩ := h
  refine ⟨a1, a2, a3, fun x y h1 h2 h3 h4 h5 => ?_, a5⟩
  rcases a4 x y h1 h2 h3 h4 h5 with ⟨-, q⟩ | q
  · omega
  · exact q
theorem cnt_full {P : Nat → Bool} : ∀ n : Nat, cntB P n = n → ∀ i, i < n → P i = true := by
  intro n
  induction n with
  | zero => intro _ i hi; omega
  | succ n ih =>
    intro h i hi
    have e : cntB P (n + 1) = cntB P n + (bif P n then 1 else 0) := rfl
    have l := cnt_le P n
    cases hp : P n
    · rw [e, hp] at h; simp only [cond_false] at h; omega
    · rw [e, hp] at h
      simp only [cond_true] at h
      by_cases q : i = n
      · rw [q]; exact hp
      · exact ih (by omega) i (by omega)
theorem cb_done {R : Nat → Nat → Bool} {b f w : Int32} {c n : Nat} (hb : inR b 0 1048575) (h : CB R b c n f w) (hw : ∀ i, tb w i = false) : f = bsI (kin R (tb b) c) 20 := by
  obtain ⟨a1, a2, a3, a4, a5⟩ := h
  refine bs_of (fun i hi => ?_) (fun i hi => ?_)
  · cases ht : tb f i
    · rw [kin_f]
      intro q
      have := q (fun j => tb f j = true) a1 (fun x y hx hy hr => a4 x y hx (hw x) (by
        apply Nat.lt_of_not_le
        intro q2
        rw [tb_20 hb q2] at hy; cases hy) hy hr)
      rw [this] at ht; cases ht
    · rw [kin_t (a2 i ht).2]
  · cases ht : tb f i
    · rfl
    · have := (a2 i ht).1; omega
theorem cb_end0 {R : Nat → Nat → Bool} {b f : Int32} {c n : Nat} (hb : inR b 0 1048575) (h : CB R b c n f 0) : f = bsI (kin R (tb b) c) 20 := cb_done hb h (fun i => tb_0 i)
theorem cb_end20 {R : Nat → Nat → Bool} {b f w : Int32} {c : Nat} (hb : inR b 0 1048575) (h : CB R b c 20 f w) : f = bsI (kin R (tb b) c) 20 := by
  have q := cnt_full 20 h.2.2.2.2
  refine cb_done hb h (fun i => ?_)
  cases ht : tb w i
  · rfl
  · have h2 := h.2.1 i (h.2.2.1 i ht)
    have h3 := q i h2.1
    rw [ht] at h3; simp at h3
/-! the reference's way: labels, made one where two are alike -/
def LB (R : Nat → Nat → Bool) (n : Nat) (u : Int32) (f : Nat → Int32) (a b : Nat) : Prop := ∃ t : Nat → Nat, (∀ x, x < n → f x = nI (t x) ∧ t x ≤ x ∧ t (t x) = t x ∧ Rch R (fun i => decide (i < n) && !decide (nI i = u)) x (t x)) ∧ ∀ x y, y < x → x < n → (x < a ∨ x = a ∧ y < b) → ¬ nI x = u → ¬ nI y = u → R x y = true → t x = t y
theorem lb_0 {R : Nat → Nat → Bool} {n : Nat} {u : Int32} {f : Nat → Int32} (h : ∀ x, x < n → f x = nI x) : LB R n u f 0 0 := ⟨fun x => x, fun x hx => ⟨h x hx, Nat.le_refl _, rfl, rch_0 _ _ _⟩, fun x y h1 h2 h3 => by omega⟩
theorem lb_e {R : Nat → Nat → Bool} {n : Nat} {u : Int32} {f : Nat → Int32} {a k : Nat} (h : LB R n u f a k) (hk : a ≤ k) : LB R n u f (a + 1) 0 := by
  obtain ⟨t, h1, h2⟩ := h
  exact ⟨t, h1, fun x y q1 q2 q3 => h2 x y q1 q2 (by omega)⟩
theorem lb_no {R : Nat → Nat → Bool} {n : Nat} {u : Int32} {f : Nat → Int32} {a b : Nat} (h : LB R n u f a b) (ha : a < n) (hb : b < a) (hn20 : n ≤ 20) (hno : nI a = u ∨ nI b = u ∨ f a = f b ∨ R a b = false) : LB R n u f a (b + 1) := by
  obtain ⟨t, h1, h2⟩ := h
  refine ⟨t, h1, fun x y q1 q2 q3 q4 q5 q6 => ?_⟩
  by_cases e : x = a ∧ y = b
  · obtain ⟨rfl, rfl⟩ := e
    rcases hno with q | q | q | q
    · exact absurd q q4
    · exact absurd q q5
    · rw [(h1 x q2).1, (h1 y (by omega)).1] at q
      have l1 := (h1 x q2).2.1
      have l2 := (h1 y (by omega)).2.1
      exact (nI_eq (by omega) (by omega)).mp q
    · rw [q6] at q; cases q
  · exact h2 x y q1 q2 (by omega) q4 q5 q6
theorem lb_yes {R : Nat → Nat → Bool} {n : Nat} {u l m : Int32} {f g : Nat → Int32} {a b : Nat} (h : LB R n u f a b) (ha : a < n) (hb : b < a) (hn20 : n ≤ 20) (hua : ¬ nI a = u) (hub : ¬ nI b = u) (hne : ¬ f a = f b) (hr : R a b = true) (hs : Sym R (fun i => decide (i < n) && !decide (nI i = u))) (hl : l = (if f a < f b then f a else f b)) (hm : m = (if f a < f b then f b else f a)) (hg : ∀ x, x < n → g x = if f x = m then l else f x) : LB R n u g a (b + 1) := by
  obtain ⟨t, h1, h2⟩ := h
  have bn : b < n := by omega
  have A : ∀ x, x < n → ¬ nI x = u → (decide (x < n) && !decide (nI x = u)) = true := fun x h1 h2 => by rw [decide_eq_true h1, decide_eq_false h2]; rfl
  have fa := h1 a ha
  have fb := h1 b bn
  have tab : ¬ t a = t b := fun e => hne (by rw [fa.1, fb.1, e])
  obtain ⟨p, q, hpq, hp, hq, rq, el, em⟩ : ∃ p q : Nat, p < q ∧ (t p = p ∧ p < n) ∧ (t q = q ∧ q < n) ∧ Rch R (fun i => decide (i < n) && !decide (nI i = u)) q p ∧ l = nI p ∧ m = nI q := by
    have rab : Rch R (fun i => decide (i < n) && !decide (nI i = u)) a b := rch_s (rch_0 _ _ _) (A b bn hub) hr
    have rba : Rch R (fun i => decide (i < n) && !decide (nI i = u)) b a := rch_s (rch_0 _ _ _) (A a ha hua) (hs a b (A a ha hua) (A b bn hub) hr)
    have ba : Rch R (fun i => decide (i < n) && !decide (nI i = u)) (t a) a := rch_sym hs (A a ha hua) fa.2.2.2
    have bb : Rch R (fun i => decide (i < n) && !decide (nI i = u)) (t b) b := rch_sym hs (A b bn hub) fb.2.2.2
    rw [fa.1, fb.1] at hl hm
    by_cases q : t a < t b
    · have q2 : nI (t a) < nI (t b) := nI_lt q (by omega)
      rw [if_pos q2] at hl hm
      exact ⟨t a, t b, q, ⟨fa.2.2.1, by omega⟩, ⟨fb.2.2.1, by omega⟩, rch_t bb (rch_t rba fa.2.2.2), hl, hm⟩
    · have q2 : ¬ nI (t a) < nI (t b) := fun e => q ((nI_ltI (by omega) (by omega)).mp e)
      rw [if_neg q2] at hl hm
      exact ⟨t b, t a, by omega, ⟨fb.2.2.1, by omega⟩, ⟨fa.2.2.1, by omega⟩, rch_t ba (rch_t rab fb.2.2.2), hl, hm⟩
  refine ⟨fun x => if t x = q then p else t x, fun x hx => ?_, fun x y q1 q2 q3 q4 q5 q6 => ?_⟩
  · obtain ⟨b1, b2, b3, b4⟩ := h1 x hx
    by_cases e : t x = q
    · have et : (if t x = q then p else t x) = p := if_pos e
      have ep : (if t p = q then p else t p) = p := by rw [hp.1]; exact if_neg (by omega)
      refine ⟨?_, ?_, ?_, ?_⟩
      · show g x = nI (if t x = q then p else t x)
        rw [et, hg x hx, b1, e, em, if_pos rfl, el]
      · show (if t x = q then p else t x) ≤ x
        rw [et]; omega
      · show (if t (if t x = q then p else t x) = q then p else t (if t x = q then p else t x)) = (if t x = q then p else t x)
        rw [et, ep]
      · show Rch R _ x (if t x = q then p else t x)
        rw [et]; rw [e] at b4; exact rch_t b4 rq
    · have et : (if t x = q then p else t x) = t x := if_neg e
      have ep : (if t (t x) = q then p else t (t x)) = t x := by rw [b3]; exact if_neg e
      refine ⟨?_, ?_, ?_, ?_⟩
      · show g x = nI (if t x = q then p else t x)
        rw [et, hg x hx, b1, em, if_neg (fun h => e ((nI_eq (by omega) (by omega)).mp h))]
      · show (if t x = q then p else t x) ≤ x
        rw [et]; exact b2
      · show (if t (if t x = q then p else t x) = q then p else t (if t x = q then p else t x)) = (if t x = q then p else t x)
        rw [et, ep]
      · show Rch R _ x (if t x = q then p else t x)
        rw [et]; exact b4
  · show (if t x = q then p else t x) = (if t y = q then p else t y)
    by_cases e : x = a ∧ y = b
    · obtain ⟨rfl, rfl⟩ := e
      have lm : (t x = q ∧ t y = p) ∨ (t x = p ∧ t y = q) := by
        rw [(h1 x q2).1, (h1 y (by omega)).1] at hl hm
        rw [el] at hl
        rw [em] at hm
        by_cases c : nI (t x) < nI (t y)
        · rw [if_pos c] at hl hm
          exact Or.inr ⟨((nI_eq (by omega) (by omega)).mp hl).symm, ((nI_eq (by omega) (by omega)).mp hm).symm⟩
        · rw [if_neg c] at hl hm
          exact Or.inl ⟨((nI_eq (by omega) (by omega)).mp hm).symm, ((nI_eq (by omega) (by omega)).mp hl).symm⟩
      rcases lm with ⟨c1, c2⟩ | ⟨c1, c2⟩
      · rw [if_pos c1, if_neg (by omega), c2]
      · rw [if_neg (by omega), if_pos c2, c1]
    · rw [h2 x y q1 q2 (by omega) q4 q5 q6]
theorem lb_end {R : Nat → Nat → Bool} {n : Nat} {u : Int32} {f : Nat → Int32} (hn20 : n ≤ 20) (hs : Sym R (fun i => decide (i < n) && !decide (nI i = u))) (h : LB R n u f n 0) : ∀ x, x < n → ¬ nI x = u → f x = nI (lab R (fun i => decide (i < n) && !decide (nI i = u)) x) := by
  obtain ⟨t, h1, h2⟩ := h
  intro x hx hxu
  have A : ∀ x, x < n → ¬ nI x = u → (decide (x < n) && !decide (nI x = u)) = true := fun x h1 h2 => by rw [decide_eq_true h1, decide_eq_false h2]; rfl
  have A2 : ∀ x, (decide (x < n) && !decide (nI x = u)) = true → x < n ∧ ¬ nI x = u := fun x h => by
    rw [Bool.and_eq_true, decide_eq_true_eq, Bool.not_eq_true', decide_eq_false_iff_not] at h; exact h
  rw [(h1 x hx).1]
  congr 1
  symm
  refine lab_at (by omega) (h1 x hx).2.2.2 (fun j hj => ?_)
  have q := hj (fun j => (j < n ∧ ¬ nI j = u) ∧ t j = t x) ⟨⟨hx, hxu⟩, rfl⟩ (fun y z hy hz hr => by
    have az := A2 z hz
    refine ⟨az, ?_⟩
    rw [← hy.2]
    by_cases e : y = z
    · rw [e]
    · by_cases l : z < y
      · exact (h2 y z l hy.1.1 (Or.inl hy.1.1) hy.1.2 az.2 hr).symm
      · exact h2 z y (by omega) az.1 (Or.inl az.1) az.2 hy.1.2 (hs y z (A y hy.1.1 hy.1.2) hz hr))
  have q1 := (h1 j q.1.1).2.1
  have q2 : t j = t x := q.2
  omega
theorem bs_t {K : Nat → Bool} {g : Int32} {j : Nat} (h : g = bsI K j) (hk : K j = true) : g ||| ((1 : Int32) <<< (nI j &&& 31)) = bsI K (j + 1) := by
  show _ = (bif K j then bsI K j ||| ((1 : Int32) <<< (nI j &&& 31)) else bsI K j)
  rw [hk, h]; rfl
theorem bs_f {K : Nat → Bool} {g : Int32} {j : Nat} (h : g = bsI K j) (hk : K j = false) : g = bsI K (j + 1) := by
  show _ = (bif K j then bsI K j ||| ((1 : Int32) <<< (nI j &&& 31)) else bsI K j)
  rw [hk]; exact h
def thI (σ : Sg) : Int32 := bsI (fun i => thC σ (nI i)) 20
theorem thC_big {σ : Sg} (hI : Inv σ) {i : Nat} (h : Int32.toNatClampNeg (σ.1 110) ≤ i) (hi : i < 100) : thC σ (nI i) = false := by
  cases ht : thC σ (nI i)
  · rfl
  · have q := thC_sz hI ht
    rw [nI_clamp (by omega)] at q
    have : i < Int32.toNatClampNeg (σ.1 110) := q
    omega
theorem thI_of {σ : Sg} (hI : Inv σ) {g : Int32} {n : Nat} (h : g = bsI (fun i => thC σ (nI i)) n) (hn : Int32.toNatClampNeg (σ.1 110) = n) : g = thI σ := by
  have h20 : n ≤ 20 := by
    rw [← hn]
    have := ti_in (iv_110 hI)
    have z : (20 : Int32).toInt = 20 := by decide
    show (σ.1 110).toInt.toNat ≤ 20
    omega
  rw [h]
  have e : ∀ q : Nat, n + q ≤ 20 → bsI (fun i => thC σ (nI i)) (n + q) = bsI (fun i => thC σ (nI i)) n := by
    intro q
    induction q with
    | zero => intro _; rfl
    | succ q ih =>
      intro hq
      show (bif thC σ (nI (n + q)) then bsI (fun i => thC σ (nI i)) (n + q) ||| ((1 : Int32) <<< (nI (n + q) &&& 31)) else bsI (fun i => thC σ (nI i)) (n + q)) = _
      rw [thC_big hI (by omega) (by omega)]; exact ih (by omega)
  have e2 := e (20 - n) (by omega)
  rw [show n + (20 - n) = 20 by omega] at e2
  exact e2.symm
theorem thI_in (σ : Sg) : inR (thI σ) 0 1048575 := bs_in _
theorem has_t {s : Int32} {k : Nat} (hk : k < 31) (h : (s >>> (nI k &&& 31)) &&& 1 = 1) : tb s k = true := by
  rw [bit_of hk] at h
  cases ht : tb s k
  · rw [ht] at h; exact absurd h (by decide)
  · rfl
theorem has_f {s : Int32} {k : Nat} (hk : k < 31) (h : ¬ (s >>> (nI k &&& 31)) &&& 1 = 1) : tb s k = false := by
  rw [bit_of hk] at h
  cases ht : tb s k
  · rfl
  · rw [ht] at h; exact absurd rfl h
theorem hs_old {b f : Int32} {j : Nat} (hj : j < 20) (h : tb (b &&& (f ^^^ -1)) j = false) (hb : tb b j = true) : tb f j = true := by
  rw [tb_and, tb_not (by omega), hb] at h
  cases ht : tb f j
  · rw [ht] at h; cases h
  · rfl
theorem hs_new {b f : Int32} {j : Nat} (hj : j < 20) (h : tb (b &&& (f ^^^ -1)) j = true) : tb b j = true ∧ tb f j = false := by
  rw [tb_and, tb_not (by omega), Bool.and_eq_true, Bool.not_eq_true'] at h
  exact h
set_option maxRecDepth 100000 in
set_option maxHeartbeats 40000000 in
theorem ge_X0_there {G : vG} {l : Launch} (σ : Sg)  (hI : Inv σ) : Sp G l yX0_there cX0_there 3 (some .int) 1 0 0 [.ref 1] (WW σ) (QI (fun x w2 => w2 = WW σ ∧ x = thI σ)) := by
  refine Sp_of_R [(some (.ref 1)), none, none] [none, none] rfl (by simp) rfl (Nat.le_of_ble_eq_true rfl) ?_
  refine R_iconst (pc := 0) (v := 0) dX0_there_0 (by decide) ?_
  refine st_3_1_i_a (pc := 1) dX0_there_1 ?_
  refine R_iconst (pc := 2) (v := 0) dX0_there_2 (by decide) ?_
  refine st_3_2_i_i (pc := 3) dX0_there_3 ?_
  have HL4 : ∀ (q j4 : Nat) (g1_4 : Int32), j4 + q = 20 → 0 ≤ j4 → g1_4 = bsI (fun i => thC σ (nI i)) j4 → nI j4 ≤ (σ.1 110) → R G l yX0_there cX0_there 3 (some .int) 1 0 0 (QI (fun x w2 => w2 = WW σ ∧ x = thI σ)) 4 [(some (.ref 1)), (some (.int g1_4)), (some (.int (nI j4)))] [] (WW σ) 0 0 := by
    intro q
    induction q with
    | zero =>
      intro j4 g1_4 hj hs4 hX4_0 hX4_1
      obtain rfl : j4 = 20 := by omega
      refine R_iload_n (pc := 4) dX0_there_4 rfl rfl ?_
      refine R_aload_n (pc := 5) dX0_there_5 rfl rfl ?_
      refine g_X0_47 (pc := 6) (v := .int (σ.1 110)) rfl dX0_there_6 (c_1 _) rfl ?_
      refine R_icge (pc := 9) 32 dX0_there_9 (by decide) (fun _ => ?_) (fun h => absurd (Int32.not_lt.mp (inR_up (iv_110 hI) (Int32.le_refl _) (by decide)).2) h)
      refine R_iload_n (pc := 32) dX0_there_32 rfl rfl ?_
      exact R_iret (pc := 33) dX0_there_33 rfl rfl (Nat.zero_le _) (Nat.zero_le _) ⟨_, rfl, rfl, (thI_of hI hX4_0 (show (Int32.toNatClampNeg (σ.1 110)) = 20 from jn_of (by omega) (by first | exact nI_eqe hX4_1 (by assumption) | exact nI_eq20 hX4_1 (iv_110 hI))))⟩
    | succ q ih4 =>
      intro j4 g1_4 hj hs4 hX4_0 hX4_1
      have hrg4 : inR (nI j4) 0 19 := inR_ix hs4 (show j4 < 20 by omega) (by decide) (by decide) (by decide)
      have hlt4 : j4 < 20 := by omega
      refine R_iload_n (pc := 4) dX0_there_4 rfl rfl ?_
      refine R_aload_n (pc := 5) dX0_there_5 rfl rfl ?_
      refine g_X0_47 (pc := 6) (v := .int (σ.1 110)) rfl dX0_there_6 (c_1 _) rfl ?_
      refine R_icge (pc := 9) 32 dX0_there_9 (by decide) (fun b9_2 => ?_) (fun b9_2 => ?_)
      · skip
        refine R_iload_n (pc := 32) dX0_there_32 rfl rfl ?_
        exact R_iret (pc := 33) dX0_there_33 rfl rfl (Nat.zero_le _) (Nat.zero_le _) ⟨_, rfl, rfl, (thI_of hI hX4_0 (show (Int32.toNatClampNeg (σ.1 110)) = j4 from jn_of (by omega) (by first | exact nI_eqe hX4_1 (by assumption) | exact nI_eq20 hX4_1 (iv_110 hI))))⟩
      · skip
        refine R_aload_n (pc := 12) dX0_there_12 rfl rfl ?_
        refine R_iload_n (pc := 13) dX0_there_13 rfl rfl ?_
        refine k_X0_53 (pc := 14) (ge_X0_isThere _ _ hI) rfl (c_1 _) (by decide) (Nat.le_refl _) (Nat.le_refl _) (Nat.le_of_ble_eq_true rfl) dX0_there_14 (fun x w2 h => ?_)
        rcases h with ⟨rfl, ⟨h3, rfl⟩ | ⟨h3, rfl⟩⟩
        · skip
          refine R_ifeq (pc := 17) 26 dX0_there_17 (by decide) (fun h => absurd h (by decide)) (fun _ => ?_)
          refine R_iload_n (pc := 20) dX0_there_20 rfl rfl ?_
          refine R_iconst (pc := 21) (v := 1) dX0_there_21 (by decide) ?_
          refine R_iload_n (pc := 22) dX0_there_22 rfl rfl ?_
          refine R_ishl (pc := 23) dX0_there_23 ?_
          have r5 : inR (1 <<< ((nI j4) &&& 31)) 0 1048575 := shl20 (thC_r hI h3)
          refine R_ior (pc := 24) dX0_there_24 ?_
          refine st_3_1_i_a (pc := 25) dX0_there_25 ?_
          refine inc_3_2_1_i (pc := 26) dX0_there_26 ?_
          have r6 : inR ((nI j4) + 1) 1 20 := inR_add (show inR (nI j4) 0 19 from (thC_r hI h3)) (show inR 1 1 1 from (inR_self _)) (by decide) (by decide)
          have e7 := ti_add (l := 1) (h := 20) (show inR (nI j4) 0 19 from (thC_r hI h3)) (show inR 1 1 1 from (inR_self _)) (by decide) (by decide)
          refine R_goto (pc := 29) 4 dX0_there_29 (by decide) ?_
          rw [nI_1]
          exact ih4 (j4 + 1) _ (by omega) (by omega) (bs_t (K := (fun i => thC σ (nI i))) hX4_0 h3) (nI_sle (by omega) b9_2)
        · skip
          refine R_ifeq (pc := 17) 26 dX0_there_17 (by decide) (fun _ => ?_) (fun h => absurd (by decide) h)
          refine inc_3_2_1_i (pc := 26) dX0_there_26 ?_
          have r9 : inR ((nI j4) + 1) 1 20 := inR_add (show inR (nI j4) 0 19 from hrg4) (show inR 1 1 1 from (inR_self _)) (by decide) (by decide)
          have e10 := ti_add (l := 1) (h := 20) (show inR (nI j4) 0 19 from hrg4) (show inR 1 1 1 from (inR_self _)) (by decide) (by decide)
          refine R_goto (pc := 29) 4 dX0_there_29 (by decide) ?_
          rw [nI_1]
          exact ih4 (j4 + 1) _ (by omega) (by omega) (bs_f (K := (fun i => thC σ (nI i))) hX4_0 h3) (nI_sle (by omega) b9_2)
  exact HL4 20 0 _ (by omega) (by omega) rfl (show (0 : Int32) ≤ (σ.1 110) from Int32.not_lt.mp (iv_110 hI).1)
set_option maxRecDepth 100000 in
set_option maxHeartbeats 40000000 in
theorem gn_X3_chained_0 {G : vG} {l : Launch} (σ : Sg) (c b : Int32) (hI : Inv σ) (hc : inR c 0 19) (hb : inR b 0 1048575) : Sp G l yX3_chained cX3_chained 10 (some .int) 2 0 0 [.ref 12, .int c, .int b, .int 0] (WW σ) (QI (fun x w2 => w2 = WW σ ∧ x = bsI (kin (fun a b => lkC σ (nI a) (nI b)) (tb b) (Int32.toNatClampNeg c)) 20)) := by
  refine Sp_of_R [(some (.ref 12)), (some (.int c)), (some (.int b)), (some (.int 0)), none, none, none, none, none, none] [none, none, none, none, none, none] rfl (by simp) rfl (Nat.le_of_ble_eq_true rfl) ?_
  refine R_iconst (pc := 0) (v := 1) dX3_chained_0 (by decide) ?_
  refine R_iload_n (pc := 1) dX3_chained_1 rfl rfl ?_
  refine R_ishl (pc := 2) dX3_chained_2 ?_
  have r1 : inR (1 <<< (c &&& 31)) 0 1048575 := shl20 hc
  refine st_10_4_i_i (pc := 3) dX3_chained_3 ?_
  refine R_iload (pc := 5) dX3_chained_5 rfl ?_
  refine st_10_5_i_i (pc := 7) dX3_chained_7 ?_
  refine R_iconst (pc := 9) (v := 0) dX3_chained_9 (by decide) ?_
  refine st_10_6_i_i (pc := 10) dX3_chained_10 ?_
  have HL12 : ∀ (q j12 : Nat) (g4_12 : Int32) (g5_12 : Int32) (g7_12 : Option Value) (g8_12 : Option Value) (g9_12 : Option Value), j12 + q = 20 → 0 ≤ j12 → inR g5_12 0 1048575 → CB (fun a b => lkC σ (nI a) (nI b)) b (Int32.toNatClampNeg c) j12 g4_12 g5_12 → R G l yX3_chained cX3_chained 10 (some .int) 2 0 0 (QI (fun x w2 => w2 = WW σ ∧ x = bsI (kin (fun a b => lkC σ (nI a) (nI b)) (tb b) (Int32.toNatClampNeg c)) 20)) 12 [(some (.ref 12)), (some (.int c)), (some (.int b)), (some (.int 0)), (some (.int g4_12)), (some (.int g5_12)), (some (.int (nI j12))), g7_12, g8_12, g9_12] [] (WW σ) 0 0 := by
    intro q
    induction q with
    | zero =>
      intro j12 g4_12 g5_12 g7_12 g8_12 g9_12 hj hs12 hg5_12 hX12_0
      obtain rfl : j12 = 20 := by omega
      refine R_iload (pc := 12) dX3_chained_12 rfl ?_
      refine R_bipush (pc := 14) (v := 20) dX3_chained_14 (by decide) ?_
      refine R_icge (pc := 16) 129 dX3_chained_16 (by decide) (fun _ => ?_) (fun h => absurd (by decide) h)
      refine R_iload (pc := 129) dX3_chained_129 rfl ?_
      exact R_iret (pc := 131) dX3_chained_131 rfl rfl (Nat.zero_le _) (Nat.zero_le _) ⟨_, rfl, rfl, (cb_end20 hb hX12_0)⟩
    | succ q ih12 =>
      intro j12 g4_12 g5_12 g7_12 g8_12 g9_12 hj hs12 hg5_12 hX12_0
      have hrg12 : inR (nI j12) 0 19 := inR_ix hs12 (show j12 < 20 by omega) (by decide) (by decide) (by decide)
      have hlt12 : j12 < 20 := by omega
      refine R_iload (pc := 12) dX3_chained_12 rfl ?_
      refine R_bipush (pc := 14) (v := 20) dX3_chained_14 (by decide) ?_
      refine R_icge (pc := 16) 129 dX3_chained_16 (by decide) (fun h => False.elim (by have q1 := ti_le h; have q2 := ti_in (show inR (nI j12) 0 19 from hrg12); have q3 := ti_in (show inR 20 20 20 from (inR_self _)); have z0 : (0 : Int32).toInt = 0 := (by decide);  have z1 : (19 : Int32).toInt = 19 := (by decide);  have z2 : (20 : Int32).toInt = 20 := (by decide); omega)) (fun _ => ?_)
      refine R_iload (pc := 19) dX3_chained_19 rfl ?_
      refine R_ifeq (pc := 21) 129 dX3_chained_21 (by decide) (fun b21_4 => ?_) (fun b21_4 => ?_)
      · skip
        refine R_iload (pc := 129) dX3_chained_129 rfl ?_
        exact R_iret (pc := 131) dX3_chained_131 rfl rfl (Nat.zero_le _) (Nat.zero_le _) ⟨_, rfl, rfl, (cb_end0 hb (by have q := hX12_0; rw [b21_4] at q; exact q))⟩
      · skip
        refine R_iload (pc := 24) dX3_chained_24 rfl ?_
        obtain ⟨k7, hk7, hk7e, hk7t, hk7l⟩ := low_is hg5_12 b21_4
        refine k_X3_102 (pc := 26) (gx_X8_lowest _ _) rfl (by decide) (Nat.le_refl _) (Nat.le_refl _) (Nat.le_of_ble_eq_true rfl) dX3_chained_26 (fun x w2 h => ?_)
        obtain ⟨rfl, rfl⟩ := h
        refine R_cv (nI k7) hk7e ?_
        have r5 : inR (nI k7) 0 19 := inR_nI (M := 19) (by omega) (by decide)
        refine st_10_7_i_i (pc := 29) dX3_chained_29 ?_
        refine R_iload (pc := 31) dX3_chained_31 rfl ?_
        refine R_iconst (pc := 33) (v := 1) dX3_chained_33 (by decide) ?_
        refine R_iload (pc := 34) dX3_chained_34 rfl ?_
        refine R_ishl (pc := 36) dX3_chained_36 ?_
        have r6 : inR (1 <<< ((nI k7) &&& 31)) 0 1048575 := shl20 r5
        refine R_iconst (pc := 37) (v := (-1)) dX3_chained_37 (by decide) ?_
        refine R_ixor (pc := 38) dX3_chained_38 ?_
        refine R_iand (pc := 39) dX3_chained_39 ?_
        have r7 : inR (g5_12 &&& ((1 <<< ((nI k7) &&& 31)) ^^^ (-1))) 0 1048575 := inR_and hg5_12
        refine st_10_5_i_i (pc := 40) dX3_chained_40 ?_
        refine R_iconst (pc := 42) (v := 0) dX3_chained_42 (by decide) ?_
        refine st_10_8_i_i (pc := 43) dX3_chained_43 ?_
        have HL45 : ∀ (q j45 : Nat) (g4_45 : Int32) (g5_45 : Int32) (g9_45 : Option Value), j45 + q = 20 → 0 ≤ j45 → inR g5_45 0 1048575 → CI (fun a b => lkC σ (nI a) (nI b)) b (Int32.toNatClampNeg c) j12 k7 j45 g4_45 g5_45 → R G l yX3_chained cX3_chained 10 (some .int) 2 0 0 (QI (fun x w2 => w2 = WW σ ∧ x = bsI (kin (fun a b => lkC σ (nI a) (nI b)) (tb b) (Int32.toNatClampNeg c)) 20)) 45 [(some (.ref 12)), (some (.int c)), (some (.int b)), (some (.int 0)), (some (.int g4_45)), (some (.int g5_45)), (some (.int (nI j12))), (some (.int (nI k7))), (some (.int (nI j45))), g9_45] [] (WW σ) 0 0 := by
          intro q
          induction q with
          | zero =>
            intro j45 g4_45 g5_45 g9_45 hj hs45 hg5_45 hX45_0
            obtain rfl : j45 = 20 := by omega
            refine R_iload (pc := 45) dX3_chained_45 rfl ?_
            refine R_bipush (pc := 47) (v := 20) dX3_chained_47 (by decide) ?_
            refine R_icge (pc := 49) 123 dX3_chained_49 (by decide) (fun _ => ?_) (fun h => absurd (by decide) h)
            refine inc_10_6_1_i (pc := 123) dX3_chained_123 ?_
            have r9 : inR ((nI j12) + 1) 1 20 := inR_add (show inR (nI j12) 0 19 from hrg12) (show inR 1 1 1 from (inR_self _)) (by decide) (by decide)
            have e10 := ti_add (l := 1) (h := 20) (show inR (nI j12) 0 19 from hrg12) (show inR 1 1 1 from (inR_self _)) (by decide) (by decide)
            refine R_goto (pc := 126) 12 dX3_chained_126 (by decide) ?_
            rw [nI_1]
            exact ih12 (j12 + 1) _ _ _ _ _ (by omega) (by omega) hg5_45 (ci_end hX45_0)
          | succ q ih45 =>
            intro j45 g4_45 g5_45 g9_45 hj hs45 hg5_45 hX45_0
            have hrg45 : inR (nI j45) 0 19 := inR_ix hs45 (show j45 < 20 by omega) (by decide) (by decide) (by decide)
            have hlt45 : j45 < 20 := by omega
            refine R_iload (pc := 45) dX3_chained_45 rfl ?_
            refine R_bipush (pc := 47) (v := 20) dX3_chained_47 (by decide) ?_
            refine R_icge (pc := 49) 123 dX3_chained_49 (by decide) (fun h => False.elim (by have q1 := ti_le h; have q2 := ti_in (show inR (nI j45) 0 19 from hrg45); have q3 := ti_in (show inR 20 20 20 from (inR_self _)); have z0 : (0 : Int32).toInt = 0 := (by decide);  have z1 : (19 : Int32).toInt = 19 := (by decide);  have z2 : (20 : Int32).toInt = 20 := (by decide); omega)) (fun _ => ?_)
            refine R_iload_n (pc := 52) dX3_chained_52 rfl rfl ?_
            refine R_iload (pc := 53) dX3_chained_53 rfl ?_
            refine R_iconst (pc := 55) (v := (-1)) dX3_chained_55 (by decide) ?_
            refine R_ixor (pc := 56) dX3_chained_56 ?_
            refine R_iand (pc := 57) dX3_chained_57 ?_
            have r12 : inR (b &&& (g4_45 ^^^ (-1))) 0 1048575 := inR_and hb
            refine R_iload (pc := 58) dX3_chained_58 rfl ?_
            refine k_X3_106 (pc := 60) (sp_X8_has _ _ _) rfl (by decide) (Nat.le_refl _) (Nat.le_refl _) (Nat.le_of_ble_eq_true rfl) dX3_chained_60 (fun x w2 h => ?_)
            rcases h with ⟨rfl, ⟨hh13, rfl⟩ | ⟨hh13, rfl⟩⟩
            · skip
              refine st_10_9_i_i (pc := 63) dX3_chained_63 ?_
              refine R_iload (pc := 65) dX3_chained_65 rfl ?_
              refine R_ifeq (pc := 67) 117 dX3_chained_67 (by decide) (fun h => absurd h (by decide)) (fun _ => ?_)
              refine R_iload_n (pc := 70) dX3_chained_70 rfl rfl ?_
              refine R_ifeq (pc := 71) 88 dX3_chained_71 (by decide) (fun _ => ?_) (fun h => absurd (by decide) h)
              refine R_aload_n (pc := 88) dX3_chained_88 rfl rfl ?_
              refine R_iload (pc := 89) dX3_chained_89 rfl ?_
              refine R_iload (pc := 91) dX3_chained_91 rfl ?_
              refine k_X3_94 (pc := 93) (ge_X3_isLike _ _ _ hI r5 hrg45) rfl (c_12 _) (by decide) (Nat.le_refl _) (Nat.le_refl _) (Nat.le_of_ble_eq_true rfl) dX3_chained_93 (fun x w2 h => ?_)
              rcases h with ⟨rfl, ⟨h16, rfl⟩ | ⟨h16, rfl⟩⟩
              · skip
                refine R_ifeq (pc := 96) 117 dX3_chained_96 (by decide) (fun h => absurd h (by decide)) (fun _ => ?_)
                refine R_iload (pc := 99) dX3_chained_99 rfl ?_
                refine R_iconst (pc := 101) (v := 1) dX3_chained_101 (by decide) ?_
                refine R_iload (pc := 102) dX3_chained_102 rfl ?_
                refine R_ishl (pc := 104) dX3_chained_104 ?_
                have r18 : inR (1 <<< ((nI j45) &&& 31)) 0 1048575 := shl20 hrg45
                refine R_ior (pc := 105) dX3_chained_105 ?_
                refine st_10_4_i_i (pc := 106) dX3_chained_106 ?_
                refine R_iload (pc := 108) dX3_chained_108 rfl ?_
                refine R_iconst (pc := 110) (v := 1) dX3_chained_110 (by decide) ?_
                refine R_iload (pc := 111) dX3_chained_111 rfl ?_
                refine R_ishl (pc := 113) dX3_chained_113 ?_
                have r19 : inR (1 <<< ((nI j45) &&& 31)) 0 1048575 := shl20 hrg45
                refine R_ior (pc := 114) dX3_chained_114 ?_
                have r20 : inR (g5_45 ||| (1 <<< ((nI j45) &&& 31))) 0 1048575 := inR_or 20 (by decide) hg5_45 r19
                refine st_10_5_i_i (pc := 115) dX3_chained_115 ?_
                refine inc_10_8_1_i (pc := 117) dX3_chained_117 ?_
                have r21 : inR ((nI j45) + 1) 1 20 := inR_add (show inR (nI j45) 0 19 from hrg45) (show inR 1 1 1 from (inR_self _)) (by decide) (by decide)
                have e22 := ti_add (l := 1) (h := 20) (show inR (nI j45) 0 19 from hrg45) (show inR 1 1 1 from (inR_self _)) (by decide) (by decide)
                refine R_goto (pc := 120) 45 dX3_chained_120 (by decide) ?_
                rw [nI_1]
                exact ih45 (j45 + 1) _ _ _ (by omega) (by omega) r20 (ci_new (R := (fun a b => lkC σ (nI a) (nI b))) hX45_0 (by omega) (hs_new (by omega) (has_t (by omega) hh13)).1 (hs_new (by omega) (has_t (by omega) hh13)).2 h16)
              · skip
                refine R_ifeq (pc := 96) 117 dX3_chained_96 (by decide) (fun _ => ?_) (fun h => absurd (by decide) h)
                refine inc_10_8_1_i (pc := 117) dX3_chained_117 ?_
                have r24 : inR ((nI j45) + 1) 1 20 := inR_add (show inR (nI j45) 0 19 from hrg45) (show inR 1 1 1 from (inR_self _)) (by decide) (by decide)
                have e25 := ti_add (l := 1) (h := 20) (show inR (nI j45) 0 19 from hrg45) (show inR 1 1 1 from (inR_self _)) (by decide) (by decide)
                refine R_goto (pc := 120) 45 dX3_chained_120 (by decide) ?_
                rw [nI_1]
                exact ih45 (j45 + 1) _ _ _ (by omega) (by omega) hg5_45 (ci_old (R := (fun a b => lkC σ (nI a) (nI b))) hX45_0 (fun _ hr1 => absurd (h16.symm.trans hr1) (by decide)))
            · skip
              refine st_10_9_i_i (pc := 63) dX3_chained_63 ?_
              refine R_iload (pc := 65) dX3_chained_65 rfl ?_
              refine R_ifeq (pc := 67) 117 dX3_chained_67 (by decide) (fun _ => ?_) (fun h => absurd (by decide) h)
              refine inc_10_8_1_i (pc := 117) dX3_chained_117 ?_
              have r27 : inR ((nI j45) + 1) 1 20 := inR_add (show inR (nI j45) 0 19 from hrg45) (show inR 1 1 1 from (inR_self _)) (by decide) (by decide)
              have e28 := ti_add (l := 1) (h := 20) (show inR (nI j45) 0 19 from hrg45) (show inR 1 1 1 from (inR_self _)) (by decide) (by decide)
              refine R_goto (pc := 120) 45 dX3_chained_120 (by decide) ?_
              rw [nI_1]
              exact ih45 (j45 + 1) _ _ _ (by omega) (by omega) hg5_45 (ci_old (R := (fun a b => lkC σ (nI a) (nI b))) hX45_0 (fun hb1 _ => hs_old (by omega) (has_f (by omega) hh13) hb1))
        exact HL45 20 0 _ _ _ (by omega) (by omega) r7 (cb_take (R := (fun a b => lkC σ (nI a) (nI b))) hX12_0 hk7 hk7t)
  exact HL12 20 0 _ _ _ _ _ (by omega) (by omega) r1 (cb_0 hc)
set_option maxRecDepth 100000 in
set_option maxHeartbeats 40000000 in
theorem gn_X3_chained_1 {G : vG} {l : Launch} (σ : Sg) (c b : Int32) (hI : Inv σ) (hc : inR c 0 19) (hb : inR b 0 1048575) : Sp G l yX3_chained cX3_chained 10 (some .int) 2 0 0 [.ref 12, .int c, .int b, .int 1] (WW σ) (QI (fun x w2 => w2 = WW σ ∧ x = bsI (kin (fun a b => mtC σ (nI a) (nI b)) (tb b) (Int32.toNatClampNeg c)) 20)) := by
  refine Sp_of_R [(some (.ref 12)), (some (.int c)), (some (.int b)), (some (.int 1)), none, none, none, none, none, none] [none, none, none, none, none, none] rfl (by simp) rfl (Nat.le_of_ble_eq_true rfl) ?_
  refine R_iconst (pc := 0) (v := 1) dX3_chained_0 (by decide) ?_
  refine R_iload_n (pc := 1) dX3_chained_1 rfl rfl ?_
  refine R_ishl (pc := 2) dX3_chained_2 ?_
  have r1 : inR (1 <<< (c &&& 31)) 0 1048575 := shl20 hc
  refine st_10_4_i_i (pc := 3) dX3_chained_3 ?_
  refine R_iload (pc := 5) dX3_chained_5 rfl ?_
  refine st_10_5_i_i (pc := 7) dX3_chained_7 ?_
  refine R_iconst (pc := 9) (v := 0) dX3_chained_9 (by decide) ?_
  refine st_10_6_i_i (pc := 10) dX3_chained_10 ?_
  have HL12 : ∀ (q j12 : Nat) (g4_12 : Int32) (g5_12 : Int32) (g7_12 : Option Value) (g8_12 : Option Value) (g9_12 : Option Value), j12 + q = 20 → 0 ≤ j12 → inR g5_12 0 1048575 → CB (fun a b => mtC σ (nI a) (nI b)) b (Int32.toNatClampNeg c) j12 g4_12 g5_12 → R G l yX3_chained cX3_chained 10 (some .int) 2 0 0 (QI (fun x w2 => w2 = WW σ ∧ x = bsI (kin (fun a b => mtC σ (nI a) (nI b)) (tb b) (Int32.toNatClampNeg c)) 20)) 12 [(some (.ref 12)), (some (.int c)), (some (.int b)), (some (.int 1)), (some (.int g4_12)), (some (.int g5_12)), (some (.int (nI j12))), g7_12, g8_12, g9_12] [] (WW σ) 0 0 := by
    intro q
    induction q with
    | zero =>
      intro j12 g4_12 g5_12 g7_12 g8_12 g9_12 hj hs12 hg5_12 hX12_0
      obtain rfl : j12 = 20 := by omega
      refine R_iload (pc := 12) dX3_chained_12 rfl ?_
      refine R_bipush (pc := 14) (v := 20) dX3_chained_14 (by decide) ?_
      refine R_icge (pc := 16) 129 dX3_chained_16 (by decide) (fun _ => ?_) (fun h => absurd (by decide) h)
      refine R_iload (pc := 129) dX3_chained_129 rfl ?_
      exact R_iret (pc := 131) dX3_chained_131 rfl rfl (Nat.zero_le _) (Nat.zero_le _) ⟨_, rfl, rfl, (cb_end20 hb hX12_0)⟩
    | succ q ih12 =>
      intro j12 g4_12 g5_12 g7_12 g8_12 g9_12 hj hs12 hg5_12 hX12_0
      have hrg12 : inR (nI j12) 0 19 := inR_ix hs12 (show j12 < 20 by omega) (by decide) (by decide) (by decide)
      have hlt12 : j12 < 20 := by omega
      refine R_iload (pc := 12) dX3_chained_12 rfl ?_
      refine R_bipush (pc := 14) (v := 20) dX3_chained_14 (by decide) ?_
      refine R_icge (pc := 16) 129 dX3_chained_16 (by decide) (fun h => False.elim (by have q1 := ti_le h; have q2 := ti_in (show inR (nI j12) 0 19 from hrg12); have q3 := ti_in (show inR 20 20 20 from (inR_self _)); have z0 : (0 : Int32).toInt = 0 := (by decide);  have z1 : (19 : Int32).toInt = 19 := (by decide);  have z2 : (20 : Int32).toInt = 20 := (by decide); omega)) (fun _ => ?_)
      refine R_iload (pc := 19) dX3_chained_19 rfl ?_
      refine R_ifeq (pc := 21) 129 dX3_chained_21 (by decide) (fun b21_4 => ?_) (fun b21_4 => ?_)
      · skip
        refine R_iload (pc := 129) dX3_chained_129 rfl ?_
        exact R_iret (pc := 131) dX3_chained_131 rfl rfl (Nat.zero_le _) (Nat.zero_le _) ⟨_, rfl, rfl, (cb_end0 hb (by have q := hX12_0; rw [b21_4] at q; exact q))⟩
      · skip
        refine R_iload (pc := 24) dX3_chained_24 rfl ?_
        obtain ⟨k7, hk7, hk7e, hk7t, hk7l⟩ := low_is hg5_12 b21_4
        refine k_X3_102 (pc := 26) (gx_X8_lowest _ _) rfl (by decide) (Nat.le_refl _) (Nat.le_refl _) (Nat.le_of_ble_eq_true rfl) dX3_chained_26 (fun x w2 h => ?_)
        obtain ⟨rfl, rfl⟩ := h
        refine R_cv (nI k7) hk7e ?_
        have r5 : inR (nI k7) 0 19 := inR_nI (M := 19) (by omega) (by decide)
        refine st_10_7_i_i (pc := 29) dX3_chained_29 ?_
        refine R_iload (pc := 31) dX3_chained_31 rfl ?_
        refine R_iconst (pc := 33) (v := 1) dX3_chained_33 (by decide) ?_
        refine R_iload (pc := 34) dX3_chained_34 rfl ?_
        refine R_ishl (pc := 36) dX3_chained_36 ?_
        have r6 : inR (1 <<< ((nI k7) &&& 31)) 0 1048575 := shl20 r5
        refine R_iconst (pc := 37) (v := (-1)) dX3_chained_37 (by decide) ?_
        refine R_ixor (pc := 38) dX3_chained_38 ?_
        refine R_iand (pc := 39) dX3_chained_39 ?_
        have r7 : inR (g5_12 &&& ((1 <<< ((nI k7) &&& 31)) ^^^ (-1))) 0 1048575 := inR_and hg5_12
        refine st_10_5_i_i (pc := 40) dX3_chained_40 ?_
        refine R_iconst (pc := 42) (v := 0) dX3_chained_42 (by decide) ?_
        refine st_10_8_i_i (pc := 43) dX3_chained_43 ?_
        have HL45 : ∀ (q j45 : Nat) (g4_45 : Int32) (g5_45 : Int32) (g9_45 : Option Value), j45 + q = 20 → 0 ≤ j45 → inR g5_45 0 1048575 → CI (fun a b => mtC σ (nI a) (nI b)) b (Int32.toNatClampNeg c) j12 k7 j45 g4_45 g5_45 → R G l yX3_chained cX3_chained 10 (some .int) 2 0 0 (QI (fun x w2 => w2 = WW σ ∧ x = bsI (kin (fun a b => mtC σ (nI a) (nI b)) (tb b) (Int32.toNatClampNeg c)) 20)) 45 [(some (.ref 12)), (some (.int c)), (some (.int b)), (some (.int 1)), (some (.int g4_45)), (some (.int g5_45)), (some (.int (nI j12))), (some (.int (nI k7))), (some (.int (nI j45))), g9_45] [] (WW σ) 0 0 := by
          intro q
          induction q with
          | zero =>
            intro j45 g4_45 g5_45 g9_45 hj hs45 hg5_45 hX45_0
            obtain rfl : j45 = 20 := by omega
            refine R_iload (pc := 45) dX3_chained_45 rfl ?_
            refine R_bipush (pc := 47) (v := 20) dX3_chained_47 (by decide) ?_
            refine R_icge (pc := 49) 123 dX3_chained_49 (by decide) (fun _ => ?_) (fun h => absurd (by decide) h)
            refine inc_10_6_1_i (pc := 123) dX3_chained_123 ?_
            have r9 : inR ((nI j12) + 1) 1 20 := inR_add (show inR (nI j12) 0 19 from hrg12) (show inR 1 1 1 from (inR_self _)) (by decide) (by decide)
            have e10 := ti_add (l := 1) (h := 20) (show inR (nI j12) 0 19 from hrg12) (show inR 1 1 1 from (inR_self _)) (by decide) (by decide)
            refine R_goto (pc := 126) 12 dX3_chained_126 (by decide) ?_
            rw [nI_1]
            exact ih12 (j12 + 1) _ _ _ _ _ (by omega) (by omega) hg5_45 (ci_end hX45_0)
          | succ q ih45 =>
            intro j45 g4_45 g5_45 g9_45 hj hs45 hg5_45 hX45_0
            have hrg45 : inR (nI j45) 0 19 := inR_ix hs45 (show j45 < 20 by omega) (by decide) (by decide) (by decide)
            have hlt45 : j45 < 20 := by omega
            refine R_iload (pc := 45) dX3_chained_45 rfl ?_
            refine R_bipush (pc := 47) (v := 20) dX3_chained_47 (by decide) ?_
            refine R_icge (pc := 49) 123 dX3_chained_49 (by decide) (fun h => False.elim (by have q1 := ti_le h; have q2 := ti_in (show inR (nI j45) 0 19 from hrg45); have q3 := ti_in (show inR 20 20 20 from (inR_self _)); have z0 : (0 : Int32).toInt = 0 := (by decide);  have z1 : (19 : Int32).toInt = 19 := (by decide);  have z2 : (20 : Int32).toInt = 20 := (by decide); omega)) (fun _ => ?_)
            refine R_iload_n (pc := 52) dX3_chained_52 rfl rfl ?_
            refine R_iload (pc := 53) dX3_chained_53 rfl ?_
            refine R_iconst (pc := 55) (v := (-1)) dX3_chained_55 (by decide) ?_
            refine R_ixor (pc := 56) dX3_chained_56 ?_
            refine R_iand (pc := 57) dX3_chained_57 ?_
            have r12 : inR (b &&& (g4_45 ^^^ (-1))) 0 1048575 := inR_and hb
            refine R_iload (pc := 58) dX3_chained_58 rfl ?_
            refine k_X3_106 (pc := 60) (sp_X8_has _ _ _) rfl (by decide) (Nat.le_refl _) (Nat.le_refl _) (Nat.le_of_ble_eq_true rfl) dX3_chained_60 (fun x w2 h => ?_)
            rcases h with ⟨rfl, ⟨hh13, rfl⟩ | ⟨hh13, rfl⟩⟩
            · skip
              refine st_10_9_i_i (pc := 63) dX3_chained_63 ?_
              refine R_iload (pc := 65) dX3_chained_65 rfl ?_
              refine R_ifeq (pc := 67) 117 dX3_chained_67 (by decide) (fun h => absurd h (by decide)) (fun _ => ?_)
              refine R_iload_n (pc := 70) dX3_chained_70 rfl rfl ?_
              refine R_ifeq (pc := 71) 88 dX3_chained_71 (by decide) (fun h => absurd h (by decide)) (fun _ => ?_)
              refine R_aload_n (pc := 74) dX3_chained_74 rfl rfl ?_
              refine R_iload (pc := 75) dX3_chained_75 rfl ?_
              refine R_iload (pc := 77) dX3_chained_77 rfl ?_
              refine k_X3_109 (pc := 79) (ge_X3_isMatch _ _ _ hI r5 hrg45) rfl (c_12 _) (by decide) (Nat.le_refl _) (Nat.le_refl _) (Nat.le_of_ble_eq_true rfl) dX3_chained_79 (fun x w2 h => ?_)
              rcases h with ⟨rfl, ⟨h16, rfl⟩ | ⟨h16, rfl⟩⟩
              · skip
                refine R_ifeq (pc := 82) 117 dX3_chained_82 (by decide) (fun h => absurd h (by decide)) (fun _ => ?_)
                refine R_goto (pc := 85) 99 dX3_chained_85 (by decide) ?_
                refine R_iload (pc := 99) dX3_chained_99 rfl ?_
                refine R_iconst (pc := 101) (v := 1) dX3_chained_101 (by decide) ?_
                refine R_iload (pc := 102) dX3_chained_102 rfl ?_
                refine R_ishl (pc := 104) dX3_chained_104 ?_
                have r18 : inR (1 <<< ((nI j45) &&& 31)) 0 1048575 := shl20 hrg45
                refine R_ior (pc := 105) dX3_chained_105 ?_
                refine st_10_4_i_i (pc := 106) dX3_chained_106 ?_
                refine R_iload (pc := 108) dX3_chained_108 rfl ?_
                refine R_iconst (pc := 110) (v := 1) dX3_chained_110 (by decide) ?_
                refine R_iload (pc := 111) dX3_chained_111 rfl ?_
                refine R_ishl (pc := 113) dX3_chained_113 ?_
                have r19 : inR (1 <<< ((nI j45) &&& 31)) 0 1048575 := shl20 hrg45
                refine R_ior (pc := 114) dX3_chained_114 ?_
                have r20 : inR (g5_45 ||| (1 <<< ((nI j45) &&& 31))) 0 1048575 := inR_or 20 (by decide) hg5_45 r19
                refine st_10_5_i_i (pc := 115) dX3_chained_115 ?_
                refine inc_10_8_1_i (pc := 117) dX3_chained_117 ?_
                have r21 : inR ((nI j45) + 1) 1 20 := inR_add (show inR (nI j45) 0 19 from hrg45) (show inR 1 1 1 from (inR_self _)) (by decide) (by decide)
                have e22 := ti_add (l := 1) (h := 20) (show inR (nI j45) 0 19 from hrg45) (show inR 1 1 1 from (inR_self _)) (by decide) (by decide)
                refine R_goto (pc := 120) 45 dX3_chained_120 (by decide) ?_
                rw [nI_1]
                exact ih45 (j45 + 1) _ _ _ (by omega) (by omega) r20 (ci_new (R := (fun a b => mtC σ (nI a) (nI b))) hX45_0 (by omega) (hs_new (by omega) (has_t (by omega) hh13)).1 (hs_new (by omega) (has_t (by omega) hh13)).2 h16)
              · skip
                refine R_ifeq (pc := 82) 117 dX3_chained_82 (by decide) (fun _ => ?_) (fun h => absurd (by decide) h)
                refine inc_10_8_1_i (pc := 117) dX3_chained_117 ?_
                have r24 : inR ((nI j45) + 1) 1 20 := inR_add (show inR (nI j45) 0 19 from hrg45) (show inR 1 1 1 from (inR_self _)) (by decide) (by decide)
                have e25 := ti_add (l := 1) (h := 20) (show inR (nI j45) 0 19 from hrg45) (show inR 1 1 1 from (inR_self _)) (by decide) (by decide)
                refine R_goto (pc := 120) 45 dX3_chained_120 (by decide) ?_
                rw [nI_1]
                exact ih45 (j45 + 1) _ _ _ (by omega) (by omega) hg5_45 (ci_old (R := (fun a b => mtC σ (nI a) (nI b))) hX45_0 (fun _ hr1 => absurd (h16.symm.trans hr1) (by decide)))
            · skip
              refine st_10_9_i_i (pc := 63) dX3_chained_63 ?_
              refine R_iload (pc := 65) dX3_chained_65 rfl ?_
              refine R_ifeq (pc := 67) 117 dX3_chained_67 (by decide) (fun _ => ?_) (fun h => absurd (by decide) h)
              refine inc_10_8_1_i (pc := 117) dX3_chained_117 ?_
              have r27 : inR ((nI j45) + 1) 1 20 := inR_add (show inR (nI j45) 0 19 from hrg45) (show inR 1 1 1 from (inR_self _)) (by decide) (by decide)
              have e28 := ti_add (l := 1) (h := 20) (show inR (nI j45) 0 19 from hrg45) (show inR 1 1 1 from (inR_self _)) (by decide) (by decide)
              refine R_goto (pc := 120) 45 dX3_chained_120 (by decide) ?_
              rw [nI_1]
              exact ih45 (j45 + 1) _ _ _ (by omega) (by omega) hg5_45 (ci_old (R := (fun a b => mtC σ (nI a) (nI b))) hX45_0 (fun hb1 _ => hs_old (by omega) (has_f (by omega) hh13) hb1))
        exact HL45 20 0 _ _ _ (by omega) (by omega) r7 (cb_take (R := (fun a b => mtC σ (nI a) (nI b))) hX12_0 hk7 hk7t)
  exact HL12 20 0 _ _ _ _ _ (by omega) (by omega) r1 (cb_0 hc)
set_option maxRecDepth 100000 in
set_option maxHeartbeats 40000000 in
theorem gn_X3_sameNegative {G : vG} {l : Launch} (σ : Sg) (c b : Int32) (hI : Inv σ) (hc : inR c 0 19) (hb : inR b 0 1048575) : Sp G l yX3_sameNegative cX3_sameNegative 3 (some .int) 3 0 0 [.ref 12, .int c, .int b] (WW σ) (QI (fun x w2 => w2 = WW σ ∧ x = bsI (kin (fun a b => lkC σ (nI a) (nI b)) (tb b) (Int32.toNatClampNeg c)) 20)) := by
  refine Sp_of_R [(some (.ref 12)), (some (.int c)), (some (.int b))] [] rfl (by simp) rfl (Nat.le_of_ble_eq_true rfl) ?_
  refine R_aload_n (pc := 0) dX3_sameNegative_0 rfl rfl ?_
  refine R_iload_n (pc := 1) dX3_sameNegative_1 rfl rfl ?_
  refine R_iload_n (pc := 2) dX3_sameNegative_2 rfl rfl ?_
  refine R_iconst (pc := 3) (v := 0) dX3_sameNegative_3 (by decide) ?_
  refine k_X3_98 (pc := 4) (gn_X3_chained_0 _ _ _ hI hc hb) rfl (c_12 _) (by decide) (Nat.le_refl _) (Nat.le_refl _) (Nat.le_of_ble_eq_true rfl) dX3_sameNegative_4 (fun x w2 h => ?_)
  obtain ⟨rfl, rfl⟩ := h
  exact R_iret (pc := 7) dX3_sameNegative_7 rfl rfl (Nat.zero_le _) (Nat.zero_le _) ⟨_, rfl, rfl, rfl⟩
set_option maxRecDepth 100000 in
set_option maxHeartbeats 40000000 in
theorem gn_X3_sameCard {G : vG} {l : Launch} (σ : Sg) (c b : Int32) (hI : Inv σ) (hc : inR c 0 19) (hb : inR b 0 1048575) : Sp G l yX3_sameCard cX3_sameCard 3 (some .int) 3 0 0 [.ref 12, .int c, .int b] (WW σ) (QI (fun x w2 => w2 = WW σ ∧ x = bsI (kin (fun a b => mtC σ (nI a) (nI b)) (tb b) (Int32.toNatClampNeg c)) 20)) := by
  refine Sp_of_R [(some (.ref 12)), (some (.int c)), (some (.int b))] [] rfl (by simp) rfl (Nat.le_of_ble_eq_true rfl) ?_
  refine R_aload_n (pc := 0) dX3_sameCard_0 rfl rfl ?_
  refine R_iload_n (pc := 1) dX3_sameCard_1 rfl rfl ?_
  refine R_iload_n (pc := 2) dX3_sameCard_2 rfl rfl ?_
  refine R_iconst (pc := 3) (v := 1) dX3_sameCard_3 (by decide) ?_
  refine k_X3_98 (pc := 4) (gn_X3_chained_1 _ _ _ hI hc hb) rfl (c_12 _) (by decide) (Nat.le_refl _) (Nat.le_refl _) (Nat.le_of_ble_eq_true rfl) dX3_sameCard_4 (fun x w2 h => ?_)
  obtain ⟨rfl, rfl⟩ := h
  exact R_iret (pc := 7) dX3_sameCard_7 rfl rfl (Nat.zero_le _) (Nat.zero_le _) ⟨_, rfl, rfl, rfl⟩
