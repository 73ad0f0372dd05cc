/-! methods on any state that keeps the invariant -/
/-! longs, bit by bit -/
def tbL (s : Int64) (k : Nat) : Bool := s.toBitVec.getLsbD k
theorem nI63 : ∀ k : Fin 64, (((nI k.val).toInt64 &&& 63).toBitVec.smod 64#64).toNat = k.val := by decide +kernel
theorem shL_bv {k : Nat} (hk : k < 64) (s : Int64) : (s >>> ((nI k).toInt64 &&& 63)).toBitVec = s.toBitVec.sshiftRight k := by
  rw [Int64.toBitVec_shiftRight]
  show s.toBitVec.sshiftRight ((((nI k).toInt64 &&& 63).toBitVec.smod 64#64).toNat) = _
  rw [nI63 ⟨k, hk⟩]
theorem and1L_bv (x : BitVec 64) : x &&& 1#64 = if x.getLsbD 0 then 1#64 else 0#64 := by
  rw [BitVec.and_one_eq_setWidth_ofBool_getLsbD]
  cases x.getLsbD 0 <;> rfl
theorem bitL_of {s : Int64} {k : Nat} (hk : k < 64) : (s >>> ((nI k).toInt64 &&& 63)) &&& 1 = if tbL s k then 1 else 0 := by
  apply Int64.toBitVec_inj.mp
  rw [Int64.toBitVec_and, shL_bv hk]
  show s.toBitVec.sshiftRight k &&& 1#64 = _
  rw [and1L_bv, BitVec.getLsbD_sshiftRight]
  have h1 : (0 : Nat) + k = k := Nat.zero_add k
  have h2 : k + 0 = k := Nat.add_zero k
  simp only [h1, h2]
  unfold tbL
  rw [if_pos hk]
  cases s.toBitVec.getLsbD k <;> rfl
theorem bit_t {s : Int64} {k : Nat} (hk : k < 64) : decide (lg_cmp ((s >>> (Int32.toInt64 (nI k) &&& 63)) &&& 1) 1 = 0) = tbL s k := by
  have h := bitL_of (s := s) hk
  rw [h]
  cases tbL s k <;> decide
theorem tbL_and (a b : Int64) (k : Nat) : tbL (a &&& b) k = (tbL a k && tbL b k) := by unfold tbL; rw [Int64.toBitVec_and, BitVec.getLsbD_and]
theorem tbL_not (a : Int64) {k : Nat} (hk : k < 64) : tbL (a ^^^ -1) k = !tbL a k := by
  unfold tbL
  rw [Int64.toBitVec_xor, BitVec.getLsbD_xor]
  have : ∀ k : Fin 64, ((-1 : Int64).toBitVec).getLsbD k.val = true := by decide +kernel
  rw [this ⟨k, hk⟩]
  cases a.toBitVec.getLsbD k <;> rfl
theorem tbL_shl {l k : Nat} (hl : l < 64) (hk : k < 64) : tbL ((1 : Int64) <<< ((nI l).toInt64 &&& 63)) k = decide (k = l) := by
  unfold tbL
  rw [Int64.toBitVec_shiftLeft]
  show (1#64 <<< ((((nI l).toInt64 &&& 63).toBitVec.smod 64#64).toNat)).getLsbD k = _
  rw [nI63 ⟨l, hl⟩, BitVec.getLsbD_shiftLeft, BitVec.getLsbD_one]
  by_cases h2 : k < l
  · simp [hk, h2]; omega
  · simp [hk, h2]; omega
/-! how many bits: the machine's steps, byte by byte -/
def cntB (f : Nat → Bool) : Nat → Nat
  | 0 => 0
  | n + 1 => cntB f n + (bif f n then 1 else 0)
theorem cnt_add (f : Nat → Bool) (m : Nat) : ∀ n : Nat, cntB f (m + n) = cntB f m + cntB (fun i => f (m + i)) n := by
  intro n
  induction n with
  | zero => rfl
  | succ n ih =>
    show cntB f (m + n) + (bif f (m + n) then 1 else 0) = cntB f m + (cntB (fun i => f (m + i)) n + (bif f (m + n) then 1 else 0))
    rw [ih, Nat.add_assoc]
theorem cnt_congr {f g : Nat → Bool} : ∀ n : Nat, (∀ i, i < n → f i = g i) → cntB f n = cntB g n := by
  intro n
  induction n with
  | zero => intro _; rfl
  | succ n ih =>
    intro h
    show cntB f n + (bif f n then 1 else 0) = cntB g n + (bif g n then 1 else 0)
    rw [ih (fun i hi => h i (by omega)), h n (by omega)]
theorem cnt_le (f : Nat → Bool) : ∀ n : Nat, cntB f n ≤ n := by
  intro n
  induction n with
  | zero => exact Nat.le_refl _
  | succ n ih =>
    show cntB f n + (bif f n then 1 else 0) ≤ n + 1
    cases f n <;> simp only [cond_true, cond_false] <;> omega
theorem cnt_z {f : Nat → Bool} : ∀ n : Nat, (∀ i, i < n → f i = false) → cntB f n = 0 := by
  intro n
  induction n with
  | zero => intro _; rfl
  | succ n ih =>
    intro h
    show cntB f n + (bif f n then 1 else 0) = 0
    rw [ih (fun i hi => h i (by omega)), h n (by omega)]; rfl
theorem cnt_pos {f : Nat → Bool} {k : Nat} (hf : f k = true) : ∀ n : Nat, k < n → 0 < cntB f n := by
  intro n
  induction n with
  | zero => intro h; omega
  | succ n ih =>
    intro h
    show 0 < cntB f n + (bif f n then 1 else 0)
    by_cases e : k = n
    · subst e; rw [hf]; simp only [cond_true]; omega
    · have := ih (by omega); omega
theorem land_s {a m : Nat} (h g : Nat) (ha : a < 256) (hm : m < 256) : (256 * h + a) &&& (256 * g + m) = 256 * (h &&& g) + (a &&& m) := by
  have ha2 : a < 2 ^ 8 := ha
  have hm2 : m < 2 ^ 8 := hm
  have hc2 : a &&& m < 2 ^ 8 := Nat.lt_of_le_of_lt Nat.and_le_left ha2
  show (2 ^ 8 * h + a) &&& (2 ^ 8 * g + m) = 2 ^ 8 * (h &&& g) + (a &&& m)
  apply Nat.eq_of_testBit_eq
  intro i
  rw [Nat.testBit_and, Nat.testBit_two_pow_mul_add _ ha2, Nat.testBit_two_pow_mul_add _ hm2, Nat.testBit_two_pow_mul_add _ hc2]
  by_cases q : i < 8
  · rw [if_pos q, if_pos q, if_pos q, Nat.testBit_and]
  · rw [if_neg q, if_neg q, if_neg q, Nat.testBit_and]
def mk8 (m : Nat) : Nat → Nat
  | 0 => 0
  | n + 1 => 256 * mk8 m n + m
def t1 (M x : Nat) : Nat := x - ((x / 2) &&& M)
def t2 (M x : Nat) : Nat := (x &&& M) + ((x / 4) &&& M)
def t3 (M x : Nat) : Nat := (x + x / 16) &&& M
def bb1 (a : Nat) : Nat := a - ((a / 2) &&& 85)
def bb2 (a : Nat) : Nat := (a &&& 51) + ((a / 4) &&& 51)
def bb3 (a : Nat) : Nat := (a + a / 16) &&& 15
def pb (a : Nat) : Nat := bb3 (bb2 (bb1 a))
def bitN (x i : Nat) : Bool := Nat.testBit x i
theorem bf1 : ∀ a : Fin 256, ∀ r : Fin 2, ((a.val / 2 + 128 * r.val) &&& 85) = (a.val / 2) &&& 85 := by decide +kernel
theorem bf1b : ∀ a : Fin 256, bb1 a.val < 256 := by decide +kernel
theorem bf2 : ∀ a : Fin 256, ∀ r : Fin 4, ((a.val / 4 + 64 * r.val) &&& 51) = (a.val / 4) &&& 51 := by decide +kernel
theorem bf2b : ∀ a : Fin 256, bb2 (bb1 a.val) < 256 ∧ bb2 (bb1 a.val) % 16 ≤ 4 ∧ bb2 (bb1 a.val) / 16 ≤ 4 := by decide +kernel
theorem bf3 : ∀ a : Fin 256, ∀ r : Fin 5, ((bb2 (bb1 a.val) + bb2 (bb1 a.val) / 16 + 16 * r.val) &&& 15) = pb a.val := by decide +kernel
theorem bf4 : ∀ a : Fin 256, pb a.val = cntB (bitN a.val) 8 := by decide +kernel
theorem t1_s {a : Nat} (M h : Nat) (ha : a < 256) : t1 (256 * M + 85) (256 * h + a) = 256 * t1 M h + bb1 a := by
  unfold t1 bb1
  have e : (256 * h + a) / 2 = 256 * (h / 2) + (a / 2 + 128 * (h % 2)) := by omega
  have u1 : (a / 2) &&& 85 ≤ a := Nat.le_trans Nat.and_le_left (by omega)
  have u2 : (h / 2) &&& M ≤ h := Nat.le_trans Nat.and_le_left (by omega)
  rw [e, land_s _ _ (by omega) (by omega), bf1 ⟨a, ha⟩ ⟨h % 2, by omega⟩]
  show 256 * h + a - (256 * (h / 2 &&& M) + (a / 2 &&& 85)) = 256 * (h - (h / 2 &&& M)) + (a - (a / 2 &&& 85))
  omega
theorem t2_s {a : Nat} (M h : Nat) (ha : a < 256) : t2 (256 * M + 51) (256 * h + a) = 256 * t2 M h + bb2 a := by
  unfold t2 bb2
  have e : (256 * h + a) / 4 = 256 * (h / 4) + (a / 4 + 64 * (h % 4)) := by omega
  rw [e, land_s _ _ ha (by omega), land_s _ _ (by omega) (by omega), bf2 ⟨a, ha⟩ ⟨h % 4, by omega⟩]
  show 256 * (h &&& M) + (a &&& 51) + (256 * (h / 4 &&& M) + (a / 4 &&& 51)) = 256 * ((h &&& M) + (h / 4 &&& M)) + ((a &&& 51) + (a / 4 &&& 51))
  omega
def gF (n x : Nat) : Nat := t2 (mk8 51 n) (t1 (mk8 85 n) x)
def fF (n x : Nat) : Nat := t3 (mk8 15 n) (gF n x)
theorem gF_s {a : Nat} (n h : Nat) (ha : a < 256) : gF (n + 1) (256 * h + a) = 256 * gF n h + bb2 (bb1 a) := by
  show t2 (256 * mk8 51 n + 51) (t1 (256 * mk8 85 n + 85) (256 * h + a)) = _
  rw [t1_s _ _ ha, t2_s _ _ (bf1b ⟨a, ha⟩)]; rfl
theorem gF_0 (x : Nat) : gF 0 x = 0 := by
  show (t1 0 x &&& 0) + ((t1 0 x / 4) &&& 0) = 0
  rw [Nat.and_zero, Nat.and_zero]
theorem gF_lo : ∀ n x : Nat, gF n x % 16 ≤ 4 := by
  intro n x
  cases n with
  | zero => rw [gF_0]; decide
  | succ n =>
    have e : x = 256 * (x / 256) + x % 256 := by omega
    have ha : x % 256 < 256 := by omega
    rw [e, gF_s _ _ ha]
    have := (bf2b ⟨x % 256, ha⟩).2.1
    have h2 : (256 * gF n (x / 256) + bb2 (bb1 (x % 256))) % 16 = bb2 (bb1 (x % 256)) % 16 := by omega
    rw [h2]; exact this
theorem fF_s (n x : Nat) : fF (n + 1) x = 256 * fF n (x / 256) + pb (x % 256) := by
  have e : x = 256 * (x / 256) + x % 256 := by omega
  have ha : x % 256 < 256 := by omega
  show t3 (256 * mk8 15 n + 15) (gF (n + 1) x) = _
  have e2 : gF (n + 1) x = 256 * gF n (x / 256) + bb2 (bb1 (x % 256)) := (congrArg (gF (n + 1)) e).trans (gF_s _ _ ha)
  rw [e2]
  obtain ⟨q1, q2, q3⟩ := bf2b ⟨x % 256, ha⟩
  have q4 := gF_lo n (x / 256)
  have q5 := bf3 ⟨x % 256, ha⟩ ⟨gF n (x / 256) % 16, by omega⟩
  simp only at q1 q2 q3 q5
  unfold t3
  have e3 : 256 * gF n (x / 256) + bb2 (bb1 (x % 256)) + (256 * gF n (x / 256) + bb2 (bb1 (x % 256))) / 16 = 256 * (gF n (x / 256) + gF n (x / 256) / 16) + (bb2 (bb1 (x % 256)) + bb2 (bb1 (x % 256)) / 16 + 16 * (gF n (x / 256) % 16)) := by omega
  rw [e3, land_s _ _ (by omega) (by omega), q5]; rfl
theorem fF_0 (x : Nat) : fF 0 x = 0 := by
  show (gF 0 x + gF 0 x / 16) &&& 0 = 0
  exact Nat.and_zero _
theorem pb_le (a : Nat) (ha : a < 256) : pb a ≤ 8 := by rw [bf4 ⟨a, ha⟩]; exact cnt_le _ 8
theorem bit_256 (x i : Nat) : bitN x (8 + i) = bitN (x / 256) i := by
  unfold bitN
  rw [Nat.add_comm, Nat.testBit_add]
theorem bit_lo (x i : Nat) (hi : i < 8) : bitN x i = bitN (x % 256) i := by
  unfold bitN
  rw [show (256 : Nat) = 2 ^ 8 from rfl, Nat.testBit_mod_two_pow, decide_eq_true hi, Bool.true_and]
theorem cnt_256 (x n : Nat) : cntB (bitN x) (8 + n) = pb (x % 256) + cntB (bitN (x / 256)) n := by
  rw [cnt_add, bf4 ⟨x % 256, by omega⟩]
  congr 1
  · exact cnt_congr 8 (fun i hi => bit_lo x i hi)
  · exact cnt_congr n (fun i _ => bit_256 x i)
theorem cnt_32 (x : Nat) : cntB (bitN x) 32 = pb (x % 256) + (pb (x / 256 % 256) + (pb (x / 256 / 256 % 256) + pb (x / 256 / 256 / 256 % 256))) := by
  rw [show 32 = 8 + (8 + (8 + (8 + 0))) from rfl, cnt_256, cnt_256, cnt_256, cnt_256]; rfl
theorem cnt_64 (x : Nat) : cntB (bitN x) 64 = pb (x % 256) + (pb (x / 256 % 256) + (pb (x / 256 / 256 % 256) + (pb (x / 256 / 256 / 256 % 256) + (pb (x / 256 / 256 / 256 / 256 % 256) + (pb (x / 256 / 256 / 256 / 256 / 256 % 256) + (pb (x / 256 / 256 / 256 / 256 / 256 / 256 % 256) + pb (x / 256 / 256 / 256 / 256 / 256 / 256 / 256 % 256))))))) := by
  rw [show 64 = 8 + (8 + (8 + (8 + (8 + (8 + (8 + (8 + 0))))))) from rfl, cnt_256, cnt_256, cnt_256, cnt_256, cnt_256, cnt_256, cnt_256, cnt_256]; rfl
theorem fF_4 (x : Nat) : fF 4 x = 256 * (256 * (256 * pb (x / 256 / 256 / 256 % 256) + pb (x / 256 / 256 % 256)) + pb (x / 256 % 256)) + pb (x % 256) := by
  rw [fF_s, fF_s, fF_s, fF_s, fF_0]; omega
theorem fF_8 (x : Nat) : fF 8 x = 256 * (256 * (256 * (256 * (256 * (256 * (256 * pb (x / 256 / 256 / 256 / 256 / 256 / 256 / 256 % 256) + pb (x / 256 / 256 / 256 / 256 / 256 / 256 % 256)) + pb (x / 256 / 256 / 256 / 256 / 256 % 256)) + pb (x / 256 / 256 / 256 / 256 % 256)) + pb (x / 256 / 256 / 256 % 256)) + pb (x / 256 / 256 % 256)) + pb (x / 256 % 256)) + pb (x % 256) := by
  rw [fF_s, fF_s, fF_s, fF_s, fF_s, fF_s, fF_s, fF_s, fF_0]; omega
/-- the sum of four digits -/
theorem fin4 {a b c d W : Nat} (ha : a ≤ 8) (hb : b ≤ 8) (hc : c ≤ 8) (hd : d ≤ 8) (hW : W = 256 * (256 * (256 * d + c) + b) + a) : W + W / 256 < 2 ^ 32 ∧ (W + W / 256) + (W + W / 256) / 65536 < 2 ^ 32 ∧ ((W + W / 256) + (W + W / 256) / 65536) % 64 = a + (b + (c + d)) := by
  have e1 : W / 256 = 256 * (256 * d + c) + b := by omega
  have e2 : W + W / 256 = (a + b) + 256 * (b + c) + 65536 * ((c + d) + 256 * d) := by omega
  have e3 : (W + W / 256) / 65536 = (c + d) + 256 * d := by omega
  refine ⟨by omega, by omega, by omega⟩
/-- the sum of eight digits -/
theorem fin8 {a b c d e f g h W : Nat} (ha : a ≤ 8) (hb : b ≤ 8) (hc : c ≤ 8) (hd : d ≤ 8) (he : e ≤ 8) (hf : f ≤ 8) (hg : g ≤ 8) (hh : h ≤ 8) (hW : W = 256 * (256 * (256 * (256 * (256 * (256 * (256 * h + g) + f) + e) + d) + c) + b) + a) :
    W + W / 256 < 2 ^ 64 ∧ (W + W / 256) + (W + W / 256) / 65536 < 2 ^ 64 ∧ ((W + W / 256) + (W + W / 256) / 65536) + ((W + W / 256) + (W + W / 256) / 65536) / 4294967296 < 2 ^ 64 ∧ (((W + W / 256) + (W + W / 256) / 65536) + ((W + W / 256) + (W + W / 256) / 65536) / 4294967296) % 128 = a + (b + (c + (d + (e + (f + (g + h)))))) := by
  have e1 : W / 256 = 256 * (256 * (256 * (256 * (256 * (256 * h + g) + f) + e) + d) + c) + b := by omega
  obtain ⟨X, hX⟩ : ∃ X, X = W + W / 256 := ⟨_, rfl⟩
  rw [← hX]
  have e2 : X = (a + b) + 256 * (b + c) + 65536 * ((c + d) + 256 * (d + e) + 65536 * ((e + f) + 256 * (f + g) + 65536 * ((g + h) + 256 * h))) := by omega
  have e3 : X / 65536 = (c + d) + 256 * (d + e) + 65536 * ((e + f) + 256 * (f + g) + 65536 * ((g + h) + 256 * h)) := by omega
  obtain ⟨Y, hY⟩ : ∃ Y, Y = X + X / 65536 := ⟨_, rfl⟩
  rw [← hY]
  have e4 : Y = (a + b + (c + d)) + 256 * (b + c + (d + e)) + 65536 * ((c + d + (e + f)) + 256 * (d + e + (f + g))) + 4294967296 * ((e + f + (g + h)) + 256 * (f + g + h) + 65536 * ((g + h) + 256 * h)) := by omega
  have e5 : Y / 4294967296 = (e + f + (g + h)) + 256 * (f + g + h) + 65536 * ((g + h) + 256 * h) := by omega
  refine ⟨by omega, by omega, by omega, ?_⟩
  rw [e5, e4]
  omega
/-! the same on the machine's ints and longs -/
theorem pcI_bv (x : Int32) : (pcI x).toBitVec.toNat = cntB (bitN x.toBitVec.toNat) 32 := by
  have hx := x.toBitVec.isLt
  obtain ⟨X, hX⟩ : ∃ X, X = x.toBitVec.toNat := ⟨_, rfl⟩
  rw [← hX] at hx ⊢
  have m1 : mk8 85 4 = 1431655765 := by decide
  have m2 : mk8 51 4 = 858993459 := by decide
  have m3 : mk8 15 4 = 252645135 := by decide
  have u : ∀ (a : Int32), (ush a 1).toBitVec.toNat = a.toBitVec.toNat / 2 ∧ (ush a 2).toBitVec.toNat = a.toBitVec.toNat / 4 ∧ (ush a 4).toBitVec.toNat = a.toBitVec.toNat / 16 ∧ (ush a 8).toBitVec.toNat = a.toBitVec.toNat / 256 ∧ (ush a 16).toBitVec.toNat = a.toBitVec.toNat / 65536 := by
    intro a
    refine ⟨?_, ?_, ?_, ?_, ?_⟩
    · show (a.toBitVec >>> 1).toNat = _
      rw [BitVec.toNat_ushiftRight, Nat.shiftRight_eq_div_pow]
    · show (a.toBitVec >>> 2).toNat = _
      rw [BitVec.toNat_ushiftRight, Nat.shiftRight_eq_div_pow]
    · show (a.toBitVec >>> 4).toNat = _
      rw [BitVec.toNat_ushiftRight, Nat.shiftRight_eq_div_pow]
    · show (a.toBitVec >>> 8).toNat = _
      rw [BitVec.toNat_ushiftRight, Nat.shiftRight_eq_div_pow]
    · show (a.toBitVec >>> 16).toNat = _
      rw [BitVec.toNat_ushiftRight, Nat.shiftRight_eq_div_pow]
  have h1 : (pc1 x).toBitVec.toNat = t1 (mk8 85 4) X := by
    show (x.toBitVec - ((ush x 1).toBitVec &&& 1431655765#32)).toNat = _
    have q : ((ush x 1).toBitVec &&& 1431655765#32).toNat = (X / 2) &&& mk8 85 4 := by
      rw [BitVec.toNat_and, (u x).1, ← hX, m1]; rfl
    have l : (X / 2) &&& mk8 85 4 ≤ X := Nat.le_trans Nat.and_le_left (by omega)
    rw [BitVec.toNat_sub, q, ← hX]
    unfold t1
    omega
  have l1 : t1 (mk8 85 4) X < 2 ^ 32 := by rw [← h1]; exact (pc1 x).toBitVec.isLt
  have g0 : gF 4 X = t2 (mk8 51 4) (t1 (mk8 85 4) X) := rfl
  have b4 : ∀ y : Nat, pb (y % 256) ≤ 8 := fun y => pb_le _ (by omega)
  have gb : gF 4 X ≤ 1717986918 := by
    rw [g0]
    unfold t2
    rw [m2]
    have a1 : t1 (mk8 85 4) X &&& 858993459 ≤ 858993459 := Nat.and_le_right
    have a2 : t1 (mk8 85 4) X / 4 &&& 858993459 ≤ 858993459 := Nat.and_le_right
    omega
  have h2 : (pc2 (pc1 x)).toBitVec.toNat = gF 4 X := by
    show (((pc1 x).toBitVec &&& 858993459#32) + ((ush (pc1 x) 2).toBitVec &&& 858993459#32)).toNat = _
    rw [BitVec.toNat_add, BitVec.toNat_and, BitVec.toNat_and, (u (pc1 x)).2.1, h1]
    have e : (t1 (mk8 85 4) X &&& (858993459#32).toNat) + (t1 (mk8 85 4) X / 4 &&& (858993459#32).toNat) = gF 4 X := by rw [g0]; unfold t2; rw [m2]; rfl
    rw [e]; exact Nat.mod_eq_of_lt (by omega)
  have h3 : (pc3 (pc2 (pc1 x))).toBitVec.toNat = fF 4 X := by
    show (((pc2 (pc1 x)).toBitVec + (ush (pc2 (pc1 x)) 4).toBitVec) &&& 252645135#32).toNat = _
    rw [BitVec.toNat_and, BitVec.toNat_add, (u (pc2 (pc1 x))).2.2.1, h2, Nat.mod_eq_of_lt (by omega)]
    unfold fF t3
    rw [m3]; rfl
  obtain ⟨f1, f2, f3⟩ := fin4 (b4 X) (b4 (X / 256)) (b4 (X / 256 / 256)) (b4 (X / 256 / 256 / 256)) (fF_4 X)
  have h4 : (pc4 (pc3 (pc2 (pc1 x)))).toBitVec.toNat = fF 4 X + fF 4 X / 256 := by
    show ((pc3 (pc2 (pc1 x))).toBitVec + (ush (pc3 (pc2 (pc1 x))) 8).toBitVec).toNat = _
    rw [BitVec.toNat_add, (u (pc3 (pc2 (pc1 x)))).2.2.2.1, h3]; exact Nat.mod_eq_of_lt f1
  have h5 : (pc5 (pc4 (pc3 (pc2 (pc1 x))))).toBitVec.toNat = (fF 4 X + fF 4 X / 256) + (fF 4 X + fF 4 X / 256) / 65536 := by
    show ((pc4 (pc3 (pc2 (pc1 x)))).toBitVec + (ush (pc4 (pc3 (pc2 (pc1 x)))) 16).toBitVec).toNat = _
    rw [BitVec.toNat_add, (u (pc4 (pc3 (pc2 (pc1 x))))).2.2.2.2, h4]; exact Nat.mod_eq_of_lt f2
  show ((pc5 (pc4 (pc3 (pc2 (pc1 x))))).toBitVec &&& 63#32).toNat = _
  rw [BitVec.toNat_and, h5, cnt_32, ← f3]
  exact Nat.and_two_pow_sub_one_eq_mod _ 6
theorem nI_bv {n : Nat} (h : n < 2 ^ 31) : (nI n).toBitVec.toNat = n := by
  show (BitVec.ofNat 32 n).toNat = n
  rw [BitVec.toNat_ofNat]; exact Nat.mod_eq_of_lt (by omega)
theorem pcI_nI (x : Int32) : pcI x = nI (cntB (tb x) 32) := by
  apply Int32.toBitVec_inj.mp
  apply BitVec.eq_of_toNat_eq
  have h := cnt_le (tb x) 32
  rw [pcI_bv, nI_bv (by omega)]
  rfl
def uL (a : Int64) (b : Int32) : Int64 := (a.toUInt64 >>> (Int64.toUInt64 (Int32.toInt64 b) &&& Int64.toUInt64 63)).toInt64
def pl1 (a : Int64) : Int64 := a - (uL a 1 &&& 6148914691236517205)
def pl2 (a : Int64) : Int64 := (a &&& 3689348814741910323) + (uL a 2 &&& 3689348814741910323)
def pl3 (a : Int64) : Int64 := (a + uL a 4) &&& 1085102592571150095
def pl4 (a : Int64) : Int64 := a + uL a 8
def pl5 (a : Int64) : Int64 := a + uL a 16
def pl6 (a : Int64) : Int64 := a + uL a 32
def pcL (a : Int64) : Int32 := Int64.toInt32 (pl6 (pl5 (pl4 (pl3 (pl2 (pl1 a)))))) &&& 127
theorem pcL_bv (x : Int64) : (pcL x).toBitVec.toNat = cntB (bitN x.toBitVec.toNat) 64 := by
  have hx := x.toBitVec.isLt
  obtain ⟨X, hX⟩ : ∃ X, X = x.toBitVec.toNat := ⟨_, rfl⟩
  rw [← hX] at hx ⊢
  have m1 : mk8 85 8 = 6148914691236517205 := by decide
  have m2 : mk8 51 8 = 3689348814741910323 := by decide
  have m3 : mk8 15 8 = 1085102592571150095 := by decide
  have u : ∀ (a : Int64), (uL a 1).toBitVec.toNat = a.toBitVec.toNat / 2 ∧ (uL a 2).toBitVec.toNat = a.toBitVec.toNat / 4 ∧ (uL a 4).toBitVec.toNat = a.toBitVec.toNat / 16 ∧ (uL a 8).toBitVec.toNat = a.toBitVec.toNat / 256 ∧ (uL a 16).toBitVec.toNat = a.toBitVec.toNat / 65536 ∧ (uL a 32).toBitVec.toNat = a.toBitVec.toNat / 4294967296 := by
    intro a
    refine ⟨?_, ?_, ?_, ?_, ?_, ?_⟩
    · show (a.toBitVec >>> 1).toNat = _
      rw [BitVec.toNat_ushiftRight, Nat.shiftRight_eq_div_pow]
    · show (a.toBitVec >>> 2).toNat = _
      rw [BitVec.toNat_ushiftRight, Nat.shiftRight_eq_div_pow]
    · show (a.toBitVec >>> 4).toNat = _
      rw [BitVec.toNat_ushiftRight, Nat.shiftRight_eq_div_pow]
    · show (a.toBitVec >>> 8).toNat = _
      rw [BitVec.toNat_ushiftRight, Nat.shiftRight_eq_div_pow]
    · show (a.toBitVec >>> 16).toNat = _
      rw [BitVec.toNat_ushiftRight, Nat.shiftRight_eq_div_pow]
    · show (a.toBitVec >>> 32).toNat = _
      rw [BitVec.toNat_ushiftRight, Nat.shiftRight_eq_div_pow]
  have h1 : (pl1 x).toBitVec.toNat = t1 (mk8 85 8) X := by
    show (x.toBitVec - ((uL x 1).toBitVec &&& 6148914691236517205#64)).toNat = _
    have q : ((uL x 1).toBitVec &&& 6148914691236517205#64).toNat = (X / 2) &&& mk8 85 8 := by
      rw [BitVec.toNat_and, (u x).1, ← hX, m1]; rfl
    have l : (X / 2) &&& mk8 85 8 ≤ X := Nat.le_trans Nat.and_le_left (by omega)
    rw [BitVec.toNat_sub, q, ← hX]
    unfold t1
    omega
  have l1 : t1 (mk8 85 8) X < 2 ^ 64 := by rw [← h1]; exact (pl1 x).toBitVec.isLt
  have g0 : gF 8 X = t2 (mk8 51 8) (t1 (mk8 85 8) X) := rfl
  have b4 : ∀ y : Nat, pb (y % 256) ≤ 8 := fun y => pb_le _ (by omega)
  have gb : gF 8 X ≤ 7378697629483820646 := by
    rw [g0]
    unfold t2
    rw [m2]
    have a1 : t1 (mk8 85 8) X &&& 3689348814741910323 ≤ 3689348814741910323 := Nat.and_le_right
    have a2 : t1 (mk8 85 8) X / 4 &&& 3689348814741910323 ≤ 3689348814741910323 := Nat.and_le_right
    omega
  have h2 : (pl2 (pl1 x)).toBitVec.toNat = gF 8 X := by
    show (((pl1 x).toBitVec &&& 3689348814741910323#64) + ((uL (pl1 x) 2).toBitVec &&& 3689348814741910323#64)).toNat = _
    rw [BitVec.toNat_add, BitVec.toNat_and, BitVec.toNat_and, (u (pl1 x)).2.1, h1]
    have e : (t1 (mk8 85 8) X &&& (3689348814741910323#64).toNat) + (t1 (mk8 85 8) X / 4 &&& (3689348814741910323#64).toNat) = gF 8 X := by rw [g0]; unfold t2; rw [m2]; rfl
    rw [e]; exact Nat.mod_eq_of_lt (by omega)
  have h3 : (pl3 (pl2 (pl1 x))).toBitVec.toNat = fF 8 X := by
    show (((pl2 (pl1 x)).toBitVec + (uL (pl2 (pl1 x)) 4).toBitVec) &&& 1085102592571150095#64).toNat = _
    rw [BitVec.toNat_and, BitVec.toNat_add, (u (pl2 (pl1 x))).2.2.1, h2, Nat.mod_eq_of_lt (by omega)]
    unfold fF t3
    rw [m3]; rfl
  obtain ⟨f1, f2, f3, f4⟩ := fin8 (b4 X) (b4 (X / 256)) (b4 (X / 256 / 256)) (b4 (X / 256 / 256 / 256)) (b4 (X / 256 / 256 / 256 / 256)) (b4 (X / 256 / 256 / 256 / 256 / 256)) (b4 (X / 256 / 256 / 256 / 256 / 256 / 256)) (b4 (X / 256 / 256 / 256 / 256 / 256 / 256 / 256)) (fF_8 X)
  have h4 : (pl4 (pl3 (pl2 (pl1 x)))).toBitVec.toNat = fF 8 X + fF 8 X / 256 := by
    show ((pl3 (pl2 (pl1 x))).toBitVec + (uL (pl3 (pl2 (pl1 x))) 8).toBitVec).toNat = _
    rw [BitVec.toNat_add, (u (pl3 (pl2 (pl1 x)))).2.2.2.1, h3]; exact Nat.mod_eq_of_lt f1
  have h5 : (pl5 (pl4 (pl3 (pl2 (pl1 x))))).toBitVec.toNat = (fF 8 X + fF 8 X / 256) + (fF 8 X + fF 8 X / 256) / 65536 := by
    show ((pl4 (pl3 (pl2 (pl1 x)))).toBitVec + (uL (pl4 (pl3 (pl2 (pl1 x)))) 16).toBitVec).toNat = _
    rw [BitVec.toNat_add, (u (pl4 (pl3 (pl2 (pl1 x))))).2.2.2.2.1, h4]; exact Nat.mod_eq_of_lt f2
  have h6 : (pl6 (pl5 (pl4 (pl3 (pl2 (pl1 x)))))).toBitVec.toNat = ((fF 8 X + fF 8 X / 256) + (fF 8 X + fF 8 X / 256) / 65536) + ((fF 8 X + fF 8 X / 256) + (fF 8 X + fF 8 X / 256) / 65536) / 4294967296 := by
    show ((pl5 (pl4 (pl3 (pl2 (pl1 x))))).toBitVec + (uL (pl5 (pl4 (pl3 (pl2 (pl1 x))))) 32).toBitVec).toNat = _
    rw [BitVec.toNat_add, (u (pl5 (pl4 (pl3 (pl2 (pl1 x)))))).2.2.2.2.2, h5]; exact Nat.mod_eq_of_lt f3
  show ((pl6 (pl5 (pl4 (pl3 (pl2 (pl1 x)))))).toBitVec.signExtend 32 &&& 127#32).toNat = _
  rw [BitVec.signExtend_eq_setWidth_of_le _ (by omega), BitVec.toNat_and, BitVec.toNat_setWidth, h6, cnt_64, ← f4]
  have e7 : ∀ Z : Nat, (Z % 2 ^ 32) &&& (127#32).toNat = Z % 128 := by
    intro Z
    show (Z % 2 ^ 32) &&& (2 ^ 7 - 1) = _
    rw [Nat.and_two_pow_sub_one_eq_mod]
    omega
  exact e7 _
theorem pcL_nI (x : Int64) : pcL x = nI (cntB (fun i => x.toBitVec.getLsbD i) 64) := by
  apply Int32.toBitVec_inj.mp
  apply BitVec.eq_of_toNat_eq
  have h := cnt_le (fun i => x.toBitVec.getLsbD i) 64
  rw [pcL_bv, nI_bv (by omega)]
  rfl
theorem dJ13_bitCount_95d88_0 : decode cJ13_bitCount_95d88 0 = .ok (.lload_n 0, 1) := by decide +kernel
theorem dJ13_bitCount_95d88_1 : decode cJ13_bitCount_95d88 1 = .ok (.lload_n 0, 1) := by decide +kernel
theorem dJ13_bitCount_95d88_2 : decode cJ13_bitCount_95d88 2 = .ok (.iconst 1, 1) := by decide +kernel
theorem dJ13_bitCount_95d88_3 : decode cJ13_bitCount_95d88 3 = .ok (.lushr, 1) := by decide +kernel
theorem dJ13_bitCount_95d88_4 : decode cJ13_bitCount_95d88 4 = .ok (.ldc2_w 314, 3) := by decide +kernel
theorem dJ13_bitCount_95d88_7 : decode cJ13_bitCount_95d88 7 = .ok (.land, 1) := by decide +kernel
theorem dJ13_bitCount_95d88_8 : decode cJ13_bitCount_95d88 8 = .ok (.lsub, 1) := by decide +kernel
theorem dJ13_bitCount_95d88_9 : decode cJ13_bitCount_95d88 9 = .ok (.lstore_n 0, 1) := by decide +kernel
theorem dJ13_bitCount_95d88_10 : decode cJ13_bitCount_95d88 10 = .ok (.lload_n 0, 1) := by decide +kernel
theorem dJ13_bitCount_95d88_11 : decode cJ13_bitCount_95d88 11 = .ok (.ldc2_w 316, 3) := by decide +kernel
theorem dJ13_bitCount_95d88_14 : decode cJ13_bitCount_95d88 14 = .ok (.land, 1) := by decide +kernel
theorem dJ13_bitCount_95d88_15 : decode cJ13_bitCount_95d88 15 = .ok (.lload_n 0, 1) := by decide +kernel
theorem dJ13_bitCount_95d88_16 : decode cJ13_bitCount_95d88 16 = .ok (.iconst 2, 1) := by decide +kernel
theorem dJ13_bitCount_95d88_17 : decode cJ13_bitCount_95d88 17 = .ok (.lushr, 1) := by decide +kernel
theorem dJ13_bitCount_95d88_18 : decode cJ13_bitCount_95d88 18 = .ok (.ldc2_w 316, 3) := by decide +kernel
theorem dJ13_bitCount_95d88_21 : decode cJ13_bitCount_95d88 21 = .ok (.land, 1) := by decide +kernel
theorem dJ13_bitCount_95d88_22 : decode cJ13_bitCount_95d88 22 = .ok (.ladd, 1) := by decide +kernel
theorem dJ13_bitCount_95d88_23 : decode cJ13_bitCount_95d88 23 = .ok (.lstore_n 0, 1) := by decide +kernel
theorem dJ13_bitCount_95d88_24 : decode cJ13_bitCount_95d88 24 = .ok (.lload_n 0, 1) := by decide +kernel
theorem dJ13_bitCount_95d88_25 : decode cJ13_bitCount_95d88 25 = .ok (.lload_n 0, 1) := by decide +kernel
theorem dJ13_bitCount_95d88_26 : decode cJ13_bitCount_95d88 26 = .ok (.iconst 4, 1) := by decide +kernel
theorem dJ13_bitCount_95d88_27 : decode cJ13_bitCount_95d88 27 = .ok (.lushr, 1) := by decide +kernel
theorem dJ13_bitCount_95d88_28 : decode cJ13_bitCount_95d88 28 = .ok (.ladd, 1) := by decide +kernel
theorem dJ13_bitCount_95d88_29 : decode cJ13_bitCount_95d88 29 = .ok (.ldc2_w 318, 3) := by decide +kernel
theorem dJ13_bitCount_95d88_32 : decode cJ13_bitCount_95d88 32 = .ok (.land, 1) := by decide +kernel
theorem dJ13_bitCount_95d88_33 : decode cJ13_bitCount_95d88 33 = .ok (.lstore_n 0, 1) := by decide +kernel
theorem dJ13_bitCount_95d88_34 : decode cJ13_bitCount_95d88 34 = .ok (.lload_n 0, 1) := by decide +kernel
theorem dJ13_bitCount_95d88_35 : decode cJ13_bitCount_95d88 35 = .ok (.lload_n 0, 1) := by decide +kernel
theorem dJ13_bitCount_95d88_36 : decode cJ13_bitCount_95d88 36 = .ok (.bipush 8, 2) := by decide +kernel
theorem dJ13_bitCount_95d88_38 : decode cJ13_bitCount_95d88 38 = .ok (.lushr, 1) := by decide +kernel
theorem dJ13_bitCount_95d88_39 : decode cJ13_bitCount_95d88 39 = .ok (.ladd, 1) := by decide +kernel
theorem dJ13_bitCount_95d88_40 : decode cJ13_bitCount_95d88 40 = .ok (.lstore_n 0, 1) := by decide +kernel
theorem dJ13_bitCount_95d88_41 : decode cJ13_bitCount_95d88 41 = .ok (.lload_n 0, 1) := by decide +kernel
theorem dJ13_bitCount_95d88_42 : decode cJ13_bitCount_95d88 42 = .ok (.lload_n 0, 1) := by decide +kernel
theorem dJ13_bitCount_95d88_43 : decode cJ13_bitCount_95d88 43 = .ok (.bipush 16, 2) := by decide +kernel
theorem dJ13_bitCount_95d88_45 : decode cJ13_bitCount_95d88 45 = .ok (.lushr, 1) := by decide +kernel
theorem dJ13_bitCount_95d88_46 : decode cJ13_bitCount_95d88 46 = .ok (.ladd, 1) := by decide +kernel
theorem dJ13_bitCount_95d88_47 : decode cJ13_bitCount_95d88 47 = .ok (.lstore_n 0, 1) := by decide +kernel
theorem dJ13_bitCount_95d88_48 : decode cJ13_bitCount_95d88 48 = .ok (.lload_n 0, 1) := by decide +kernel
theorem dJ13_bitCount_95d88_49 : decode cJ13_bitCount_95d88 49 = .ok (.lload_n 0, 1) := by decide +kernel
theorem dJ13_bitCount_95d88_50 : decode cJ13_bitCount_95d88 50 = .ok (.bipush 32, 2) := by decide +kernel
theorem dJ13_bitCount_95d88_52 : decode cJ13_bitCount_95d88 52 = .ok (.lushr, 1) := by decide +kernel
theorem dJ13_bitCount_95d88_53 : decode cJ13_bitCount_95d88 53 = .ok (.ladd, 1) := by decide +kernel
theorem dJ13_bitCount_95d88_54 : decode cJ13_bitCount_95d88 54 = .ok (.lstore_n 0, 1) := by decide +kernel
theorem dJ13_bitCount_95d88_55 : decode cJ13_bitCount_95d88 55 = .ok (.lload_n 0, 1) := by decide +kernel
theorem dJ13_bitCount_95d88_56 : decode cJ13_bitCount_95d88 56 = .ok (.l2i, 1) := by decide +kernel
theorem dJ13_bitCount_95d88_57 : decode cJ13_bitCount_95d88 57 = .ok (.bipush 127, 2) := by decide +kernel
theorem dJ13_bitCount_95d88_59 : decode cJ13_bitCount_95d88 59 = .ok (.iand, 1) := by decide +kernel
theorem dJ13_bitCount_95d88_60 : decode cJ13_bitCount_95d88 60 = .ok (.ireturn, 1) := by decide +kernel
set_option maxRecDepth 100000 in
set_option maxHeartbeats 40000000 in
theorem ge_J13_bitCount {G : vG} {l : Launch} (w : VW) (a : Int64) : Sp G l yJ13_bitCount_95d88 cJ13_bitCount_95d88 2 (some .int) 0 0 0 [.long a] (w) (QI (fun x w2 => w2 = w ∧ x = pcL a)) := by
  refine Sp_of_R [(some (.long a)), none] [] rfl (by simp) rfl (Nat.le_of_ble_eq_true rfl) ?_
  refine R_lload_n (pc := 0) dJ13_bitCount_95d88_0 rfl rfl ?_
  refine R_lload_n (pc := 1) dJ13_bitCount_95d88_1 rfl rfl ?_
  refine R_iconst (pc := 2) (v := 1) dJ13_bitCount_95d88_2 (by decide) ?_
  refine R_lushr (pc := 3) dJ13_bitCount_95d88_3 ?_
  refine R_ldc2 (pc := 4) w_382c dJ13_bitCount_95d88_4 ?_
  refine R_land (pc := 7) dJ13_bitCount_95d88_7 ?_
  refine R_lsub (pc := 8) dJ13_bitCount_95d88_8 ?_
  refine st_2_0_l_x (pc := 9) dJ13_bitCount_95d88_9 ?_
  refine R_lload_n (pc := 10) dJ13_bitCount_95d88_10 rfl rfl ?_
  refine R_ldc2 (pc := 11) w_383c dJ13_bitCount_95d88_11 ?_
  refine R_land (pc := 14) dJ13_bitCount_95d88_14 ?_
  refine R_lload_n (pc := 15) dJ13_bitCount_95d88_15 rfl rfl ?_
  refine R_iconst (pc := 16) (v := 2) dJ13_bitCount_95d88_16 (by decide) ?_
  refine R_lushr (pc := 17) dJ13_bitCount_95d88_17 ?_
  refine R_ldc2 (pc := 18) w_383c dJ13_bitCount_95d88_18 ?_
  refine R_land (pc := 21) dJ13_bitCount_95d88_21 ?_
  refine R_ladd (pc := 22) dJ13_bitCount_95d88_22 ?_
  refine st_2_0_l_x (pc := 23) dJ13_bitCount_95d88_23 ?_
  refine R_lload_n (pc := 24) dJ13_bitCount_95d88_24 rfl rfl ?_
  refine R_lload_n (pc := 25) dJ13_bitCount_95d88_25 rfl rfl ?_
  refine R_iconst (pc := 26) (v := 4) dJ13_bitCount_95d88_26 (by decide) ?_
  refine R_lushr (pc := 27) dJ13_bitCount_95d88_27 ?_
  refine R_ladd (pc := 28) dJ13_bitCount_95d88_28 ?_
  refine R_ldc2 (pc := 29) w_384c dJ13_bitCount_95d88_29 ?_
  refine R_land (pc := 32) dJ13_bitCount_95d88_32 ?_
  refine st_2_0_l_x (pc := 33) dJ13_bitCount_95d88_33 ?_
  refine R_lload_n (pc := 34) dJ13_bitCount_95d88_34 rfl rfl ?_
  refine R_lload_n (pc := 35) dJ13_bitCount_95d88_35 rfl rfl ?_
  refine R_bipush (pc := 36) (v := 8) dJ13_bitCount_95d88_36 (by decide) ?_
  refine R_lushr (pc := 38) dJ13_bitCount_95d88_38 ?_
  refine R_ladd (pc := 39) dJ13_bitCount_95d88_39 ?_
  refine st_2_0_l_x (pc := 40) dJ13_bitCount_95d88_40 ?_
  refine R_lload_n (pc := 41) dJ13_bitCount_95d88_41 rfl rfl ?_
  refine R_lload_n (pc := 42) dJ13_bitCount_95d88_42 rfl rfl ?_
  refine R_bipush (pc := 43) (v := 16) dJ13_bitCount_95d88_43 (by decide) ?_
  refine R_lushr (pc := 45) dJ13_bitCount_95d88_45 ?_
  refine R_ladd (pc := 46) dJ13_bitCount_95d88_46 ?_
  refine st_2_0_l_x (pc := 47) dJ13_bitCount_95d88_47 ?_
  refine R_lload_n (pc := 48) dJ13_bitCount_95d88_48 rfl rfl ?_
  refine R_lload_n (pc := 49) dJ13_bitCount_95d88_49 rfl rfl ?_
  refine R_bipush (pc := 50) (v := 32) dJ13_bitCount_95d88_50 (by decide) ?_
  refine R_lushr (pc := 52) dJ13_bitCount_95d88_52 ?_
  refine R_ladd (pc := 53) dJ13_bitCount_95d88_53 ?_
  refine st_2_0_l_x (pc := 54) dJ13_bitCount_95d88_54 ?_
  refine R_lload_n (pc := 55) dJ13_bitCount_95d88_55 rfl rfl ?_
  refine R_l2i (pc := 56) dJ13_bitCount_95d88_56 ?_
  refine R_bipush (pc := 57) (v := 127) dJ13_bitCount_95d88_57 (by decide) ?_
  refine R_iand (pc := 59) dJ13_bitCount_95d88_59 ?_
  exact R_iret (pc := 60) dJ13_bitCount_95d88_60 rfl rfl (Nat.zero_le _) (Nat.zero_le _) ⟨_, rfl, rfl, rfl⟩
def clC (a : Int32) : Int64 := (Int32.toInt64 ((255 <<< ((if 0 < (-a) then (-a) else 0) &&& 31)) &&& (255 >>> ((if 0 < a then a else 0) &&& 31))))
def clF (s t b : Int32) : Int32 := (if s < (t - b) then (t - b) else s)
def clT (b : Int32) : Int32 := (if (7 - b) < 7 then (7 - b) else 7)
/-! in how many cells two pictures are otherwise, by a shift; the fewest -/
def bitM (p : Int64) (a b : Int32) : Int32 := Int64.toInt32 ((p >>> (Int32.toInt64 ((8 * b) + a) &&& 63)) &&& 1)
def mvC (p : Int64) (b : Int32) : Int64 := if b < 0 then p <<< (Int32.toInt64 (-b) &&& 63) else uL p b
def clL (col : Int64) (l : Int32) : Nat → Int32 → Int64 → Int64
  | 0, _, acc => acc
  | q + 1, y, acc => if l < y then acc else clL col l q (y + 1) (acc ||| (col <<< (Int32.toInt64 (8 * y) &&& 63)))
theorem cl_out {col acc R : Int64} {l y : Int32} {q : Nat} (h : clL col l (q + 1) y acc = R) (hl : l < y) : acc = R := by
  have e : clL col l (q + 1) y acc = if l < y then acc else clL col l q (y + 1) (acc ||| (col <<< (Int32.toInt64 (8 * y) &&& 63))) := rfl
  rw [e, if_pos hl] at h; exact h
theorem cl_in {col acc R : Int64} {l y : Int32} {q : Nat} (h : clL col l (q + 1) y acc = R) (hl : ¬ l < y) : clL col l q (y + 1) (acc ||| (col <<< (Int32.toInt64 (8 * y) &&& 63))) = R := by
  have e : clL col l (q + 1) y acc = if l < y then acc else clL col l q (y + 1) (acc ||| (col <<< (Int32.toInt64 (8 * y) &&& 63))) := rfl
  rw [e, if_neg hl] at h; exact h
def cbC (s t a b : Int32) : Int64 := clL (clC a) (clT b) ((8 : Int) - (clF s t b).toInt).toNat (clF s t b) 0
theorem o2_rng : ∀ j : Fin 5, inR (nI j.val + (-2)) (-2) 2 := by unfold inR; decide +kernel
def ibG (sa sb d f : Int32) (i : Nat) : Bool := !decide (nI (i / 8) < sa) && (inB (nI (i % 8) + d) 0 7 && inB (nI (i / 8) + f) sb 7)
def dfG (pa pb : Int64) (sa sb d f : Int32) (i : Nat) : Bool := ibG sa sb d f i && !decide (bitM pa (nI (i % 8)) (nI (i / 8)) = bitM pb (nI (i % 8) + d) (nI (i / 8) + f))
/-- by one shift: in how many cells; -1: too few are in both -/
def ubF (pa pb : Int64) (sa sb d f : Int32) : Int32 := bif decide (nI (cntB (ibG sa sb d f) 64) < 24) then -1 else nI (cntB (dfG pa pb sa sb d f) 64)
def stepF (m v : Int32) : Int32 := bif decide (v = -1) then m else bif decide (m = -1) || decide (v < m) then v else m
def foF (u : Nat → Int32) : Nat → Int32
  | 0 => -1
  | n + 1 => stepF (foF u n) (u n)
theorem fo_s (u : Nat → Int32) (n : Nat) : foF u (n + 1) = stepF (foF u n) (u n) := rfl
theorem fo_congr {u v : Nat → Int32} : ∀ n : Nat, (∀ k, k < n → u k = v k) → foF u n = foF v n := by
  intro n
  induction n with
  | zero => intro _; rfl
  | succ n ih => intro h; rw [fo_s, fo_s, ih (fun k hk => h k (by omega)), h n (by omega)]
theorem st_skip {m v : Int32} (h : v = -1) : stepF m v = m := by unfold stepF; rw [decide_eq_true h]; rfl
theorem st_first {m v : Int32} (h : ¬ v = -1) (h2 : m = -1) : stepF m v = v := by unfold stepF; rw [decide_eq_false h, decide_eq_true h2]; rfl
theorem st_less {m v : Int32} (h : ¬ v = -1) (h2 : v < m) : stepF m v = v := by unfold stepF; rw [decide_eq_false h, decide_eq_true h2]; simp
theorem st_more {m v : Int32} (h : ¬ v = -1) (h2 : ¬ m = -1) (h3 : ¬ v < m) : stepF m v = m := by unfold stepF; rw [decide_eq_false h, decide_eq_false h2, decide_eq_false h3]; rfl
theorem st_min {m v : Int32} (h : ¬ v = -1) (h2 : ¬ m = -1) : (if v < m then v else m) = stepF m v := by
  by_cases q : v < m
  · rw [if_pos q, st_less h q]
  · rw [if_neg q, st_more h h2 q]
/-! counting, cell by cell -/
theorem ct_t {f : Nat → Bool} {g : Int32} {n : Nat} (h : g = nI (cntB f n)) (hf : f n = true) : g + 1 = nI (cntB f (n + 1)) := by
  show g + 1 = nI (cntB f n + (bif f n then 1 else 0))
  rw [hf, h]; exact nI_1 _
theorem ct_f {f : Nat → Bool} {g : Int32} {n : Nat} (h : g = nI (cntB f n)) (hf : f n = false) : g = nI (cntB f (n + 1)) := by
  show g = nI (cntB f n + (bif f n then 1 else 0))
  rw [hf]; exact h
theorem ct_f0 {f : Nat → Bool} {g : Int32} {n : Nat} (h : g = nI (cntB f n)) (hf : f n = false) : g + 0 = nI (cntB f (n + 1)) := (Int32.add_zero g).trans (ct_f h hf)
theorem dm8 {x y : Nat} (hx : x < 8) : (8 * y + x) / 8 = y ∧ (8 * y + x) % 8 = x := by omega
theorem ib_f1 {sa sb d f : Int32} {y x : Nat} (hx : x < 8) (h : ¬ inR (nI x + d) 0 7) : ibG sa sb d f (8 * y + x) = false := by
  unfold ibG
  rw [(dm8 hx).1, (dm8 hx).2, inB_f h]; simp
theorem ib_f2 {sa sb d f : Int32} {y x : Nat} (hx : x < 8) (h : ¬ inR (nI y + f) sb 7) : ibG sa sb d f (8 * y + x) = false := by
  unfold ibG
  rw [(dm8 hx).1, (dm8 hx).2, inB_f h]; simp
theorem ib_t {sa sb d f : Int32} {y x : Nat} (hx : x < 8) (hy : ¬ nI y < sa) (h : inR (nI x + d) 0 7) (h2 : inR (nI y + f) sb 7) : ibG sa sb d f (8 * y + x) = true := by
  unfold ibG
  rw [(dm8 hx).1, (dm8 hx).2, inB_t h, inB_t h2, decide_eq_false hy]; rfl
theorem df_f {pa pb : Int64} {sa sb d f : Int32} {i : Nat} (h : ibG sa sb d f i = false) : dfG pa pb sa sb d f i = false := by unfold dfG; rw [h]; rfl
theorem df_e {pa pb : Int64} {sa sb d f : Int32} {y x : Nat} (hx : x < 8) (h : bitM pa (nI x) (nI y) = bitM pb (nI x + d) (nI y + f)) : dfG pa pb sa sb d f (8 * y + x) = false := by
  unfold dfG
  rw [(dm8 hx).1, (dm8 hx).2, decide_eq_true h]; simp
theorem df_n {pa pb : Int64} {sa sb d f : Int32} {y x : Nat} (hx : x < 8) (h0 : ibG sa sb d f (8 * y + x) = true) (h : ¬ bitM pa (nI x) (nI y) = bitM pb (nI x + d) (nI y + f)) : dfG pa pb sa sb d f (8 * y + x) = true := by
  unfold dfG
  rw [h0, (dm8 hx).1, (dm8 hx).2, decide_eq_false h]; rfl
theorem ib_lo {sa sb d f : Int32} (hs : inR sa 0 4) : ∀ i : Nat, i < 8 * sa.toNatClampNeg → ibG sa sb d f i = false := by
  intro i hi
  obtain ⟨k, hk, rfl⟩ := nI_inR (M := 4) hs (by decide)
  rw [nI_clamp (by omega)] at hi
  unfold ibG
  rw [decide_eq_true (nI_lt (show i / 8 < k by omega) (by omega))]; rfl
theorem ib_0 {sa sb d f : Int32} (hs : inR sa 0 4) : 0 = nI (cntB (ibG sa sb d f) (8 * sa.toNatClampNeg)) := by rw [cnt_z _ (ib_lo hs)]; exact nI_0.symm
theorem df_0 {pa pb : Int64} {sa sb d f : Int32} (hs : inR sa 0 4) : 0 = nI (cntB (dfG pa pb sa sb d f) (8 * sa.toNatClampNeg)) := by rw [cnt_z _ (fun i hi => df_f (ib_lo hs i hi))]; exact nI_0.symm
theorem ge_sa {sa : Int32} {y : Nat} (hs : inR sa 0 4) (hy : y < 8) (h : sa.toNatClampNeg ≤ y) : ¬ nI y < sa := by
  obtain ⟨k, hk, rfl⟩ := nI_inR (M := 4) hs (by decide)
  rw [nI_clamp (by omega)] at h
  exact nI_nlt (a := nI y) (b := nI k) h (by omega)
theorem nI_o2 (j : Nat) : nI j + (-2) + 1 = nI (j + 1) + (-2) := by rw [← nI_1, Int32.add_assoc, Int32.add_comm (-2) 1, ← Int32.add_assoc]
/-! shifts by their numbers: 5 (dy + 2) + dx + 2 -/
def dX (n : Nat) : Int32 := nI (n % 5) + (-2)
def dY (n : Nat) : Int32 := nI (n / 5) + (-2)
def shN (n : Nat) : Nat := 8 * (n / 5) + n % 5
theorem dX_rem : ∀ n : Fin 25, (nI n.val - nI n.val / 5 * 5) - 2 = dX n.val ∧ nI n.val / 5 - 2 = dY n.val := by decide +kernel
def ibI (s t n i : Nat) : Bool := ibG (nI s) (nI t) (dX n) (dY n) i
theorem ox_t : ∀ x : Fin 8, ∀ u : Fin 5, (nI x.val + (nI u.val + (-2))).toInt = (x.val : Int) + u.val - 2 := by decide +kernel
theorem ox_7 {x u : Nat} (hx : x < 8) (hu : u < 5) : inB (nI x + (nI u + (-2))) 0 7 = (decide (2 ≤ x + u) && decide (x + u ≤ 9)) := by
  have e := ox_t ⟨x, hx⟩ ⟨u, hu⟩
  simp only at e
  have z : (0 : Int32).toInt = 0 := by decide
  have z7 : (7 : Int32).toInt = 7 := by decide
  by_cases q : 2 ≤ x + u ∧ x + u ≤ 9
  · rw [decide_eq_true q.1, decide_eq_true q.2]
    exact inB_t (of_ti (by omega) (by omega))
  · have f : ¬ inR (nI x + (nI u + (-2))) 0 7 := fun h => q (by have := ti_in h; omega)
    rw [inB_f f]
    by_cases q1 : 2 ≤ x + u
    · rw [decide_eq_true q1, decide_eq_false (show ¬ x + u ≤ 9 by omega)]; rfl
    · rw [decide_eq_false q1]; rfl
theorem oy_7 {y v t : Nat} (hy : y < 8) (hv : v < 5) (ht : t < 5) : inB (nI y + (nI v + (-2))) (nI t) 7 = (decide (t + 2 ≤ y + v) && decide (y + v ≤ 9)) := by
  have e := ox_t ⟨y, hy⟩ ⟨v, hv⟩
  simp only at e
  have z : (nI t).toInt = t := nI_toInt (by omega)
  have z7 : (7 : Int32).toInt = 7 := by decide
  by_cases q : t + 2 ≤ y + v ∧ y + v ≤ 9
  · rw [decide_eq_true q.1, decide_eq_true q.2]
    exact inB_t (of_ti (by omega) (by omega))
  · have f : ¬ inR (nI y + (nI v + (-2))) (nI t) 7 := fun h => q (by have := ti_in h; omega)
    rw [inB_f f]
    by_cases q1 : t + 2 ≤ y + v
    · rw [decide_eq_true q1, decide_eq_false (show ¬ y + v ≤ 9 by omega)]; rfl
    · rw [decide_eq_false q1]; rfl
/-- a cell that is in both, in numbers -/
def ibP (s t n i : Nat) : Prop := s ≤ i / 8 ∧ 2 ≤ i % 8 + n % 5 ∧ i % 8 + n % 5 ≤ 9 ∧ t + 2 ≤ i / 8 + n / 5 ∧ i / 8 + n / 5 ≤ 9
theorem ib_iff {s t n i : Nat} (hs : s < 5) (ht : t < 5) (hn : n < 25) (hi : i < 64) : ibI s t n i = true ↔ ibP s t n i := by
  unfold ibI ibG dX dY ibP
  rw [ox_7 (show i % 8 < 8 by omega) (show n % 5 < 5 by omega), oy_7 (show i / 8 < 8 by omega) (show n / 5 < 5 by omega) ht]
  simp only [Bool.and_eq_true, Bool.not_eq_true', decide_eq_true_eq, decide_eq_false_iff_not]
  rw [nI_ltI (by omega) (by omega)]
  omega
theorem ib_shift {s t n i : Nat} (hs : s < 5) (ht : t < 5) (hn : n < 25) (hi : i < 64) (h : ibI s t n i = true) : 18 ≤ i + shN n ∧ i + shN n - 18 < 64 ∧ ibI t s (24 - n) (i + shN n - 18) = true ∧ 8 * (nI (i / 8) + dY n) + (nI (i % 8) + dX n) = nI (i + shN n - 18) := by
  have p := (ib_iff hs ht hn hi).mp h
  unfold ibP at p
  unfold shN
  have e0 : i = 8 * (i / 8) + i % 8 := by omega
  have en : n = 5 * (n / 5) + n % 5 := by omega
  have k1 : (i + (8 * (n / 5) + n % 5) - 18) / 8 = i / 8 + n / 5 - 2 := by omega
  have k2 : (i + (8 * (n / 5) + n % 5) - 18) % 8 = i % 8 + n % 5 - 2 := by omega
  have hj : i + (8 * (n / 5) + n % 5) - 18 < 64 := by omega
  refine ⟨by omega, hj, (ib_iff ht hs (by omega) hj).mpr ?_, ?_⟩
  · unfold ibP
    rw [k1, k2]
    have m1 : (24 - n) / 5 = 4 - n / 5 := by omega
    have m2 : (24 - n) % 5 = 4 - n % 5 := by omega
    rw [m1, m2]
    omega
  · have nx : nI (i % 8) + dX n = nI (i % 8 + n % 5 - 2) := by
      apply Int32.toInt_inj.mp
      have e := ox_t ⟨i % 8, by omega⟩ ⟨n % 5, by omega⟩
      simp only at e
      rw [nI_toInt (by omega)]
      unfold dX
      omega
    have ny : nI (i / 8) + dY n = nI (i / 8 + n / 5 - 2) := by
      apply Int32.toInt_inj.mp
      have e := ox_t ⟨i / 8, by omega⟩ ⟨n / 5, by omega⟩
      simp only at e
      rw [nI_toInt (by omega)]
      unfold dY
      omega
    have m88 : ∀ p q : Fin 8, 8 * nI p.val + nI q.val = nI (8 * p.val + q.val) := by decide +kernel
    have e := m88 ⟨i / 8 + n / 5 - 2, by omega⟩ ⟨i % 8 + n % 5 - 2, by omega⟩
    simp only at e
    rw [nx, ny, e]
    congr 1
    omega
theorem uL_bit {p : Int64} {k : Nat} (hk : k < 64) (i : Nat) : tbL (uL p (nI k)) i = tbL p (k + i) := by
  have e : (uL p (nI k)).toBitVec = p.toBitVec >>> k := by
    have : ∀ k : Fin 64, ((Int64.toUInt64 (Int32.toInt64 (nI k.val)) &&& Int64.toUInt64 63).toBitVec % 64).toNat = k.val := by decide +kernel
    show p.toBitVec >>> ((Int64.toUInt64 (Int32.toInt64 (nI k)) &&& Int64.toUInt64 63).toBitVec % 64) = _
    rw [BitVec.ushiftRight_eq', this ⟨k, hk⟩]
  unfold tbL
  rw [e, BitVec.getLsbD_ushiftRight]
theorem shl_bit {p : Int64} {k : Nat} (hk : k < 64) {i : Nat} (hi : i < 64) : tbL (p <<< ((nI k).toInt64 &&& 63)) i = (decide (k ≤ i) && tbL p (i - k)) := by
  unfold tbL
  rw [Int64.toBitVec_shiftLeft]
  show (p.toBitVec <<< ((((nI k).toInt64 &&& 63).toBitVec.smod 64#64).toNat)).getLsbD i = _
  rw [nI63 ⟨k, hk⟩, BitVec.getLsbD_shiftLeft]
  by_cases q : i < k
  · rw [decide_eq_true q, decide_eq_false (show ¬ k ≤ i by omega)]; simp
  · rw [decide_eq_false q, decide_eq_true (show k ≤ i by omega), decide_eq_true hi]; rfl
theorem tbL_or (a b : Int64) (k : Nat) : tbL (a ||| b) k = (tbL a k || tbL b k) := by unfold tbL; rw [Int64.toBitVec_or, BitVec.getLsbD_or]
/-! the mask of the cells in both -/
theorem cl_bit {col : Int64} {L : Nat} (hL : L ≤ 7) (hc : ∀ x, 8 ≤ x → x < 64 → tbL col x = false) {i : Nat} (hi : i < 64) : ∀ (q y : Nat) (acc : Int64), y + q = 8 → tbL (clL col (nI L) q (nI y) acc) i = (tbL acc i || (decide (y ≤ i / 8) && (decide (i / 8 ≤ L) && tbL col (i % 8)))) := by
  intro q
  induction q with
  | zero =>
    intro y acc h
    show tbL acc i = _
    rw [decide_eq_false (show ¬ y ≤ i / 8 by omega)]; simp
  | succ q ih =>
    intro y acc h
    show tbL (if nI L < nI y then acc else clL col (nI L) q (nI y + 1) (acc ||| (col <<< (Int32.toInt64 (8 * nI y) &&& 63)))) i = _
    by_cases c : L < y
    · rw [if_pos ((nI_ltI (by omega) (by omega)).mpr c)]
      by_cases d : y ≤ i / 8
      · rw [decide_eq_false (show ¬ i / 8 ≤ L by omega)]; simp
      · rw [decide_eq_false d]; simp
    · have m8 : ∀ p : Fin 8, 8 * nI p.val = nI (8 * p.val) := by decide +kernel
      have e8 := m8 ⟨y, by omega⟩
      simp only at e8
      rw [if_neg (fun q2 => c ((nI_ltI (by omega) (by omega)).mp q2)), nI_1, ih (y + 1) _ (by omega), tbL_or, e8, shl_bit (by omega) hi]
      by_cases d : i / 8 = y
      · rw [decide_eq_true (show 8 * y ≤ i by omega), decide_eq_false (show ¬ y + 1 ≤ i / 8 by omega), decide_eq_true (show y ≤ i / 8 by omega), decide_eq_true (show i / 8 ≤ L by omega), show i - 8 * y = i % 8 by omega]; simp
      · have z : (decide (8 * y ≤ i) && tbL col (i - 8 * y)) = false := by
          by_cases d2 : 8 * y ≤ i
          · rw [hc _ (by omega) (by omega)]; simp
          · rw [decide_eq_false d2]; rfl
        have e2 : decide (y + 1 ≤ i / 8) = decide (y ≤ i / 8) := by rw [decide_eq_decide]; omega
        rw [z, e2, Bool.or_false]
theorem clC_bit : ∀ u : Fin 5, ∀ x : Fin 64, tbL (clC (nI u.val + (-2))) x.val = (decide (x.val < 8) && (decide (2 ≤ x.val + u.val) && decide (x.val + u.val ≤ 9))) := by decide +kernel
theorem clF_n : ∀ s t v : Fin 5, clF (nI s.val) (nI t.val) (nI v.val + (-2)) = nI (max s.val (t.val + 2 - v.val)) := by decide +kernel
theorem clT_n : ∀ v : Fin 5, clT (nI v.val + (-2)) = nI (min 7 (9 - v.val)) := by decide +kernel
theorem cb_bit {s t n i : Nat} (hs : s < 5) (ht : t < 5) (hn : n < 25) (hi : i < 64) : tbL (cbC (nI s) (nI t) (dX n) (dY n)) i = ibI s t n i := by
  have hu : n % 5 < 5 := by omega
  have hv : n / 5 < 5 := by omega
  unfold cbC dX dY
  have f1 := clF_n ⟨s, hs⟩ ⟨t, ht⟩ ⟨n / 5, hv⟩
  have f2 := clT_n ⟨n / 5, hv⟩
  simp only at f1 f2
  rw [f1, f2, nI_toInt (by omega), show ((8 : Int) - ((max s (t + 2 - n / 5) : Nat) : Int)).toNat = 8 - max s (t + 2 - n / 5) by omega]
  have hc : ∀ x, x < 64 → tbL (clC (nI (n % 5) + (-2))) x = (decide (x < 8) && (decide (2 ≤ x + n % 5) && decide (x + n % 5 ≤ 9))) := fun x hx => clC_bit ⟨n % 5, hu⟩ ⟨x, hx⟩
  rw [cl_bit (by omega) (fun x h8 h64 => by rw [hc x h64, decide_eq_false (show ¬ x < 8 by omega)]; rfl) hi _ _ _ (by omega), hc _ (by omega)]
  have z : tbL 0 i = false := by unfold tbL; simp
  rw [z, Bool.false_or, decide_eq_true (show i % 8 < 8 by omega), Bool.true_and, Bool.eq_iff_iff, ib_iff hs ht hn hi]
  unfold ibP
  simp only [Bool.and_eq_true, decide_eq_true_eq]
  omega
theorem ix_chk : ∀ i : Fin 64, 8 * nI (i.val / 8) + nI (i.val % 8) = nI i.val := by decide +kernel
theorem sh_chk : ∀ n : Fin 25, shN n.val ≤ 36 ∧ shN (24 - n.val) = 36 - shN n.val ∧ (8 * dY n.val + dX n.val).toInt = (shN n.val : Int) - 18 := by decide +kernel
theorem bitM_of {p : Int64} {a b : Int32} {k : Nat} (hk : k < 64) (e : 8 * b + a = nI k) : bitM p a b = if tbL p k then 1 else 0 := by
  unfold bitM
  rw [e, bitL_of hk]
  cases tbL p k <;> rfl
theorem dfG_bit {pa pb : Int64} {s t n i : Nat} (hn : n < 25) (hs : s < 5) (ht : t < 5) (hi : i < 64) : dfG pa pb (nI s) (nI t) (dX n) (dY n) i = (ibI s t n i && (tbL pa i != tbL pb (i + shN n - 18))) := by
  unfold dfG
  show (ibI s t n i && _) = _
  cases h : ibI s t n i
  · rfl
  · have q := ib_shift hs ht hn hi h
    rw [bitM_of hi (ix_chk ⟨i, hi⟩), bitM_of q.2.1 q.2.2.2]
    cases tbL pa i <;> cases tbL pb (i + shN n - 18) <;> rfl
theorem mv_bit {p : Int64} {n i : Nat} (hn : n < 25) (hi : i < 64) (h1 : 18 ≤ i + shN n) (h2 : i + shN n - 18 < 64) : tbL (mvC p (8 * dY n + dX n)) i = tbL p (i + shN n - 18) := by
  obtain ⟨c1, c2, c3⟩ := sh_chk ⟨n, hn⟩
  simp only at c1 c3
  unfold mvC
  by_cases q : shN n < 18
  · have hlt : 8 * dY n + dX n < 0 := Int32.lt_iff_toInt_lt.mpr (by rw [c3]; show _ < (0 : Int); omega)
    have e : -(8 * dY n + dX n) = nI (18 - shN n) := by
      apply Int32.toInt_inj.mp
      rw [nI_toInt (by omega), Int32.toInt_neg, c3]
      rw [Int.bmod_eq_of_le (by omega) (by omega)]; omega
    rw [if_pos hlt, e, shl_bit (by omega) hi, decide_eq_true (show 18 - shN n ≤ i by omega), Bool.true_and]
    congr 1
    omega
  · have hge : ¬ 8 * dY n + dX n < 0 := Int32.not_lt.mpr (Int32.le_iff_toInt_le.mpr (by rw [c3]; show (0 : Int) ≤ _; omega))
    have e : 8 * dY n + dX n = nI (shN n - 18) := by
      apply Int32.toInt_inj.mp
      rw [nI_toInt (by omega), c3]; omega
    rw [if_neg hge, e, uL_bit (by omega)]
    congr 1
    omega
/-- the class's words for one shift -/
def ucF (pa pb : Int64) (sa sb : Int32) (n : Nat) : Int32 := bif decide (pcL (cbC sa sb (dX n) (dY n)) < 24) then -1 else pcL ((pa ^^^ mvC pb (8 * dY n + dX n)) &&& cbC sa sb (dX n) (dY n))
theorem tbL_xor (a b : Int64) (k : Nat) : tbL (a ^^^ b) k = (tbL a k != tbL b k) := by unfold tbL; rw [Int64.toBitVec_xor, BitVec.getLsbD_xor]; cases a.toBitVec.getLsbD k <;> cases b.toBitVec.getLsbD k <;> rfl
theorem uc_ub {pa pb : Int64} {sa sb : Int32} {n : Nat} (hn : n < 25) (ha : inR sa 0 4) (hb : inR sb 0 4) : ucF pa pb sa sb n = ubF pa pb sa sb (dX n) (dY n) := by
  obtain ⟨s, hs, rfl⟩ := nI_inR (M := 4) ha (by decide)
  obtain ⟨t, ht, rfl⟩ := nI_inR (M := 4) hb (by decide)
  have hc : ∀ i, i < 64 → (cbC (nI s) (nI t) (dX n) (dY n)).toBitVec.getLsbD i = ibG (nI s) (nI t) (dX n) (dY n) i := by
    intro i hi
    exact cb_bit (by omega) (by omega) hn hi
  have e1 : pcL (cbC (nI s) (nI t) (dX n) (dY n)) = nI (cntB (ibG (nI s) (nI t) (dX n) (dY n)) 64) := by rw [pcL_nI, cnt_congr 64 hc]
  have e2 : pcL ((pa ^^^ mvC pb (8 * dY n + dX n)) &&& cbC (nI s) (nI t) (dX n) (dY n)) = nI (cntB (dfG pa pb (nI s) (nI t) (dX n) (dY n)) 64) := by
    rw [pcL_nI]
    congr 1
    refine cnt_congr 64 (fun i hi => ?_)
    show tbL _ i = _
    rw [dfG_bit hn (by omega) (by omega) hi, tbL_and, tbL_xor]
    show ((tbL pa i != tbL (mvC pb (8 * dY n + dX n)) i) && (cbC (nI s) (nI t) (dX n) (dY n)).toBitVec.getLsbD i) = (ibG (nI s) (nI t) (dX n) (dY n) i && _)
    rw [hc i hi, Bool.and_comm]
    cases h : ibG (nI s) (nI t) (dX n) (dY n) i
    · rfl
    · have q := ib_shift (s := s) (t := t) (by omega) (by omega) hn hi h
      rw [mv_bit hn hi q.1 q.2.1]
  unfold ucF ubF
  rw [e1, e2]
/-! either way round it is the same -/
theorem cnt_shift {P Q : Nat → Bool} {S : Nat} (hS : S ≤ 36) (h1 : ∀ i j, i < 64 → j < 64 → j + 18 = i + S → P i = Q j) (h2 : ∀ i, i < 64 → P i = true → 18 ≤ i + S ∧ i + S - 18 < 64) (h3 : ∀ j, j < 64 → Q j = true → S ≤ j + 18 ∧ j + 18 - S < 64) : cntB P 64 = cntB Q 64 := by
  have bf : ∀ b : Bool, (b = true → False) → b = false := fun b h => by cases b; rfl; exact (h rfl).elim
  by_cases q : 18 ≤ S
  · obtain ⟨k, hk, rfl⟩ : ∃ k, k ≤ 18 ∧ S = k + 18 := ⟨S - 18, by omega, by omega⟩
    have eP : cntB P 64 = cntB P (64 - k) + cntB (fun i => P ((64 - k) + i)) k := by rw [← cnt_add]; congr 1; omega
    have eQ : cntB Q 64 = cntB Q k + cntB (fun i => Q (k + i)) (64 - k) := by rw [← cnt_add]; congr 1; omega
    rw [eP, eQ, cnt_z k (f := fun i => P ((64 - k) + i)) (fun i hi => bf _ (fun e => by have := h2 _ (by omega) e; omega)), cnt_z k (f := Q) (fun i hi => bf _ (fun e => by have := h3 _ (by omega) e; omega)), Nat.add_zero, Nat.zero_add]
    exact cnt_congr _ (fun i hi => h1 i (k + i) (by omega) (by omega) (by omega))
  · obtain ⟨k, hk, e⟩ : ∃ k, k ≤ 18 ∧ S + k = 18 := ⟨18 - S, by omega, by omega⟩
    have eQ : cntB Q 64 = cntB Q (64 - k) + cntB (fun i => Q ((64 - k) + i)) k := by rw [← cnt_add]; congr 1; omega
    have eP : cntB P 64 = cntB P k + cntB (fun i => P (k + i)) (64 - k) := by rw [← cnt_add]; congr 1; omega
    rw [eP, eQ, cnt_z k (f := fun i => Q ((64 - k) + i)) (fun i hi => bf _ (fun e => by have := h3 _ (by omega) e; omega)), cnt_z k (f := P) (fun i hi => bf _ (fun e => by have := h2 _ (by omega) e; omega)), Nat.add_zero, Nat.zero_add]
    exact cnt_congr _ (fun i hi => h1 (k + i) i (by omega) (by omega) (by omega))
theorem ub_rev {pa pb : Int64} {sa sb : Int32} {n : Nat} (hn : n < 25) (ha : inR sa 0 4) (hb : inR sb 0 4) : ubF pa pb sa sb (dX n) (dY n) = ubF pb pa sb sa (dX (24 - n)) (dY (24 - n)) := by
  obtain ⟨s, hs, rfl⟩ := nI_inR (M := 4) ha (by decide)
  obtain ⟨t, ht, rfl⟩ := nI_inR (M := 4) hb (by decide)
  have hm : 24 - n < 25 := by omega
  have hnm : 24 - (24 - n) = n := by omega
  obtain ⟨c1, c2, -⟩ := sh_chk ⟨n, hn⟩
  simp only at c1 c2
  have A : ∀ i, i < 64 → ibI s t n i = true → 18 ≤ i + shN n ∧ i + shN n - 18 < 64 ∧ ibI t s (24 - n) (i + shN n - 18) = true := by
    intro i hi h
    have q := ib_shift (by omega) (by omega) hn hi h
    exact ⟨q.1, q.2.1, q.2.2.1⟩
  have B : ∀ j, j < 64 → ibI t s (24 - n) j = true → shN n ≤ j + 18 ∧ j + 18 - shN n < 64 ∧ ibI s t n (j + 18 - shN n) = true := by
    intro j hj h
    have q := ib_shift (by omega) (by omega) hm hj h
    rw [hnm, c2] at q
    have e : j + (36 - shN n) - 18 = j + 18 - shN n := by omega
    rw [e] at q
    exact ⟨by omega, q.2.1, q.2.2.1⟩
  have C : ∀ i j, i < 64 → j < 64 → j + 18 = i + shN n → ibI s t n i = ibI t s (24 - n) j := by
    intro i j hi hj e
    cases h : ibI s t n i
    · cases h2 : ibI t s (24 - n) j
      · rfl
      · have q := (B j hj h2).2.2
        rw [show j + 18 - shN n = i by omega, h] at q; cases q
    · have q := (A i hi h).2.2
      rw [show i + shN n - 18 = j by omega] at q; exact q.symm
  have e1 : cntB (ibG (nI s) (nI t) (dX n) (dY n)) 64 = cntB (ibG (nI t) (nI s) (dX (24 - n)) (dY (24 - n))) 64 :=
    cnt_shift c1 C (fun i hi h => ⟨(A i hi h).1, (A i hi h).2.1⟩) (fun j hj h => ⟨(B j hj h).1, (B j hj h).2.1⟩)
  have e2 : cntB (dfG pa pb (nI s) (nI t) (dX n) (dY n)) 64 = cntB (dfG pb pa (nI t) (nI s) (dX (24 - n)) (dY (24 - n))) 64 := by
    refine cnt_shift (S := shN n) c1 (fun i j hi hj e => ?_) (fun i hi h => ?_) (fun j hj h => ?_)
    · rw [dfG_bit hn (by omega) (by omega) hi, dfG_bit hm (by omega) (by omega) hj, C i j hi hj e]
      cases h : ibI t s (24 - n) j
      · rfl
      · have q := (B j hj h).1
        rw [show i + shN n - 18 = j by omega, c2, show j + (36 - shN n) - 18 = i by omega]
        cases tbL pa i <;> cases tbL pb j <;> rfl
    · have h2 : ibI s t n i = true := by
        rw [dfG_bit hn (by omega) (by omega) hi, Bool.and_eq_true] at h; exact h.1
      exact ⟨(A i hi h2).1, (A i hi h2).2.1⟩
    · have h2 : ibI t s (24 - n) j = true := by
        rw [dfG_bit hm (by omega) (by omega) hj, Bool.and_eq_true] at h; exact h.1
      exact ⟨(B j hj h2).1, (B j hj h2).2.1⟩
  unfold ubF
  rw [e1, e2]
theorem fo_char (u : Nat → Int32) : ∀ n : Nat, (foF u n = -1 ∧ ∀ k, k < n → u k = -1) ∨ (¬ foF u n = -1 ∧ (∃ k, k < n ∧ u k = foF u n) ∧ ∀ k, k < n → ¬ u k = -1 → foF u n ≤ u k) := by
  intro n
  induction n with
  | zero => exact Or.inl ⟨rfl, fun k hk => absurd hk (Nat.not_lt_zero k)⟩
  | succ n ih =>
    rw [fo_s]
    by_cases hv : u n = -1
    · rw [st_skip hv]
      rcases ih with ⟨a, b⟩ | ⟨a, ⟨k, hk, e⟩, c⟩
      · refine Or.inl ⟨a, fun k hk => ?_⟩
        by_cases q : k = n
        · rw [q]; exact hv
        · exact b k (by omega)
      · refine Or.inr ⟨a, ⟨k, by omega, e⟩, fun k2 hk2 h2 => ?_⟩
        by_cases q : k2 = n
        · rw [q] at h2; exact absurd hv h2
        · exact c k2 (by omega) h2
    · right
      rcases ih with ⟨a, b⟩ | ⟨a, ⟨k, hk, e⟩, c⟩
      · rw [st_first hv a]
        refine ⟨hv, ⟨n, by omega, rfl⟩, fun k2 hk2 h2 => ?_⟩
        by_cases q : k2 = n
        · rw [q]; exact Int32.le_refl _
        · exact absurd (b k2 (by omega)) h2
      · by_cases hl : u n < foF u n
        · rw [st_less hv hl]
          refine ⟨hv, ⟨n, by omega, rfl⟩, fun k2 hk2 h2 => ?_⟩
          by_cases q : k2 = n
          · rw [q]; exact Int32.le_refl _
          · exact Int32.le_trans (Int32.le_of_lt hl) (c k2 (by omega) h2)
        · rw [st_more hv a hl]
          refine ⟨a, ⟨k, by omega, e⟩, fun k2 hk2 h2 => ?_⟩
          by_cases q : k2 = n
          · rw [q]; exact Int32.not_lt.mp hl
          · exact c k2 (by omega) h2
theorem fo_rev {u v : Nat → Int32} (h : ∀ k, k < 25 → u k = v (24 - k)) : foF u 25 = foF v 25 := by
  have h' : ∀ k, k < 25 → v k = u (24 - k) := fun k hk => by rw [h (24 - k) (by omega), show 24 - (24 - k) = k by omega]
  rcases fo_char u 25 with ⟨a, b⟩ | ⟨a, ⟨k, hk, e⟩, c⟩
  · rcases fo_char v 25 with ⟨a2, b2⟩ | ⟨a2, ⟨k2, hk2, e2⟩, c2⟩
    · rw [a, a2]
    · exact absurd ((h' k2 hk2).trans (b _ (by omega))) (by rw [e2]; exact a2)
  · rcases fo_char v 25 with ⟨a2, b2⟩ | ⟨a2, ⟨k2, hk2, e2⟩, c2⟩
    · exact absurd ((h k hk).trans (b2 _ (by omega))) (by rw [e]; exact a)
    · apply Int32.le_antisymm
      · rw [← e2, h' k2 hk2]
        exact c _ (by omega) (by rw [← h' k2 hk2, e2]; exact a2)
      · rw [← e, h k hk]
        exact c2 _ (by omega) (by rw [← h k hk, e]; exact a)
/-- the fewest, by any shift -/
def uoF (pa pb : Int64) (sa sb : Int32) : Int32 := foF (fun n => ubF pa pb sa sb (dX n) (dY n)) 25
theorem uo_sym {pa pb : Int64} {sa sb : Int32} (ha : inR sa 0 4) (hb : inR sb 0 4) : uoF pa pb sa sb = uoF pb pa sb sa := fo_rev (fun _ hk => ub_rev hk ha hb)
set_option maxRecDepth 100000 in
set_option maxHeartbeats 40000000 in
theorem ge_X3_cellsInBoth {G : vG} {l : Launch} (w : VW) (s t a b : Int32) (hs : inR s 0 4) (ht : inR t 0 4) (ha : inR a (-2) 2) (hb : inR b (-2) 2) : Sp G l yX3_cellsInBoth cX3_cellsInBoth 11 (some .long) 1 0 0 [.int s, .int t, .int a, .int b] (w) (QL (fun x w2 => w2 = w ∧ x = cbC s t a b)) := by
  refine Sp_of_R [(some (.int s)), (some (.int t)), (some (.int a)), (some (.int b)), none, none, none, none, none, none, none] [none, none, none, none, none, none, none] rfl (by simp) rfl (Nat.le_of_ble_eq_true rfl) ?_
  refine R_sipush (pc := 0) (v := 255) dX3_cellsInBoth_0 (by decide) ?_
  refine R_iconst (pc := 3) (v := 0) dX3_cellsInBoth_3 (by decide) ?_
  refine R_iload_n (pc := 4) dX3_cellsInBoth_4 rfl rfl ?_
  refine R_ineg (pc := 5) dX3_cellsInBoth_5 ?_
  refine R_mmax (pc := 6) wm_373 dX3_cellsInBoth_6 (by decide) (Nat.le_of_ble_eq_true rfl) (Nat.zero_le _) (Nat.zero_le _) ?_
  refine R_ishl (pc := 9) dX3_cellsInBoth_9 ?_
  refine R_sipush (pc := 10) (v := 255) dX3_cellsInBoth_10 (by decide) ?_
  refine R_iconst (pc := 13) (v := 0) dX3_cellsInBoth_13 (by decide) ?_
  refine R_iload_n (pc := 14) dX3_cellsInBoth_14 rfl rfl ?_
  refine R_mmax (pc := 15) wm_373 dX3_cellsInBoth_15 (by decide) (Nat.le_of_ble_eq_true rfl) (Nat.zero_le _) (Nat.zero_le _) ?_
  have r1 : inR (if 0 < a then a else 0) 0 2 := inR_max (show inR 0 0 0 from (inR_self _)) (show inR a (-2) 2 from ha) (by decide) (by decide) (by decide)
  refine R_ishr (pc := 18) dX3_cellsInBoth_18 ?_
  refine R_iand (pc := 19) dX3_cellsInBoth_19 ?_
  refine R_i2l (pc := 20) dX3_cellsInBoth_20 ?_
  refine st_11_4_l_i (pc := 21) dX3_cellsInBoth_21 ?_
  refine R_iload_n (pc := 23) dX3_cellsInBoth_23 rfl rfl ?_
  refine R_iload_n (pc := 24) dX3_cellsInBoth_24 rfl rfl ?_
  refine R_iload_n (pc := 25) dX3_cellsInBoth_25 rfl rfl ?_
  refine R_isub (pc := 26) dX3_cellsInBoth_26 ?_
  have r2 : inR (t - b) (-2) 6 := inR_sub (show inR t 0 4 from ht) (show inR b (-2) 2 from hb) (by decide) (by decide)
  have e3 := ti_sub (l := (-2)) (h := 6) (show inR t 0 4 from ht) (show inR b (-2) 2 from hb) (by decide) (by decide)
  refine R_mmax (pc := 27) wm_373 dX3_cellsInBoth_27 (by decide) (Nat.le_of_ble_eq_true rfl) (Nat.zero_le _) (Nat.zero_le _) ?_
  have r4 : inR (if s < (t - b) then (t - b) else s) 0 6 := inR_max (show inR s 0 4 from hs) (show inR (t - b) (-2) 6 from r2) (by decide) (by decide) (by decide)
  refine st_11_6_i_n (pc := 30) dX3_cellsInBoth_30 ?_
  refine R_bipush (pc := 32) (v := 7) dX3_cellsInBoth_32 (by decide) ?_
  refine R_bipush (pc := 34) (v := 7) dX3_cellsInBoth_34 (by decide) ?_
  refine R_iload_n (pc := 36) dX3_cellsInBoth_36 rfl rfl ?_
  refine R_isub (pc := 37) dX3_cellsInBoth_37 ?_
  have r5 : inR (7 - b) 5 9 := inR_sub (show inR 7 7 7 from (inR_self _)) (show inR b (-2) 2 from hb) (by decide) (by decide)
  have e6 := ti_sub (l := 5) (h := 9) (show inR 7 7 7 from (inR_self _)) (show inR b (-2) 2 from hb) (by decide) (by decide)
  refine R_mmin (pc := 38) wm_376 dX3_cellsInBoth_38 (by decide) (Nat.le_of_ble_eq_true rfl) (Nat.zero_le _) (Nat.zero_le _) ?_
  have r7 : inR (if (7 - b) < 7 then (7 - b) else 7) 5 7 := inR_min (show inR 7 7 7 from (inR_self _)) (show inR (7 - b) 5 9 from r5) (by decide) (by decide) (by decide)
  refine st_11_7_i_i (pc := 41) dX3_cellsInBoth_41 ?_
  refine R_lconst (pc := 43) (v := 0) dX3_cellsInBoth_43 (by decide) ?_
  refine st_11_8_l_i (pc := 44) dX3_cellsInBoth_44 ?_
  refine R_iload (pc := 46) dX3_cellsInBoth_46 rfl ?_
  refine st_11_10_i_n (pc := 48) dX3_cellsInBoth_48 ?_
  have HL : ∀ (q : Nat) (y : Int32) (g : Int64), y.toInt + (q : Int) = 8 → inR y 0 8 → clL (clC a) (clT b) q y g = (cbC s t a b) → R G l yX3_cellsInBoth cX3_cellsInBoth 11 (some .long) 1 0 0 (QL (fun x w2 => w2 = w ∧ x = cbC s t a b)) 50 [(some (.int s)), (some (.int t)), (some (.int a)), (some (.int b)), (some (.long (Int32.toInt64 ((255 <<< ((if 0 < (-a) then (-a) else 0) &&& 31)) &&& (255 >>> ((if 0 < a then a else 0) &&& 31)))))), none, (some (.int (if s < (t - b) then (t - b) else s))), (some (.int (if (7 - b) < 7 then (7 - b) else 7))), (some (.long g)), none, (some (.int y))] [] (w) 0 0 := by
    intro q
    induction q with
    | zero =>
      intro y g hj hr hX
      have hM : inR y 8 8 := of_ti (by have z : (8 : Int32).toInt = 8 := (by decide); omega) (by have z : (8 : Int32).toInt = 8 := (by decide); omega)
      refine R_iload (pc := 50) dX3_cellsInBoth_50 rfl ?_
      refine R_iload (pc := 52) dX3_cellsInBoth_52 rfl ?_
      refine R_icgt (pc := 54) 76 dX3_cellsInBoth_54 (by decide) (fun _ => ?_) (fun h => False.elim (by have q1 := ti_nlt h; have q2 := ti_in (show inR y 8 8 from hM); have q3 := ti_in (show inR (if (7 - b) < 7 then (7 - b) else 7) 5 7 from r7); have z0 : (5 : Int32).toInt = 5 := (by decide);  have z1 : (7 : Int32).toInt = 7 := (by decide);  have z2 : (8 : Int32).toInt = 8 := (by decide); omega))
      refine R_lload (pc := 76) dX3_cellsInBoth_76 rfl ?_
      exact R_lret (pc := 78) dX3_cellsInBoth_78 rfl (Nat.zero_le _) (Nat.zero_le _) ⟨_, rfl, rfl, hX⟩
    | succ q ih =>
      intro y g hj hr hX
      have hM : inR y 0 7 := of_ti (ti_in hr).1 (by have z : (7 : Int32).toInt = 7 := (by decide); omega)
      refine R_iload (pc := 50) dX3_cellsInBoth_50 rfl ?_
      refine R_iload (pc := 52) dX3_cellsInBoth_52 rfl ?_
      refine R_icgt (pc := 54) 76 dX3_cellsInBoth_54 (by decide) (fun b54_9 => ?_) (fun b54_9 => ?_)
      · skip
        refine R_lload (pc := 76) dX3_cellsInBoth_76 rfl ?_
        exact R_lret (pc := 78) dX3_cellsInBoth_78 rfl (Nat.zero_le _) (Nat.zero_le _) ⟨_, rfl, rfl, cl_out hX b54_9⟩
      · skip
        refine R_lload (pc := 57) dX3_cellsInBoth_57 rfl ?_
        refine R_lload (pc := 59) dX3_cellsInBoth_59 rfl ?_
        refine R_bipush (pc := 61) (v := 8) dX3_cellsInBoth_61 (by decide) ?_
        refine R_iload (pc := 63) dX3_cellsInBoth_63 rfl ?_
        refine R_imul (pc := 65) dX3_cellsInBoth_65 ?_
        refine R_lshl (pc := 66) dX3_cellsInBoth_66 ?_
        refine R_lor (pc := 67) dX3_cellsInBoth_67 ?_
        refine st_11_8_l_i (pc := 68) dX3_cellsInBoth_68 ?_
        refine inc_11_10_1_n (pc := 70) dX3_cellsInBoth_70 ?_
        have r10 : inR (y + 1) 1 8 := inR_add (show inR y 0 7 from hM) (show inR 1 1 1 from (inR_self _)) (by decide) (by decide)
        have e11 := ti_add (l := 1) (h := 8) (show inR y 0 7 from hM) (show inR 1 1 1 from (inR_self _)) (by decide) (by decide)
        refine R_goto (pc := 73) 50 dX3_cellsInBoth_73 (by decide) ?_
        exact ih (y + 1) _ (by have q0 := e3; have q1 := e6; have q2 := e11; have q3 := ti_nlt b54_9; have q4 := ti_in hs; have q5 := ti_in ht; have q6 := ti_in ha; have q7 := ti_in hb; have q8 := ti_in r1; have q9 := ti_in r2; have q10 := ti_in r4; have q11 := ti_in r5; have q12 := ti_in r7; have q13 := ti_in hM; have q14 := ti_in r10; have q15 := hj; have z0 : (-2 : Int32).toInt = -2 := (by decide); have z1 : (0 : Int32).toInt = 0 := (by decide); have z2 : (1 : Int32).toInt = 1 := (by decide); have z3 : (2 : Int32).toInt = 2 := (by decide); have z4 : (4 : Int32).toInt = 4 := (by decide); have z5 : (5 : Int32).toInt = 5 := (by decide); have z6 : (6 : Int32).toInt = 6 := (by decide); have z7 : (7 : Int32).toInt = 7 := (by decide); have z8 : (8 : Int32).toInt = 8 := (by decide); have z9 : (9 : Int32).toInt = 9 := (by decide); omega) (inR_up r10 (by decide) (by decide)) (cl_in hX b54_9)
  exact HL ((8 : Int) - ((if s < (t - b) then (t - b) else s)).toInt).toNat _ _ (by have z := ti_in (inR_up r4 (by decide) (by decide)); have z8 : (8 : Int32).toInt = 8 := (by decide); have z0 : (0 : Int32).toInt = 0 := (by decide); omega) (inR_up r4 (by decide) (by decide)) rfl
theorem dX3_moved_0 : decode cX3_moved 0 = .ok (.iload_n 2, 1) := by decide +kernel
theorem dX3_moved_1 : decode cX3_moved 1 = .ok (.ifCond .lt 9, 3) := by decide +kernel
theorem dX3_moved_4 : decode cX3_moved 4 = .ok (.lload_n 0, 1) := by decide +kernel
theorem dX3_moved_5 : decode cX3_moved 5 = .ok (.iload_n 2, 1) := by decide +kernel
theorem dX3_moved_6 : decode cX3_moved 6 = .ok (.lushr, 1) := by decide +kernel
theorem dX3_moved_7 : decode cX3_moved 7 = .ok (.goto 7, 3) := by decide +kernel
theorem dX3_moved_10 : decode cX3_moved 10 = .ok (.lload_n 0, 1) := by decide +kernel
theorem dX3_moved_11 : decode cX3_moved 11 = .ok (.iload_n 2, 1) := by decide +kernel
theorem dX3_moved_12 : decode cX3_moved 12 = .ok (.ineg, 1) := by decide +kernel
theorem dX3_moved_13 : decode cX3_moved 13 = .ok (.lshl, 1) := by decide +kernel
theorem dX3_moved_14 : decode cX3_moved 14 = .ok (.lreturn, 1) := by decide +kernel
set_option maxRecDepth 100000 in
set_option maxHeartbeats 40000000 in
theorem ge_X3_moved {G : vG} {l : Launch} (w : VW) (a : Int64) (b : Int32) : Sp G l yX3_moved cX3_moved 3 (some .long) 0 0 0 [.long a, .int b] (w) (QL (fun x w2 => w2 = w ∧ x = mvC a b)) := by
  refine Sp_of_R [(some (.long a)), none, (some (.int b))] [] rfl (by simp) rfl (Nat.le_of_ble_eq_true rfl) ?_
  refine R_iload_n (pc := 0) dX3_moved_0 rfl rfl ?_
  refine R_iflt (pc := 1) 10 dX3_moved_1 (by decide) (fun b1_1 => ?_) (fun b1_1 => ?_)
  · skip
    refine R_lload_n (pc := 10) dX3_moved_10 rfl rfl ?_
    refine R_iload_n (pc := 11) dX3_moved_11 rfl rfl ?_
    refine R_ineg (pc := 12) dX3_moved_12 ?_
    refine R_lshl (pc := 13) dX3_moved_13 ?_
    exact R_lret (pc := 14) dX3_moved_14 rfl (Nat.zero_le _) (Nat.zero_le _) ⟨_, rfl, rfl, (by unfold mvC; rw [if_pos b1_1])⟩
  · skip
    refine R_lload_n (pc := 4) dX3_moved_4 rfl rfl ?_
    refine R_iload_n (pc := 5) dX3_moved_5 rfl rfl ?_
    refine R_lushr (pc := 6) dX3_moved_6 ?_
    refine R_goto (pc := 7) 14 dX3_moved_7 (by decide) ?_
    exact R_lret (pc := 14) dX3_moved_14 rfl (Nat.zero_le _) (Nat.zero_le _) ⟨_, rfl, rfl, (by unfold mvC; rw [if_neg b1_1]; rfl)⟩
theorem nI_nem' {j : Nat} (h : j < 2 ^ 31) : ¬ nI j = -1 := fun e => by
  have h1 := ti_eq e
  rw [nI_toInt h] at h1
  have z : (-1 : Int32).toInt = -1 := by decide
  omega
theorem uc_at {pa pb : Int64} {sa sb : Int32} {y x : Nat} (hx : x < 5) : ucF pa pb sa sb (5 * y + x) = bif decide (pcL (cbC sa sb (nI x + (-2)) (nI y + (-2))) < 24) then -1 else pcL ((pa ^^^ mvC pb (8 * (nI y + (-2)) + (nI x + (-2)))) &&& cbC sa sb (nI x + (-2)) (nI y + (-2))) := by
  unfold ucF dX dY
  rw [show (5 * y + x) % 5 = x by omega, show (5 * y + x) / 5 = y by omega]
theorem pc_ne (x : Int64) : ¬ pcL x = -1 := by
  rw [pcL_nI]
  exact nI_nem' (by have := cnt_le (fun i => x.toBitVec.getLsbD i) 64; omega)
set_option maxRecDepth 100000 in
set_option maxHeartbeats 40000000 in
theorem gn_X3_fewestOtherwise {G : vG} {l : Launch} (σ : Sg) (a b : Int32) (hI : Inv σ) (ha : inR a 0 19) (hb : inR b 0 19) : Sp G l yX3_fewestOtherwise cX3_fewestOtherwise 11 (some .int) 2 0 0 [.ref 12, .int a, .int b] (WW σ) (QI (fun x w2 => w2 = WW σ ∧ x = uoF (σ.2.2.2.1 6 (Int32.toNatClampNeg a)) (σ.2.2.2.1 6 (Int32.toNatClampNeg b)) (σ.2.2.1 7 (Int32.toNatClampNeg a)) (σ.2.2.1 7 (Int32.toNatClampNeg b)))) := by
  refine Sp_of_R [(some (.ref 12)), (some (.int a)), (some (.int b)), none, none, none, none, none, none, none, none] [none, none, none, none, none, none, none, none] rfl (by simp) rfl (Nat.le_of_ble_eq_true rfl) ?_
  refine R_iconst (pc := 0) (v := (-1)) dX3_fewestOtherwise_0 (by decide) ?_
  refine st_11_3_i_i (pc := 1) dX3_fewestOtherwise_1 ?_
  refine R_bipush (pc := 2) (v := (-2)) dX3_fewestOtherwise_2 (by decide) ?_
  refine st_11_4_i_i (pc := 4) dX3_fewestOtherwise_4 ?_
  have HL6 : ∀ (q j6 : Nat) (g3_6 : Int32) (g5_6 : Option Value) (g6_6 : Option Value) (g8_6 : Option Value) (g10_6 : Option Value), j6 + q = 5 → 0 ≤ j6 → g3_6 = foF (ucF (σ.2.2.2.1 6 (Int32.toNatClampNeg a)) (σ.2.2.2.1 6 (Int32.toNatClampNeg b)) (σ.2.2.1 7 (Int32.toNatClampNeg a)) (σ.2.2.1 7 (Int32.toNatClampNeg b))) (5 * j6) → R G l yX3_fewestOtherwise cX3_fewestOtherwise 11 (some .int) 2 0 0 (QI (fun x w2 => w2 = WW σ ∧ x = uoF (σ.2.2.2.1 6 (Int32.toNatClampNeg a)) (σ.2.2.2.1 6 (Int32.toNatClampNeg b)) (σ.2.2.1 7 (Int32.toNatClampNeg a)) (σ.2.2.1 7 (Int32.toNatClampNeg b)))) 6 [(some (.ref 12)), (some (.int a)), (some (.int b)), (some (.int g3_6)), (some (.int (nI j6 + (-2)))), g5_6, g6_6, none, g8_6, none, g10_6] [] (WW σ) 0 0 := by
    intro q
    induction q with
    | zero =>
      intro j6 g3_6 g5_6 g6_6 g8_6 g10_6 hj6 hs6 hX6_0
      obtain rfl : j6 = 5 := by omega
      refine R_iload (pc := 6) dX3_fewestOtherwise_6 rfl ?_
      refine R_iconst (pc := 8) (v := 2) dX3_fewestOtherwise_8 (by decide) ?_
      refine R_icgt (pc := 9) 130 dX3_fewestOtherwise_9 (by decide) (fun _ => ?_) (fun h => absurd (by decide) h)
      refine R_iload_n (pc := 130) dX3_fewestOtherwise_130 rfl rfl ?_
      exact R_iret (pc := 131) dX3_fewestOtherwise_131 rfl rfl (Nat.zero_le _) (Nat.zero_le _) ⟨_, rfl, rfl, (hX6_0.trans (fo_congr 25 (fun k hk => uc_ub hk (iva_7 hI _ (clamp19 ha)) (iva_7 hI _ (clamp19 hb)))))⟩
    | succ q ih6 =>
      intro j6 g3_6 g5_6 g6_6 g8_6 g10_6 hj6 hs6 hX6_0
      have hlt6 : j6 < 5 := by omega
      have hrg6 : inR (nI j6 + (-2)) (-2) 2 := (by have h := (o2_rng ⟨j6, hlt6⟩); exact h)
      refine R_iload (pc := 6) dX3_fewestOtherwise_6 rfl ?_
      refine R_iconst (pc := 8) (v := 2) dX3_fewestOtherwise_8 (by decide) ?_
      refine R_icgt (pc := 9) 130 dX3_fewestOtherwise_9 (by decide) (fun h => False.elim (by have q1 := ti_lt h; have q2 := ti_in (show inR (nI j6 + (-2)) (-2) 2 from hrg6); have q3 := ti_in (show inR 2 2 2 from (inR_self _)); have z0 : (-2 : Int32).toInt = (-2) := (by decide);  have z1 : (-2 : Int32).toInt = -2 := (by decide);  have z2 : (2 : Int32).toInt = 2 := (by decide); omega)) (fun _ => ?_)
      refine R_bipush (pc := 12) (v := (-2)) dX3_fewestOtherwise_12 (by decide) ?_
      refine st_11_5_i_i (pc := 14) dX3_fewestOtherwise_14 ?_
      have HL16 : ∀ (q j16 : Nat) (g3_16 : Int32) (g6_16 : Option Value) (g8_16 : Option Value) (g10_16 : Option Value), j16 + q = 5 → 0 ≤ j16 → g3_16 = foF (ucF (σ.2.2.2.1 6 (Int32.toNatClampNeg a)) (σ.2.2.2.1 6 (Int32.toNatClampNeg b)) (σ.2.2.1 7 (Int32.toNatClampNeg a)) (σ.2.2.1 7 (Int32.toNatClampNeg b))) (5 * j6 + j16) → R G l yX3_fewestOtherwise cX3_fewestOtherwise 11 (some .int) 2 0 0 (QI (fun x w2 => w2 = WW σ ∧ x = uoF (σ.2.2.2.1 6 (Int32.toNatClampNeg a)) (σ.2.2.2.1 6 (Int32.toNatClampNeg b)) (σ.2.2.1 7 (Int32.toNatClampNeg a)) (σ.2.2.1 7 (Int32.toNatClampNeg b)))) 16 [(some (.ref 12)), (some (.int a)), (some (.int b)), (some (.int g3_16)), (some (.int (nI j6 + (-2)))), (some (.int (nI j16 + (-2)))), g6_16, none, g8_16, none, g10_16] [] (WW σ) 0 0 := by
        intro q
        induction q with
        | zero =>
          intro j16 g3_16 g6_16 g8_16 g10_16 hj16 hs16 hX16_0
          obtain rfl : j16 = 5 := by omega
          refine R_iload (pc := 16) dX3_fewestOtherwise_16 rfl ?_
          refine R_iconst (pc := 18) (v := 2) dX3_fewestOtherwise_18 (by decide) ?_
          refine R_icgt (pc := 19) 124 dX3_fewestOtherwise_19 (by decide) (fun _ => ?_) (fun h => absurd (by decide) h)
          refine inc_11_4_1_i (pc := 124) dX3_fewestOtherwise_124 ?_
          have r4 : inR ((nI j6 + (-2)) + 1) (-1) 3 := inR_add (show inR (nI j6 + (-2)) (-2) 2 from hrg6) (show inR 1 1 1 from (inR_self _)) (by decide) (by decide)
          have e5 := ti_add (l := (-1)) (h := 3) (show inR (nI j6 + (-2)) (-2) 2 from hrg6) (show inR 1 1 1 from (inR_self _)) (by decide) (by decide)
          refine R_goto (pc := 127) 6 dX3_fewestOtherwise_127 (by decide) ?_
          rw [nI_o2]
          exact ih6 (j6 + 1) _ _ _ _ _ (by omega) (by omega) (show _ = foF (ucF (σ.2.2.2.1 6 (Int32.toNatClampNeg a)) (σ.2.2.2.1 6 (Int32.toNatClampNeg b)) (σ.2.2.1 7 (Int32.toNatClampNeg a)) (σ.2.2.1 7 (Int32.toNatClampNeg b))) (5 * (j6 + 1)) from by rw [show 5 * (j6 + 1) = 5 * j6 + 5 from by omega]; exact hX16_0)
        | succ q ih16 =>
          intro j16 g3_16 g6_16 g8_16 g10_16 hj16 hs16 hX16_0
          have hlt16 : j16 < 5 := by omega
          have hrg16 : inR (nI j16 + (-2)) (-2) 2 := (by have h := (o2_rng ⟨j16, hlt16⟩); exact h)
          refine R_iload (pc := 16) dX3_fewestOtherwise_16 rfl ?_
          refine R_iconst (pc := 18) (v := 2) dX3_fewestOtherwise_18 (by decide) ?_
          refine R_icgt (pc := 19) 124 dX3_fewestOtherwise_19 (by decide) (fun h => False.elim (by have q1 := ti_lt h; have q2 := ti_in (show inR (nI j16 + (-2)) (-2) 2 from hrg16); have q3 := ti_in (show inR 2 2 2 from (inR_self _)); have z0 : (-2 : Int32).toInt = (-2) := (by decide);  have z1 : (-2 : Int32).toInt = -2 := (by decide);  have z2 : (2 : Int32).toInt = 2 := (by decide); omega)) (fun _ => ?_)
          refine R_aload_n (pc := 22) dX3_fewestOtherwise_22 rfl rfl ?_
          refine g_X3_27 (pc := 23) (v := .ref 1) rfl dX3_fewestOtherwise_23 (c_12 _) rfl ?_
          refine g_X3_40 (pc := 26) (v := .ref 7) rfl dX3_fewestOtherwise_26 (c_1 _) rfl ?_
          refine R_iload_n (pc := 29) dX3_fewestOtherwise_29 rfl rfl ?_
          have hx7 : vp_in a 20 := (vp_of_inR ha (by decide))
          refine R_iaload (pc := 30) dX3_fewestOtherwise_30 (c_7 _) hx7 ?_
          refine R_aload_n (pc := 31) dX3_fewestOtherwise_31 rfl rfl ?_
          refine g_X3_27 (pc := 32) (v := .ref 1) rfl dX3_fewestOtherwise_32 (c_12 _) rfl ?_
          refine g_X3_40 (pc := 35) (v := .ref 7) rfl dX3_fewestOtherwise_35 (c_1 _) rfl ?_
          refine R_iload_n (pc := 38) dX3_fewestOtherwise_38 rfl rfl ?_
          have hx8 : vp_in b 20 := (vp_of_inR hb (by decide))
          refine R_iaload (pc := 39) dX3_fewestOtherwise_39 (c_7 _) hx8 ?_
          refine R_iload (pc := 40) dX3_fewestOtherwise_40 rfl ?_
          refine R_iload (pc := 42) dX3_fewestOtherwise_42 rfl ?_
          refine k_X3_43 (pc := 44) (ge_X3_cellsInBoth _ _ _ _ _ (iva_7 hI _ (lt_of_vp hx7)) (iva_7 hI _ (lt_of_vp hx8)) hrg16 hrg6) rfl (by decide) (Nat.le_refl _) (Nat.le_refl _) (Nat.le_of_ble_eq_true rfl) dX3_fewestOtherwise_44 (fun x w2 h => ?_)
          obtain ⟨rfl, rfl⟩ := h
          refine st_11_6_l_i (pc := 47) dX3_fewestOtherwise_47 ?_
          refine R_lload (pc := 49) dX3_fewestOtherwise_49 rfl ?_
          refine k_X3_47 (pc := 51) (ge_J13_bitCount _ _) rfl (by decide) (Nat.le_refl _) (Nat.le_refl _) (Nat.le_of_ble_eq_true rfl) dX3_fewestOtherwise_51 (fun x w2 h => ?_)
          obtain ⟨rfl, rfl⟩ := h
          refine R_cv (pcL (cbC (σ.2.2.1 7 (Int32.toNatClampNeg a)) (σ.2.2.1 7 (Int32.toNatClampNeg b)) (nI j16 + (-2)) (nI j6 + (-2)))) rfl ?_
          refine R_bipush (pc := 54) (v := 24) dX3_fewestOtherwise_54 (by decide) ?_
          refine R_iclt (pc := 56) 118 dX3_fewestOtherwise_56 (by decide) (fun b56_9 => ?_) (fun b56_9 => ?_)
          · skip
            refine inc_11_5_1_i (pc := 118) dX3_fewestOtherwise_118 ?_
            have r10 : inR ((nI j16 + (-2)) + 1) (-1) 3 := inR_add (show inR (nI j16 + (-2)) (-2) 2 from hrg16) (show inR 1 1 1 from (inR_self _)) (by decide) (by decide)
            have e11 := ti_add (l := (-1)) (h := 3) (show inR (nI j16 + (-2)) (-2) 2 from hrg16) (show inR 1 1 1 from (inR_self _)) (by decide) (by decide)
            refine R_goto (pc := 121) 16 dX3_fewestOtherwise_121 (by decide) ?_
            rw [nI_o2]
            exact ih16 (j16 + 1) _ _ _ _ (by omega) (by omega) (by show _ = foF (ucF (σ.2.2.2.1 6 (Int32.toNatClampNeg a)) (σ.2.2.2.1 6 (Int32.toNatClampNeg b)) (σ.2.2.1 7 (Int32.toNatClampNeg a)) (σ.2.2.1 7 (Int32.toNatClampNeg b))) (5 * j6 + j16 + 1); rw [fo_s, (uc_at (pa := (σ.2.2.2.1 6 (Int32.toNatClampNeg a))) (pb := (σ.2.2.2.1 6 (Int32.toNatClampNeg b))) (sa := (σ.2.2.1 7 (Int32.toNatClampNeg a))) (sb := (σ.2.2.1 7 (Int32.toNatClampNeg b))) (y := j6) (x := j16) (by omega)), decide_eq_true b56_9]; exact hX16_0.trans (st_skip rfl).symm)
          · skip
            refine R_aload_n (pc := 59) dX3_fewestOtherwise_59 rfl rfl ?_
            refine g_X3_27 (pc := 60) (v := .ref 1) rfl dX3_fewestOtherwise_60 (c_12 _) rfl ?_
            refine g_X3_53 (pc := 63) (v := .ref 6) rfl dX3_fewestOtherwise_63 (c_1 _) rfl ?_
            refine R_iload_n (pc := 66) dX3_fewestOtherwise_66 rfl rfl ?_
            have hx12 : vp_in b 20 := (vp_of_inR hb (by decide))
            refine R_laload (pc := 67) dX3_fewestOtherwise_67 (c_6 _) hx12 ?_
            refine R_bipush (pc := 68) (v := 8) dX3_fewestOtherwise_68 (by decide) ?_
            refine R_iload (pc := 70) dX3_fewestOtherwise_70 rfl ?_
            refine R_imul (pc := 72) dX3_fewestOtherwise_72 ?_
            refine R_iload (pc := 73) dX3_fewestOtherwise_73 rfl ?_
            refine R_iadd (pc := 75) dX3_fewestOtherwise_75 ?_
            refine k_X3_57 (pc := 76) (ge_X3_moved _ _ _) rfl (by decide) (Nat.le_refl _) (Nat.le_refl _) (Nat.le_of_ble_eq_true rfl) dX3_fewestOtherwise_76 (fun x w2 h => ?_)
            obtain ⟨rfl, rfl⟩ := h
            refine st_11_8_l_n (pc := 79) dX3_fewestOtherwise_79 ?_
            refine R_aload_n (pc := 81) dX3_fewestOtherwise_81 rfl rfl ?_
            refine g_X3_27 (pc := 82) (v := .ref 1) rfl dX3_fewestOtherwise_82 (c_12 _) rfl ?_
            refine g_X3_53 (pc := 85) (v := .ref 6) rfl dX3_fewestOtherwise_85 (c_1 _) rfl ?_
            refine R_iload_n (pc := 88) dX3_fewestOtherwise_88 rfl rfl ?_
            have hx13 : vp_in a 20 := (vp_of_inR ha (by decide))
            refine R_laload (pc := 89) dX3_fewestOtherwise_89 (c_6 _) hx13 ?_
            refine R_lload (pc := 90) dX3_fewestOtherwise_90 rfl ?_
            refine R_lxor (pc := 92) dX3_fewestOtherwise_92 ?_
            refine R_lload (pc := 93) dX3_fewestOtherwise_93 rfl ?_
            refine R_land (pc := 95) dX3_fewestOtherwise_95 ?_
            refine k_X3_47 (pc := 96) (ge_J13_bitCount _ _) rfl (by decide) (Nat.le_refl _) (Nat.le_refl _) (Nat.le_of_ble_eq_true rfl) dX3_fewestOtherwise_96 (fun x w2 h => ?_)
            obtain ⟨rfl, rfl⟩ := h
            refine R_cv (pcL (((σ.2.2.2.1 6 (Int32.toNatClampNeg a)) ^^^ (mvC (σ.2.2.2.1 6 (Int32.toNatClampNeg b)) ((8 * (nI j6 + (-2))) + (nI j16 + (-2))))) &&& (cbC (σ.2.2.1 7 (Int32.toNatClampNeg a)) (σ.2.2.1 7 (Int32.toNatClampNeg b)) (nI j16 + (-2)) (nI j6 + (-2))))) rfl ?_
            refine st_11_10_i_n (pc := 99) dX3_fewestOtherwise_99 ?_
            refine R_iload_n (pc := 101) dX3_fewestOtherwise_101 rfl rfl ?_
            refine R_iconst (pc := 102) (v := (-1)) dX3_fewestOtherwise_102 (by decide) ?_
            refine R_icne (pc := 103) 111 dX3_fewestOtherwise_103 (by decide) (fun b103_14 => ?_) (fun b103_14 => ?_)
            · skip
              refine R_iload_n (pc := 111) dX3_fewestOtherwise_111 rfl rfl ?_
              refine R_iload (pc := 112) dX3_fewestOtherwise_112 rfl ?_
              refine R_mmin (pc := 114) wm_376 dX3_fewestOtherwise_114 (by decide) (Nat.le_of_ble_eq_true rfl) (Nat.zero_le _) (Nat.zero_le _) ?_
              refine st_11_3_i_i (pc := 117) dX3_fewestOtherwise_117 ?_
              refine inc_11_5_1_i (pc := 118) dX3_fewestOtherwise_118 ?_
              have r15 : inR ((nI j16 + (-2)) + 1) (-1) 3 := inR_add (show inR (nI j16 + (-2)) (-2) 2 from hrg16) (show inR 1 1 1 from (inR_self _)) (by decide) (by decide)
              have e16 := ti_add (l := (-1)) (h := 3) (show inR (nI j16 + (-2)) (-2) 2 from hrg16) (show inR 1 1 1 from (inR_self _)) (by decide) (by decide)
              refine R_goto (pc := 121) 16 dX3_fewestOtherwise_121 (by decide) ?_
              rw [nI_o2]
              exact ih16 (j16 + 1) _ _ _ _ (by omega) (by omega) (by show _ = foF (ucF (σ.2.2.2.1 6 (Int32.toNatClampNeg a)) (σ.2.2.2.1 6 (Int32.toNatClampNeg b)) (σ.2.2.1 7 (Int32.toNatClampNeg a)) (σ.2.2.1 7 (Int32.toNatClampNeg b))) (5 * j6 + j16 + 1); rw [fo_s, (uc_at (pa := (σ.2.2.2.1 6 (Int32.toNatClampNeg a))) (pb := (σ.2.2.2.1 6 (Int32.toNatClampNeg b))) (sa := (σ.2.2.1 7 (Int32.toNatClampNeg a))) (sb := (σ.2.2.1 7 (Int32.toNatClampNeg b))) (y := j6) (x := j16) (by omega)), decide_eq_false b56_9, ← hX16_0]; exact st_min (pc_ne _) b103_14)
            · skip
              refine R_iload (pc := 106) dX3_fewestOtherwise_106 rfl ?_
              refine R_goto (pc := 108) 117 dX3_fewestOtherwise_108 (by decide) ?_
              refine st_11_3_i_i (pc := 117) dX3_fewestOtherwise_117 ?_
              refine inc_11_5_1_i (pc := 118) dX3_fewestOtherwise_118 ?_
              have r17 : inR ((nI j16 + (-2)) + 1) (-1) 3 := inR_add (show inR (nI j16 + (-2)) (-2) 2 from hrg16) (show inR 1 1 1 from (inR_self _)) (by decide) (by decide)
              have e18 := ti_add (l := (-1)) (h := 3) (show inR (nI j16 + (-2)) (-2) 2 from hrg16) (show inR 1 1 1 from (inR_self _)) (by decide) (by decide)
              refine R_goto (pc := 121) 16 dX3_fewestOtherwise_121 (by decide) ?_
              rw [nI_o2]
              exact ih16 (j16 + 1) _ _ _ _ (by omega) (by omega) (by show _ = foF (ucF (σ.2.2.2.1 6 (Int32.toNatClampNeg a)) (σ.2.2.2.1 6 (Int32.toNatClampNeg b)) (σ.2.2.1 7 (Int32.toNatClampNeg a)) (σ.2.2.1 7 (Int32.toNatClampNeg b))) (5 * j6 + j16 + 1); rw [fo_s, (uc_at (pa := (σ.2.2.2.1 6 (Int32.toNatClampNeg a))) (pb := (σ.2.2.2.1 6 (Int32.toNatClampNeg b))) (sa := (σ.2.2.1 7 (Int32.toNatClampNeg a))) (sb := (σ.2.2.1 7 (Int32.toNatClampNeg b))) (y := j6) (x := j16) (by omega)), decide_eq_false b56_9, ← hX16_0]; exact (st_first (pc_ne _) b103_14).symm)
      exact HL16 5 0 _ _ _ _ (by omega) (by omega) hX6_0
  exact HL6 5 0 _ _ _ _ _ (by omega) (by omega) rfl
