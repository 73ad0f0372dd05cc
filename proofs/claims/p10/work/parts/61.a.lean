/-! methods on any state that keeps the invariant -/
/-! longs, bit by bit -/
def tbL (s : Int64) (k : Nat) : Bool := s.toBitVec.getLsbD k
theorem nI63 : ∀ k : Fin 64, (((nI k.val).toInt64 &&& 63).toBitVec.smod 64#64).toNat = k.val := by decide +kernel
theorem shL_bv {k : Nat} (hk : k < 64) (s : Int64) : (s >>> ((nI k).toInt64 &&& 63)).toBitVec = s.toBitVec.sshiftRight k := by
  rw [Int64.toBitVec_shiftRight]
  show s.toBitVec.sshiftRight ((((nI k).toInt64 &&& 63).toBitVec.smod 64#64).toNat) = _
  rw [nI63 ⟨k, hk⟩]
theorem and1L_bv (x : BitVec 64) : x &&& 1#64 = if x.getLsbD 0 then 1#64 else 0#64 := by
  rw [BitVec.and_one_eq_setWidth_ofBool_getLsbD]
  cases x.getLsbD 0 <;> rfl
theorem bitL_of {s : Int64} {k : Nat} (hk : k < 64) : (s >>> ((nI k).toInt64 &&& 63)) &&& 1 = if tbL s k then 1 else 0 := by
  apply Int64.toBitVec_inj.mp
  rw [Int64.toBitVec_and, shL_bv hk]
  show s.toBitVec.sshiftRight k &&& 1#64 = _
  rw [and1L_bv, BitVec.getLsbD_sshiftRight]
  have h1 : (0 : Nat) + k = k := Nat.zero_add k
  have h2 : k + 0 = k := Nat.add_zero k
  simp only [h1, h2]
  unfold tbL
  rw [if_pos hk]
  cases s.toBitVec.getLsbD k <;> rfl
theorem tbL_and (a b : Int64) (k : Nat) : tbL (a &&& b) k = (tbL a k && tbL b k) := by unfold tbL; rw [Int64.toBitVec_and, BitVec.getLsbD_and]
/-! how many bits: the machine's steps, byte by byte -/
def cntB (f : Nat → Bool) : Nat → Nat
  | 0 => 0
  | n + 1 => cntB f n + (bif f n then 1 else 0)
theorem cnt_add (f : Nat → Bool) (m : Nat) : ∀ n : Nat, cntB f (m + n) = cntB f m + cntB (fun i => f (m + i)) n := by
  intro n
  induction n with
  | zero => rfl
  | succ n ih =>
    show cntB f (m + n) + (bif f (m + n) then 1 else 0) = cntB f m + (cntB (fun i => f (m + i)) n + (bif f (m + n) then 1 else 0))
    rw [ih, Nat.add_assoc]
theorem cnt_congr {f g : Nat → Bool} : ∀ n : Nat, (∀ i, i < n → f i = g i) → cntB f n = cntB g n := by
  intro n
  induction n with
  | zero => intro _; rfl
  | succ n ih =>
    intro h
    show cntB f n + (bif f n then 1 else 0) = cntB g n + (bif g n then 1 else 0)
    rw [ih (fun i hi => h i (by omega)), h n (by omega)]
theorem cnt_le (f : Nat → Bool) : ∀ n : Nat, cntB f n ≤ n := by
  intro n
  induction n with
  | zero => exact Nat.le_refl _
  | succ n ih =>
    show cntB f n + (bif f n then 1 else 0) ≤ n + 1
    cases f n <;> simp only [cond_true, cond_false] <;> omega
theorem cnt_z {f : Nat → Bool} : ∀ n : Nat, (∀ i, i < n → f i = false) → cntB f n = 0 := by
  intro n
  induction n with
  | zero => intro _; rfl
  | succ n ih =>
    intro h
    show cntB f n + (bif f n then 1 else 0) = 0
    rw [ih (fun i hi => h i (by omega)), h n (by omega)]; rfl
theorem land_s {a m : Nat} (h g : Nat) (ha : a < 256) (hm : m < 256) : (256 * h + a) &&& (256 * g + m) = 256 * (h &&& g) + (a &&& m) := by
  have ha2 : a < 2 ^ 8 := ha
  have hm2 : m < 2 ^ 8 := hm
  have hc2 : a &&& m < 2 ^ 8 := Nat.lt_of_le_of_lt Nat.and_le_left ha2
  show (2 ^ 8 * h + a) &&& (2 ^ 8 * g + m) = 2 ^ 8 * (h &&& g) + (a &&& m)
  apply Nat.eq_of_testBit_eq
  intro i
  rw [Nat.testBit_and, Nat.testBit_two_pow_mul_add _ ha2, Nat.testBit_two_pow_mul_add _ hm2, Nat.testBit_two_pow_mul_add _ hc2]
  by_cases q : i < 8
  · rw [if_pos q, if_pos q, if_pos q, Nat.testBit_and]
  · rw [if_neg q, if_neg q, if_neg q, Nat.testBit_and]
def mk8 (m : Nat) : Nat → Nat
  | 0 => 0
  | n + 1 => 256 * mk8 m n + m
def t1 (M x : Nat) : Nat := x - ((x / 2) &&& M)
def t2 (M x : Nat) : Nat := (x &&& M) + ((x / 4) &&& M)
def t3 (M x : Nat) : Nat := (x + x / 16) &&& M
def bb1 (a : Nat) : Nat := a - ((a / 2) &&& 85)
def bb2 (a : Nat) : Nat := (a &&& 51) + ((a / 4) &&& 51)
def bb3 (a : Nat) : Nat := (a + a / 16) &&& 15
def pb (a : Nat) : Nat := bb3 (bb2 (bb1 a))
def bitN (x i : Nat) : Bool := Nat.testBit x i
theorem bf1 : ∀ a : Fin 256, ∀ r : Fin 2, ((a.val / 2 + 128 * r.val) &&& 85) = (a.val / 2) &&& 85 := by decide +kernel
theorem bf1b : ∀ a : Fin 256, bb1 a.val < 256 := by decide +kernel
theorem bf2 : ∀ a : Fin 256, ∀ r : Fin 4, ((a.val / 4 + 64 * r.val) &&& 51) = (a.val / 4) &&& 51 := by decide +kernel
theorem bf2b : ∀ a : Fin 256, bb2 (bb1 a.val) < 256 ∧ bb2 (bb1 a.val) % 16 ≤ 4 ∧ bb2 (bb1 a.val) / 16 ≤ 4 := by decide +kernel
theorem bf3 : ∀ a : Fin 256, ∀ r : Fin 5, ((bb2 (bb1 a.val) + bb2 (bb1 a.val) / 16 + 16 * r.val) &&& 15) = pb a.val := by decide +kernel
theorem bf4 : ∀ a : Fin 256, pb a.val = cntB (bitN a.val) 8 := by decide +kernel
theorem t1_s {a : Nat} (M h : Nat) (ha : a < 256) : t1 (256 * M + 85) (256 * h + a) = 256 * t1 M h + bb1 a := by
  unfold t1 bb1
  have e : (256 * h + a) / 2 = 256 * (h / 2) + (a / 2 + 128 * (h % 2)) := by omega
  have u1 : (a / 2) &&& 85 ≤ a := Nat.le_trans Nat.and_le_left (by omega)
  have u2 : (h / 2) &&& M ≤ h := Nat.le_trans Nat.and_le_left (by omega)
  rw [e, land_s _ _ (by omega) (by omega), bf1 ⟨a, ha⟩ ⟨h % 2, by omega⟩]
  show 256 * h + a - (256 * (h / 2 &&& M) + (a / 2 &&& 85)) = 256 * (h - (h / 2 &&& M)) + (a - (a / 2 &&& 85))
  omega
theorem t2_s {a : Nat} (M h : Nat) (ha : a < 256) : t2 (256 * M + 51) (256 * h + a) = 256 * t2 M h + bb2 a := by
  unfold t2 bb2
  have e : (256 * h + a) / 4 = 256 * (h / 4) + (a / 4 + 64 * (h % 4)) := by omega
  rw [e, land_s _ _ ha (by omega), land_s _ _ (by omega) (by omega), bf2 ⟨a, ha⟩ ⟨h % 4, by omega⟩]
  show 256 * (h &&& M) + (a &&& 51) + (256 * (h / 4 &&& M) + (a / 4 &&& 51)) = 256 * ((h &&& M) + (h / 4 &&& M)) + ((a &&& 51) + (a / 4 &&& 51))
  omega
def gF (n x : Nat) : Nat := t2 (mk8 51 n) (t1 (mk8 85 n) x)
def fF (n x : Nat) : Nat := t3 (mk8 15 n) (gF n x)
theorem gF_s {a : Nat} (n h : Nat) (ha : a < 256) : gF (n + 1) (256 * h + a) = 256 * gF n h + bb2 (bb1 a) := by
  show t2 (256 * mk8 51 n + 51) (t1 (256 * mk8 85 n + 85) (256 * h + a)) = _
  rw [t1_s _ _ ha, t2_s _ _ (bf1b ⟨a, ha⟩)]; rfl
theorem gF_0 (x : Nat) : gF 0 x = 0 := by
  show (t1 0 x &&& 0) + ((t1 0 x / 4) &&& 0) = 0
  rw [Nat.and_zero, Nat.and_zero]
theorem gF_lo : ∀ n x : Nat, gF n x % 16 ≤ 4 := by
  intro n x
  cases n with
  | zero => rw [gF_0]; decide
  | succ n =>
    have e : x = 256 * (x / 256) + x % 256 := by omega
    have ha : x % 256 < 256 := by omega
    rw [e, gF_s _ _ ha]
    have := (bf2b ⟨x % 256, ha⟩).2.1
    have h2 : (256 * gF n (x / 256) + bb2 (bb1 (x % 256))) % 16 = bb2 (bb1 (x % 256)) % 16 := by omega
    rw [h2]; exact this
theorem fF_s (n x : Nat) : fF (n + 1) x = 256 * fF n (x / 256) + pb (x % 256) := by
  have e : x = 256 * (x / 256) + x % 256 := by omega
  have ha : x % 256 < 256 := by omega
  show t3 (256 * mk8 15 n + 15) (gF (n + 1) x) = _
  have e2 : gF (n + 1) x = 256 * gF n (x / 256) + bb2 (bb1 (x % 256)) := (congrArg (gF (n + 1)) e).trans (gF_s _ _ ha)
  rw [e2]
  obtain ⟨q1, q2, q3⟩ := bf2b ⟨x % 256, ha⟩
  have q4 := gF_lo n (x / 256)
  have q5 := bf3 ⟨x % 256, ha⟩ ⟨gF n (x / 256) % 16, by omega⟩
  simp only at q1 q2 q3 q5
  unfold t3
  have e3 : 256 * gF n (x / 256) + bb2 (bb1 (x % 256)) + (256 * gF n (x / 256) + bb2 (bb1 (x % 256))) / 16 = 256 * (gF n (x / 256) + gF n (x / 256) / 16) + (bb2 (bb1 (x % 256)) + bb2 (bb1 (x % 256)) / 16 + 16 * (gF n (x / 256) % 16)) := by omega
  rw [e3, land_s _ _ (by omega) (by omega), q5]; rfl
theorem fF_0 (x : Nat) : fF 0 x = 0 := by
  show (gF 0 x + gF 0 x / 16) &&& 0 = 0
  exact Nat.and_zero _
theorem pb_le (a : Nat) (ha : a < 256) : pb a ≤ 8 := by rw [bf4 ⟨a, ha⟩]; exact cnt_le _ 8
theorem bit_256 (x i : Nat) : bitN x (8 + i) = bitN (x / 256) i := by
  unfold bitN
  rw [Nat.add_comm, Nat.testBit_add]
theorem bit_lo (x i : Nat) (hi : i < 8) : bitN x i = bitN (x % 256) i := by
  unfold bitN
  rw [show (256 : Nat) = 2 ^ 8 from rfl, Nat.testBit_mod_two_pow, decide_eq_true hi, Bool.true_and]
theorem cnt_256 (x n : Nat) : cntB (bitN x) (8 + n) = pb (x % 256) + cntB (bitN (x / 256)) n := by
  rw [cnt_add, bf4 ⟨x % 256, by omega⟩]
  congr 1
  · exact cnt_congr 8 (fun i hi => bit_lo x i hi)
  · exact cnt_congr n (fun i _ => bit_256 x i)
theorem cnt_32 (x : Nat) : cntB (bitN x) 32 = pb (x % 256) + (pb (x / 256 % 256) + (pb (x / 256 / 256 % 256) + pb (x / 256 / 256 / 256 % 256))) := by
  rw [show 32 = 8 + (8 + (8 + (8 + 0))) from rfl, cnt_256, cnt_256, cnt_256, cnt_256]; rfl
theorem cnt_64 (x : Nat) : cntB (bitN x) 64 = pb (x % 256) + (pb (x / 256 % 256) + (pb (x / 256 / 256 % 256) + (pb (x / 256 / 256 / 256 % 256) + (pb (x / 256 / 256 / 256 / 256 % 256) + (pb (x / 256 / 256 / 256 / 256 / 256 % 256) + (pb (x / 256 / 256 / 256 / 256 / 256 / 256 % 256) + pb (x / 256 / 256 / 256 / 256 / 256 / 256 / 256 % 256))))))) := by
  rw [show 64 = 8 + (8 + (8 + (8 + (8 + (8 + (8 + (8 + 0))))))) from rfl, cnt_256, cnt_256, cnt_256, cnt_256, cnt_256, cnt_256, cnt_256, cnt_256]; rfl
theorem fF_4 (x : Nat) : fF 4 x = 256 * (256 * (256 * pb (x / 256 / 256 / 256 % 256) + pb (x / 256 / 256 % 256)) + pb (x / 256 % 256)) + pb (x % 256) := by
  rw [fF_s, fF_s, fF_s, fF_s, fF_0]; omega
theorem fF_8 (x : Nat) : fF 8 x = 256 * (256 * (256 * (256 * (256 * (256 * (256 * pb (x / 256 / 256 / 256 / 256 / 256 / 256 / 256 % 256) + pb (x / 256 / 256 / 256 / 256 / 256 / 256 % 256)) + pb (x / 256 / 256 / 256 / 256 / 256 % 256)) + pb (x / 256 / 256 / 256 / 256 % 256)) + pb (x / 256 / 256 / 256 % 256)) + pb (x / 256 / 256 % 256)) + pb (x / 256 % 256)) + pb (x % 256) := by
  rw [fF_s, fF_s, fF_s, fF_s, fF_s, fF_s, fF_s, fF_s, fF_0]; omega
/-- the sum of four digits -/
theorem fin4 {a b c d W : Nat} (ha : a ≤ 8) (hb : b ≤ 8) (hc : c ≤ 8) (hd : d ≤ 8) (hW : W = 256 * (256 * (256 * d + c) + b) + a) : W + W / 256 < 2 ^ 32 ∧ (W + W / 256) + (W + W / 256) / 65536 < 2 ^ 32 ∧ ((W + W / 256) + (W + W / 256) / 65536) % 64 = a + (b + (c + d)) := by
  have e1 : W / 256 = 256 * (256 * d + c) + b := by omega
  have e2 : W + W / 256 = (a + b) + 256 * (b + c) + 65536 * ((c + d) + 256 * d) := by omega
  have e3 : (W + W / 256) / 65536 = (c + d) + 256 * d := by omega
  refine ⟨by omega, by omega, by omega⟩
/-- the sum of eight digits -/
theorem fin8 {a b c d e f g h W : Nat} (ha : a ≤ 8) (hb : b ≤ 8) (hc : c ≤ 8) (hd : d ≤ 8) (he : e ≤ 8) (hf : f ≤ 8) (hg : g ≤ 8) (hh : h ≤ 8) (hW : W = 256 * (256 * (256 * (256 * (256 * (256 * (256 * h + g) + f) + e) + d) + c) + b) + a) :
    W + W / 256 < 2 ^ 64 ∧ (W + W / 256) + (W + W / 256) / 65536 < 2 ^ 64 ∧ ((W + W / 256) + (W + W / 256) / 65536) + ((W + W / 256) + (W + W / 256) / 65536) / 4294967296 < 2 ^ 64 ∧ (((W + W / 256) + (W + W / 256) / 65536) + ((W + W / 256) + (W + W / 256) / 65536) / 4294967296) % 128 = a + (b + (c + (d + (e + (f + (g + h)))))) := by
  have e1 : W / 256 = 256 * (256 * (256 * (256 * (256 * (256 * h + g) + f) + e) + d) + c) + b := by omega
  obtain ⟨X, hX⟩ : ∃ X, X = W + W / 256 := ⟨_, rfl⟩
  rw [← hX]
  have e2 : X = (a + b) + 256 * (b + c) + 65536 * ((c + d) + 256 * (d + e) + 65536 * ((e + f) + 256 * (f + g) + 65536 * ((g + h) + 256 * h))) := by omega
  have e3 : X / 65536 = (c + d) + 256 * (d + e) + 65536 * ((e + f) + 256 * (f + g) + 65536 * ((g + h) + 256 * h)) := by omega
  obtain ⟨Y, hY⟩ : ∃ Y, Y = X + X / 65536 := ⟨_, rfl⟩
  rw [← hY]
  have e4 : Y = (a + b + (c + d)) + 256 * (b + c + (d + e)) + 65536 * ((c + d + (e + f)) + 256 * (d + e + (f + g))) + 4294967296 * ((e + f + (g + h)) + 256 * (f + g + h) + 65536 * ((g + h) + 256 * h)) := by omega
  have e5 : Y / 4294967296 = (e + f + (g + h)) + 256 * (f + g + h) + 65536 * ((g + h) + 256 * h) := by omega
  have b1 : X < 2 ^ 64 := by rw [e2]; clear hW e1 hX e3 hY e4 e5 e2; omega
  have b2 : Y < 2 ^ 64 := by rw [e4]; clear hW e1 hX e2 e3 hY e5 b1 e4; omega
  have b3 : Y + Y / 4294967296 < 2 ^ 64 := by rw [e5, e4]; clear hW e1 hX e2 e3 hY e5 b1 b2 e4; omega
  refine ⟨b1, b2, b3, ?_⟩
  rw [e5, e4]
  clear hW e1 hX e2 e3 hY e5 b1 b2 b3 e4
  omega
/-! the same on the machine's ints and longs -/
theorem pcI_bv (x : Int32) : (pcI x).toBitVec.toNat = cntB (bitN x.toBitVec.toNat) 32 := by
  have hx := x.toBitVec.isLt
  obtain ⟨X, hX⟩ : ∃ X, X = x.toBitVec.toNat := ⟨_, rfl⟩
  rw [← hX] at hx ⊢
  have m1 : mk8 85 4 = 1431655765 := by decide
  have m2 : mk8 51 4 = 858993459 := by decide
  have m3 : mk8 15 4 = 252645135 := by decide
  have u : ∀ (a : Int32), (ush a 1).toBitVec.toNat = a.toBitVec.toNat / 2 ∧ (ush a 2).toBitVec.toNat = a.toBitVec.toNat / 4 ∧ (ush a 4).toBitVec.toNat = a.toBitVec.toNat / 16 ∧ (ush a 8).toBitVec.toNat = a.toBitVec.toNat / 256 ∧ (ush a 16).toBitVec.toNat = a.toBitVec.toNat / 65536 := by
    intro a
    refine ⟨?_, ?_, ?_, ?_, ?_⟩
    · show (a.toBitVec >>> 1).toNat = _
      rw [BitVec.toNat_ushiftRight, Nat.shiftRight_eq_div_pow]
    · show (a.toBitVec >>> 2).toNat = _
      rw [BitVec.toNat_ushiftRight, Nat.shiftRight_eq_div_pow]
    · show (a.toBitVec >>> 4).toNat = _
      rw [BitVec.toNat_ushiftRight, Nat.shiftRight_eq_div_pow]
    · show (a.toBitVec >>> 8).toNat = _
      rw [BitVec.toNat_ushiftRight, Nat.shiftRight_eq_div_pow]
    · show (a.toBitVec >>> 16).toNat = _
      rw [BitVec.toNat_ushiftRight, Nat.shiftRight_eq_div_pow]
  have h1 : (pc1 x).toBitVec.toNat = t1 (mk8 85 4) X := by
    show (x.toBitVec - ((ush x 1).toBitVec &&& 1431655765#32)).toNat = _
    have q : ((ush x 1).toBitVec &&& 1431655765#32).toNat = (X / 2) &&& mk8 85 4 := by
      rw [BitVec.toNat_and, (u x).1, ← hX, m1]; rfl
    have l : (X / 2) &&& mk8 85 4 ≤ X := Nat.le_trans Nat.and_le_left (by omega)
    rw [BitVec.toNat_sub, q, ← hX]
    unfold t1
    omega
  have l1 : t1 (mk8 85 4) X < 2 ^ 32 := by rw [← h1]; exact (pc1 x).toBitVec.isLt
  have g0 : gF 4 X = t2 (mk8 51 4) (t1 (mk8 85 4) X) := rfl
  have b4 : ∀ y : Nat, pb (y % 256) ≤ 8 := fun y => pb_le _ (by omega)
  have gb : gF 4 X ≤ 1717986918 := by
    rw [g0]
    unfold t2
    rw [m2]
    have a1 : t1 (mk8 85 4) X &&& 858993459 ≤ 858993459 := Nat.and_le_right
    have a2 : t1 (mk8 85 4) X / 4 &&& 858993459 ≤ 858993459 := Nat.and_le_right
    omega
  have h2 : (pc2 (pc1 x)).toBitVec.toNat = gF 4 X := by
    show (((pc1 x).toBitVec &&& 858993459#32) + ((ush (pc1 x) 2).toBitVec &&& 858993459#32)).toNat = _
    rw [BitVec.toNat_add, BitVec.toNat_and, BitVec.toNat_and, (u (pc1 x)).2.1, h1]
    have e : (t1 (mk8 85 4) X &&& (858993459#32).toNat) + (t1 (mk8 85 4) X / 4 &&& (858993459#32).toNat) = gF 4 X := by rw [g0]; unfold t2; rw [m2]; rfl
    rw [e]; exact Nat.mod_eq_of_lt (by omega)
  have h3 : (pc3 (pc2 (pc1 x))).toBitVec.toNat = fF 4 X := by
    show (((pc2 (pc1 x)).toBitVec + (ush (pc2 (pc1 x)) 4).toBitVec) &&& 252645135#32).toNat = _
    rw [BitVec.toNat_and, BitVec.toNat_add, (u (pc2 (pc1 x))).2.2.1, h2, Nat.mod_eq_of_lt (by omega)]
    unfold fF t3
    rw [m3]; rfl
  obtain ⟨f1, f2, f3⟩ := fin4 (b4 X) (b4 (X / 256)) (b4 (X / 256 / 256)) (b4 (X / 256 / 256 / 256)) (fF_4 X)
  have h4 : (pc4 (pc3 (pc2 (pc1 x)))).toBitVec.toNat = fF 4 X + fF 4 X / 256 := by
    show ((pc3 (pc2 (pc1 x))).toBitVec + (ush (pc3 (pc2 (pc1 x))) 8).toBitVec).toNat = _
    rw [BitVec.toNat_add, (u (pc3 (pc2 (pc1 x)))).2.2.2.1, h3]; exact Nat.mod_eq_of_lt f1
  have h5 : (pc5 (pc4 (pc3 (pc2 (pc1 x))))).toBitVec.toNat = (fF 4 X + fF 4 X / 256) + (fF 4 X + fF 4 X / 256) / 65536 := by
    show ((pc4 (pc3 (pc2 (pc1 x)))).toBitVec + (ush (pc4 (pc3 (pc2 (pc1 x)))) 16).toBitVec).toNat = _
    rw [BitVec.toNat_add, (u (pc4 (pc3 (pc2 (pc1 x))))).2.2.2.2, h4]; exact Nat.mod_eq_of_lt f2
  show ((pc5 (pc4 (pc3 (pc2 (pc1 x))))).toBitVec &&& 63#32).toNat = _
  rw [BitVec.toNat_and, h5, cnt_32, ← f3]
  exact Nat.and_two_pow_sub_one_eq_mod _ 6
theorem nI_bv {n : Nat} (h : n < 2 ^ 31) : (nI n).toBitVec.toNat = n := by
  show (BitVec.ofNat 32 n).toNat = n
  rw [BitVec.toNat_ofNat]; exact Nat.mod_eq_of_lt (by omega)
theorem pcI_nI (x : Int32) : pcI x = nI (cntB (tb x) 32) := by
  apply Int32.toBitVec_inj.mp
  apply BitVec.eq_of_toNat_eq
  have h := cnt_le (tb x) 32
  rw [pcI_bv, nI_bv (by omega)]
  rfl
def uL (a : Int64) (b : Int32) : Int64 := (a.toUInt64 >>> (Int64.toUInt64 (Int32.toInt64 b) &&& Int64.toUInt64 63)).toInt64
def pl1 (a : Int64) : Int64 := a - (uL a 1 &&& 6148914691236517205)
def pl2 (a : Int64) : Int64 := (a &&& 3689348814741910323) + (uL a 2 &&& 3689348814741910323)
def pl3 (a : Int64) : Int64 := (a + uL a 4) &&& 1085102592571150095
def pl4 (a : Int64) : Int64 := a + uL a 8
def pl5 (a : Int64) : Int64 := a + uL a 16
def pl6 (a : Int64) : Int64 := a + uL a 32
def pcL (a : Int64) : Int32 := Int64.toInt32 (pl6 (pl5 (pl4 (pl3 (pl2 (pl1 a)))))) &&& 127
theorem pcL_bv (x : Int64) : (pcL x).toBitVec.toNat = cntB (bitN x.toBitVec.toNat) 64 := by
  have hx := x.toBitVec.isLt
  obtain ⟨X, hX⟩ : ∃ X, X = x.toBitVec.toNat := ⟨_, rfl⟩
  rw [← hX] at hx ⊢
  have m1 : mk8 85 8 = 6148914691236517205 := by decide
  have m2 : mk8 51 8 = 3689348814741910323 := by decide
  have m3 : mk8 15 8 = 1085102592571150095 := by decide
  have u : ∀ (a : Int64), (uL a 1).toBitVec.toNat = a.toBitVec.toNat / 2 ∧ (uL a 2).toBitVec.toNat = a.toBitVec.toNat / 4 ∧ (uL a 4).toBitVec.toNat = a.toBitVec.toNat / 16 ∧ (uL a 8).toBitVec.toNat = a.toBitVec.toNat / 256 ∧ (uL a 16).toBitVec.toNat = a.toBitVec.toNat / 65536 ∧ (uL a 32).toBitVec.toNat = a.toBitVec.toNat / 4294967296 := by
    intro a
    refine ⟨?_, ?_, ?_, ?_, ?_, ?_⟩
    · show (a.toBitVec >>> 1).toNat = _
      rw [BitVec.toNat_ushiftRight, Nat.shiftRight_eq_div_pow]
    · show (a.toBitVec >>> 2).toNat = _
      rw [BitVec.toNat_ushiftRight, Nat.shiftRight_eq_div_pow]
    · show (a.toBitVec >>> 4).toNat = _
      rw [BitVec.toNat_ushiftRight, Nat.shiftRight_eq_div_pow]
    · show (a.toBitVec >>> 8).toNat = _
      rw [BitVec.toNat_ushiftRight, Nat.shiftRight_eq_div_pow]
    · show (a.toBitVec >>> 16).toNat = _
      rw [BitVec.toNat_ushiftRight, Nat.shiftRight_eq_div_pow]
    · show (a.toBitVec >>> 32).toNat = _
      rw [BitVec.toNat_ushiftRight, Nat.shiftRight_eq_div_pow]
  have h1 : (pl1 x).toBitVec.toNat = t1 (mk8 85 8) X := by
    show (x.toBitVec - ((uL x 1).toBitVec &&& 6148914691236517205#64)).toNat = _
    have q : ((uL x 1).toBitVec &&& 6148914691236517205#64).toNat = (X / 2) &&& mk8 85 8 := by
      rw [BitVec.toNat_and, (u x).1, ← hX, m1]; rfl
    have l : (X / 2) &&& mk8 85 8 ≤ X := Nat.le_trans Nat.and_le_left (by omega)
    rw [BitVec.toNat_sub, q, ← hX]
    unfold t1
    omega
  have l1 : t1 (mk8 85 8) X < 2 ^ 64 := by rw [← h1]; exact (pl1 x).toBitVec.isLt
  have g0 : gF 8 X = t2 (mk8 51 8) (t1 (mk8 85 8) X) := rfl
  have b4 : ∀ y : Nat, pb (y % 256) ≤ 8 := fun y => pb_le _ (by omega)
  have gb : gF 8 X ≤ 7378697629483820646 := by
    rw [g0]
    unfold t2
    rw [m2]
    have a1 : t1 (mk8 85 8) X &&& 3689348814741910323 ≤ 3689348814741910323 := Nat.and_le_right
    have a2 : t1 (mk8 85 8) X / 4 &&& 3689348814741910323 ≤ 3689348814741910323 := Nat.and_le_right
    omega
  have h2 : (pl2 (pl1 x)).toBitVec.toNat = gF 8 X := by
    show (((pl1 x).toBitVec &&& 3689348814741910323#64) + ((uL (pl1 x) 2).toBitVec &&& 3689348814741910323#64)).toNat = _
    rw [BitVec.toNat_add, BitVec.toNat_and, BitVec.toNat_and, (u (pl1 x)).2.1, h1]
    have e : (t1 (mk8 85 8) X &&& (3689348814741910323#64).toNat) + (t1 (mk8 85 8) X / 4 &&& (3689348814741910323#64).toNat) = gF 8 X := by rw [g0]; unfold t2; rw [m2]; rfl
    rw [e]; exact Nat.mod_eq_of_lt (by omega)
  have h3 : (pl3 (pl2 (pl1 x))).toBitVec.toNat = fF 8 X := by
    show (((pl2 (pl1 x)).toBitVec + (uL (pl2 (pl1 x)) 4).toBitVec) &&& 1085102592571150095#64).toNat = _
    rw [BitVec.toNat_and, BitVec.toNat_add, (u (pl2 (pl1 x))).2.2.1, h2, Nat.mod_eq_of_lt (by omega)]
    unfold fF t3
    rw [m3]; rfl
  obtain ⟨f1, f2, f3, f4⟩ := fin8 (b4 X) (b4 (X / 256)) (b4 (X / 256 / 256)) (b4 (X / 256 / 256 / 256)) (b4 (X / 256 / 256 / 256 / 256)) (b4 (X / 256 / 256 / 256 / 256 / 256)) (b4 (X / 256 / 256 / 256 / 256 / 256 / 256)) (b4 (X / 256 / 256 / 256 / 256 / 256 / 256 / 256)) (fF_8 X)
  have h4 : (pl4 (pl3 (pl2 (pl1 x)))).toBitVec.toNat = fF 8 X + fF 8 X / 256 := by
    show ((pl3 (pl2 (pl1 x))).toBitVec + (uL (pl3 (pl2 (pl1 x))) 8).toBitVec).toNat = _
    rw [BitVec.toNat_add, (u (pl3 (pl2 (pl1 x)))).2.2.2.1, h3]; exact Nat.mod_eq_of_lt f1
  have h5 : (pl5 (pl4 (pl3 (pl2 (pl1 x))))).toBitVec.toNat = (fF 8 X + fF 8 X / 256) + (fF 8 X + fF 8 X / 256) / 65536 := by
    show ((pl4 (pl3 (pl2 (pl1 x)))).toBitVec + (uL (pl4 (pl3 (pl2 (pl1 x)))) 16).toBitVec).toNat = _
    rw [BitVec.toNat_add, (u (pl4 (pl3 (pl2 (pl1 x))))).2.2.2.2.1, h4]; exact Nat.mod_eq_of_lt f2
  have h6 : (pl6 (pl5 (pl4 (pl3 (pl2 (pl1 x)))))).toBitVec.toNat = ((fF 8 X + fF 8 X / 256) + (fF 8 X + fF 8 X / 256) / 65536) + ((fF 8 X + fF 8 X / 256) + (fF 8 X + fF 8 X / 256) / 65536) / 4294967296 := by
    show ((pl5 (pl4 (pl3 (pl2 (pl1 x))))).toBitVec + (uL (pl5 (pl4 (pl3 (pl2 (pl1 x))))) 32).toBitVec).toNat = _
    rw [BitVec.toNat_add, (u (pl5 (pl4 (pl3 (pl2 (pl1 x)))))).2.2.2.2.2, h5]; exact Nat.mod_eq_of_lt f3
  show ((pl6 (pl5 (pl4 (pl3 (pl2 (pl1 x)))))).toBitVec.signExtend 32 &&& 127#32).toNat = _
  rw [BitVec.signExtend_eq_setWidth_of_le _ (by omega), BitVec.toNat_and, BitVec.toNat_setWidth, h6, cnt_64, ← f4]
  have e7 : ∀ Z : Nat, (Z % 2 ^ 32) &&& (127#32).toNat = Z % 128 := by
    intro Z
    show (Z % 2 ^ 32) &&& (2 ^ 7 - 1) = _
    rw [Nat.and_two_pow_sub_one_eq_mod]
    omega
  exact e7 _
theorem pcL_nI (x : Int64) : pcL x = nI (cntB (fun i => x.toBitVec.getLsbD i) 64) := by
  apply Int32.toBitVec_inj.mp
  apply BitVec.eq_of_toNat_eq
  have h := cnt_le (fun i => x.toBitVec.getLsbD i) 64
  rw [pcL_bv, nI_bv (by omega)]
  rfl
