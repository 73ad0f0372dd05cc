/-! methods on any state that keeps the invariant -/
set_option maxRecDepth 100000 in
set_option maxHeartbeats 40000000 in
theorem ge_J13_bitCount {G : vG} {l : Launch} (w : VW) (a : Int64) : Sp G l yJ13_bitCount_95d88 cJ13_bitCount_95d88 2 (some .int) 0 0 0 [.long a] (w) (QI (fun x w2 => w2 = w ∧ x = pcL a)) := by
  refine Sp_of_R [(some (.long a)), none] [] rfl (by simp) rfl (Nat.le_of_ble_eq_true rfl) ?_
  refine R_lload_n (pc := 0) dJ13_bitCount_95d88_0 rfl rfl ?_
  refine R_lload_n (pc := 1) dJ13_bitCount_95d88_1 rfl rfl ?_
  refine R_iconst (pc := 2) (v := 1) dJ13_bitCount_95d88_2 (by decide) ?_
  refine R_lushr (pc := 3) dJ13_bitCount_95d88_3 ?_
  refine R_ldc2 (pc := 4) w_382c dJ13_bitCount_95d88_4 ?_
  refine R_land (pc := 7) dJ13_bitCount_95d88_7 ?_
  refine R_lsub (pc := 8) dJ13_bitCount_95d88_8 ?_
  refine st_2_0_l_x (pc := 9) dJ13_bitCount_95d88_9 ?_
  refine R_lload_n (pc := 10) dJ13_bitCount_95d88_10 rfl rfl ?_
  refine R_ldc2 (pc := 11) w_383c dJ13_bitCount_95d88_11 ?_
  refine R_land (pc := 14) dJ13_bitCount_95d88_14 ?_
  refine R_lload_n (pc := 15) dJ13_bitCount_95d88_15 rfl rfl ?_
  refine R_iconst (pc := 16) (v := 2) dJ13_bitCount_95d88_16 (by decide) ?_
  refine R_lushr (pc := 17) dJ13_bitCount_95d88_17 ?_
  refine R_ldc2 (pc := 18) w_383c dJ13_bitCount_95d88_18 ?_
  refine R_land (pc := 21) dJ13_bitCount_95d88_21 ?_
  refine R_ladd (pc := 22) dJ13_bitCount_95d88_22 ?_
  refine st_2_0_l_x (pc := 23) dJ13_bitCount_95d88_23 ?_
  refine R_lload_n (pc := 24) dJ13_bitCount_95d88_24 rfl rfl ?_
  refine R_lload_n (pc := 25) dJ13_bitCount_95d88_25 rfl rfl ?_
  refine R_iconst (pc := 26) (v := 4) dJ13_bitCount_95d88_26 (by decide) ?_
  refine R_lushr (pc := 27) dJ13_bitCount_95d88_27 ?_
  refine R_ladd (pc := 28) dJ13_bitCount_95d88_28 ?_
  refine R_ldc2 (pc := 29) w_384c dJ13_bitCount_95d88_29 ?_
  refine R_land (pc := 32) dJ13_bitCount_95d88_32 ?_
  refine st_2_0_l_x (pc := 33) dJ13_bitCount_95d88_33 ?_
  refine R_lload_n (pc := 34) dJ13_bitCount_95d88_34 rfl rfl ?_
  refine R_lload_n (pc := 35) dJ13_bitCount_95d88_35 rfl rfl ?_
  refine R_bipush (pc := 36) (v := 8) dJ13_bitCount_95d88_36 (by decide) ?_
  refine R_lushr (pc := 38) dJ13_bitCount_95d88_38 ?_
  refine R_ladd (pc := 39) dJ13_bitCount_95d88_39 ?_
  refine st_2_0_l_x (pc := 40) dJ13_bitCount_95d88_40 ?_
  refine R_lload_n (pc := 41) dJ13_bitCount_95d88_41 rfl rfl ?_
  refine R_lload_n (pc := 42) dJ13_bitCount_95d88_42 rfl rfl ?_
  refine R_bipush (pc := 43) (v := 16) dJ13_bitCount_95d88_43 (by decide) ?_
  refine R_lushr (pc := 45) dJ13_bitCount_95d88_45 ?_
  refine R_ladd (pc := 46) dJ13_bitCount_95d88_46 ?_
  refine st_2_0_l_x (pc := 47) dJ13_bitCount_95d88_47 ?_
  refine R_lload_n (pc := 48) dJ13_bitCount_95d88_48 rfl rfl ?_
  refine R_lload_n (pc := 49) dJ13_bitCount_95d88_49 rfl rfl ?_
  refine R_bipush (pc := 50) (v := 32) dJ13_bitCount_95d88_50 (by decide) ?_
  refine R_lushr (pc := 52) dJ13_bitCount_95d88_52 ?_
  refine R_ladd (pc := 53) dJ13_bitCount_95d88_53 ?_
  refine st_2_0_l_x (pc := 54) dJ13_bitCount_95d88_54 ?_
  refine R_lload_n (pc := 55) dJ13_bitCount_95d88_55 rfl rfl ?_
  refine R_l2i (pc := 56) dJ13_bitCount_95d88_56 ?_
  refine R_bipush (pc := 57) (v := 127) dJ13_bitCount_95d88_57 (by decide) ?_
  refine R_iand (pc := 59) dJ13_bitCount_95d88_59 ?_
  exact R_iret (pc := 60) dJ13_bitCount_95d88_60 rfl rfl (Nat.zero_le _) (Nat.zero_le _) ⟨_, rfl, rfl, rfl⟩
def clC (a : Int32) : Int64 := (Int32.toInt64 ((255 <<< ((if 0 < (-a) then (-a) else 0) &&& 31)) &&& (255 >>> ((if 0 < a then a else 0) &&& 31))))
def clF (s t b : Int32) : Int32 := (if s < (t - b) then (t - b) else s)
def clT (b : Int32) : Int32 := (if (7 - b) < 7 then (7 - b) else 7)
/-! in how many cells two pictures are otherwise, by a shift; the fewest -/
def bitM (p : Int64) (a b : Int32) : Int32 := Int64.toInt32 ((p >>> (Int32.toInt64 ((8 * b) + a) &&& 63)) &&& 1)
def mvC (p : Int64) (b : Int32) : Int64 := if b < 0 then p <<< (Int32.toInt64 (-b) &&& 63) else uL p b
def clL (col : Int64) (l : Int32) : Nat → Int32 → Int64 → Int64
  | 0, _, acc => acc
  | q + 1, y, acc => if l < y then acc else clL col l q (y + 1) (acc ||| (col <<< (Int32.toInt64 (8 * y) &&& 63)))
theorem cl_out {col acc R : Int64} {l y : Int32} {q : Nat} (h : clL col l (q + 1) y acc = R) (hl : l < y) : acc = R := by
  have e : clL col l (q + 1) y acc = if l < y then acc else clL col l q (y + 1) (acc ||| (col <<< (Int32.toInt64 (8 * y) &&& 63))) := rfl
  rw [e, if_pos hl] at h; exact h
theorem cl_in {col acc R : Int64} {l y : Int32} {q : Nat} (h : clL col l (q + 1) y acc = R) (hl : ¬ l < y) : clL col l q (y + 1) (acc ||| (col <<< (Int32.toInt64 (8 * y) &&& 63))) = R := by
  have e : clL col l (q + 1) y acc = if l < y then acc else clL col l q (y + 1) (acc ||| (col <<< (Int32.toInt64 (8 * y) &&& 63))) := rfl
  rw [e, if_neg hl] at h; exact h
def cbC (s t a b : Int32) : Int64 := clL (clC a) (clT b) ((8 : Int) - (clF s t b).toInt).toNat (clF s t b) 0
theorem o2_rng : ∀ j : Fin 5, inR (nI j.val + (-2)) (-2) 2 := by unfold inR; decide +kernel
def ibG (sa sb d f : Int32) (i : Nat) : Bool := !decide (nI (i / 8) < sa) && (inB (nI (i % 8) + d) 0 7 && inB (nI (i / 8) + f) sb 7)
def dfG (pa pb : Int64) (sa sb d f : Int32) (i : Nat) : Bool := ibG sa sb d f i && !decide (bitM pa (nI (i % 8)) (nI (i / 8)) = bitM pb (nI (i % 8) + d) (nI (i / 8) + f))
/-- by one shift: in how many cells; -1: too few are in both -/
def ubF (pa pb : Int64) (sa sb d f : Int32) : Int32 := bif decide (nI (cntB (ibG sa sb d f) 64) < 24) then -1 else nI (cntB (dfG pa pb sa sb d f) 64)
def stepF (m v : Int32) : Int32 := bif decide (v = -1) then m else bif decide (m = -1) || decide (v < m) then v else m
def foF (u : Nat → Int32) : Nat → Int32
  | 0 => -1
  | n + 1 => stepF (foF u n) (u n)
theorem fo_s (u : Nat → Int32) (n : Nat) : foF u (n + 1) = stepF (foF u n) (u n) := rfl
theorem fo_congr {u v : Nat → Int32} : ∀ n : Nat, (∀ k, k < n → u k = v k) → foF u n = foF v n := by
  intro n
  induction n with
  | zero => intro _; rfl
  | succ n ih => intro h; rw [fo_s, fo_s, ih (fun k hk => h k (by omega)), h n (by omega)]
theorem st_skip {m v : Int32} (h : v = -1) : stepF m v = m := by unfold stepF; rw [decide_eq_true h]; rfl
theorem st_first {m v : Int32} (h : ¬ v = -1) (h2 : m = -1) : stepF m v = v := by unfold stepF; rw [decide_eq_false h, decide_eq_true h2]; rfl
theorem st_less {m v : Int32} (h : ¬ v = -1) (h2 : v < m) : stepF m v = v := by unfold stepF; rw [decide_eq_false h, decide_eq_true h2]; simp
theorem st_more {m v : Int32} (h : ¬ v = -1) (h2 : ¬ m = -1) (h3 : ¬ v < m) : stepF m v = m := by unfold stepF; rw [decide_eq_false h, decide_eq_false h2, decide_eq_false h3]; rfl
theorem st_min {m v : Int32} (h : ¬ v = -1) (h2 : ¬ m = -1) : (if v < m then v else m) = stepF m v := by
  by_cases q : v < m
  · rw [if_pos q, st_less h q]
  · rw [if_neg q, st_more h h2 q]
/-! counting, cell by cell -/
theorem ct_t {f : Nat → Bool} {g : Int32} {n : Nat} (h : g = nI (cntB f n)) (hf : f n = true) : g + 1 = nI (cntB f (n + 1)) := by
  show g + 1 = nI (cntB f n + (bif f n then 1 else 0))
  rw [hf, h]; exact nI_1 _
theorem ct_f {f : Nat → Bool} {g : Int32} {n : Nat} (h : g = nI (cntB f n)) (hf : f n = false) : g = nI (cntB f (n + 1)) := by
  show g = nI (cntB f n + (bif f n then 1 else 0))
  rw [hf]; exact h
theorem ct_f0 {f : Nat → Bool} {g : Int32} {n : Nat} (h : g = nI (cntB f n)) (hf : f n = false) : g + 0 = nI (cntB f (n + 1)) := (Int32.add_zero g).trans (ct_f h hf)
theorem dm8 {x y : Nat} (hx : x < 8) : (8 * y + x) / 8 = y ∧ (8 * y + x) % 8 = x := by omega
theorem ib_f1 {sa sb d f : Int32} {y x : Nat} (hx : x < 8) (h : ¬ inR (nI x + d) 0 7) : ibG sa sb d f (8 * y + x) = false := by
  unfold ibG
  rw [(dm8 hx).1, (dm8 hx).2, inB_f h]; simp
theorem ib_f2 {sa sb d f : Int32} {y x : Nat} (hx : x < 8) (h : ¬ inR (nI y + f) sb 7) : ibG sa sb d f (8 * y + x) = false := by
  unfold ibG
  rw [(dm8 hx).1, (dm8 hx).2, inB_f h]; simp
theorem ib_t {sa sb d f : Int32} {y x : Nat} (hx : x < 8) (hy : ¬ nI y < sa) (h : inR (nI x + d) 0 7) (h2 : inR (nI y + f) sb 7) : ibG sa sb d f (8 * y + x) = true := by
  unfold ibG
  rw [(dm8 hx).1, (dm8 hx).2, inB_t h, inB_t h2, decide_eq_false hy]; rfl
theorem df_f {pa pb : Int64} {sa sb d f : Int32} {i : Nat} (h : ibG sa sb d f i = false) : dfG pa pb sa sb d f i = false := by unfold dfG; rw [h]; rfl
theorem df_e {pa pb : Int64} {sa sb d f : Int32} {y x : Nat} (hx : x < 8) (h : bitM pa (nI x) (nI y) = bitM pb (nI x + d) (nI y + f)) : dfG pa pb sa sb d f (8 * y + x) = false := by
  unfold dfG
  rw [(dm8 hx).1, (dm8 hx).2, decide_eq_true h]; simp
theorem df_n {pa pb : Int64} {sa sb d f : Int32} {y x : Nat} (hx : x < 8) (h0 : ibG sa sb d f (8 * y + x) = true) (h : ¬ bitM pa (nI x) (nI y) = bitM pb (nI x + d) (nI y + f)) : dfG pa pb sa sb d f (8 * y + x) = true := by
  unfold dfG
  rw [h0, (dm8 hx).1, (dm8 hx).2, decide_eq_false h]; rfl
theorem ib_lo {sa sb d f : Int32} (hs : inR sa 0 4) : ∀ i : Nat, i < 8 * sa.toNatClampNeg → ibG sa sb d f i = false := by
  intro i hi
  obtain ⟨k, hk, rfl⟩ := nI_inR (M := 4) hs (by decide)
  rw [nI_clamp (by omega)] at hi
  unfold ibG
  rw [decide_eq_true (nI_lt (show i / 8 < k by omega) (by omega))]; rfl
theorem ib_0 {sa sb d f : Int32} (hs : inR sa 0 4) : 0 = nI (cntB (ibG sa sb d f) (8 * sa.toNatClampNeg)) := by rw [cnt_z _ (ib_lo hs)]; exact nI_0.symm
theorem df_0 {pa pb : Int64} {sa sb d f : Int32} (hs : inR sa 0 4) : 0 = nI (cntB (dfG pa pb sa sb d f) (8 * sa.toNatClampNeg)) := by rw [cnt_z _ (fun i hi => df_f (ib_lo hs i hi))]; exact nI_0.symm
theorem ge_sa {sa : Int32} {y : Nat} (hs : inR sa 0 4) (hy : y < 8) (h : sa.toNatClampNeg ≤ y) : ¬ nI y < sa := by
  obtain ⟨k, hk, rfl⟩ := nI_inR (M := 4) hs (by decide)
  rw [nI_clamp (by omega)] at h
  exact nI_nlt h (by omega)
theorem nI_o2 (j : Nat) : nI j + (-2) + 1 = nI (j + 1) + (-2) := by rw [← nI_1, Int32.add_assoc, Int32.add_comm (-2) 1, ← Int32.add_assoc]
