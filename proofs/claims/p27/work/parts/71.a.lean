/-! methods on any state that keeps the invariant -/
/-! the ground: walls, lines of sight, the order of landmarks -/
def wB (w : Int64) (x : Int32) : Bool := decide (lg_cmp ((w >>> (Int32.toInt64 x &&& 63)) &&& 1) 1 = 0)
def cdR : Nat → Int32 → Int32 → Int32
  | 0, u, _ => u
  | q + 1, u, v => if v = 0 then u else cdR q v (u - u / v * v)
theorem cd_step {t u v : Int32} {q : Nat} (h : t = cdR (q + 1) u v) (hn : ¬ v = 0) : t = cdR q v (u - u / v * v) := by
  rw [h]; show (if v = 0 then u else cdR q v (u - u / v * v)) = _; rw [if_neg hn]
theorem cd_end {t u v : Int32} {q : Nat} (h : t = cdR (q + 1) u v) (hn : v = 0) : u = t := by
  rw [h]; show _ = (if v = 0 then u else cdR q v (u - u / v * v)); rw [if_pos hn]
theorem cd_end0 {t u v : Int32} (h : t = cdR 0 u v) : u = t := by rw [h]; rfl
def absI (x : Int32) : Int32 := if 0 ≤ x then x else 0 - x
def gS (x y : Int32) : Int32 := cdR 64 (absI x) (absI y)
theorem cd_small : ∀ i j : Fin 8, cdR 64 (nI i.val) (nI j.val) = nI (Nat.gcd i.val j.val) ∧ cdR j.val (nI i.val) (nI j.val) = nI (Nat.gcd i.val j.val) ∧ Nat.gcd i.val j.val ≤ 7 := by decide +kernel
theorem abs_in {x : Int32} (h : inR x (-7) 7) : ∃ i : Nat, i < 8 ∧ absI x = nI i := by
  have h1 := ti_in h
  have z7 : (7 : Int32).toInt = 7 := by decide
  have zm : (-7 : Int32).toInt = -7 := by decide
  have z0 : (0 : Int32).toInt = 0 := by decide
  unfold absI
  by_cases hx : 0 ≤ x
  · rw [if_pos hx]
    obtain ⟨j, hj, e⟩ := nI_inR (M := 7) (show inR x 0 (nI 7) from ⟨Int32.not_lt.mpr hx, h.2⟩) (by decide)
    exact ⟨j, by omega, e⟩
  · rw [if_neg hx]
    have h2 := ti_nle hx
    have e := ti_sub (a := 0) (b := x) (l1 := 0) (h1 := 0) (l2 := -7) (h2 := 7) (l := -7) (h := 7) (inR_self 0) h (by decide) (by decide)
    obtain ⟨j, hj, e2⟩ := nI_inR (M := 7) (show inR (0 - x) 0 (nI 7) from of_ti (by omega) (by show _ ≤ (7 : Int32).toInt; omega)) (by decide)
    exact ⟨j, by omega, e2⟩
theorem gS_eq {x y : Int32} (hx : inR x (-7) 7) (hy : inR y (-7) 7) : ∃ k : Nat, k ≤ 7 ∧ gS x y = nI k ∧ cdR (absI y).toInt.toNat (absI x) (absI y) = nI k := by
  obtain ⟨i, hi, ei⟩ := abs_in hx
  obtain ⟨j, hj, ej⟩ := abs_in hy
  obtain ⟨c1, c2, c3⟩ := cd_small ⟨i, hi⟩ ⟨j, hj⟩
  refine ⟨Nat.gcd i j, c3, ?_, ?_⟩
  · unfold gS; rw [ei, ej]; exact c1
  · rw [ei, ej, nI_toInt (by omega)]; exact c2
theorem gS_in {x y : Int32} (hx : inR x (-7) 7) (hy : inR y (-7) 7) : inR (gS x y) 0 7 := by
  obtain ⟨k, hk, e, -⟩ := gS_eq hx hy
  rw [e]; exact inR_nI (M := 7) hk (by decide)
theorem gM_eq {x y : Int32} (hx : inR x (-7) 7) (hy : inR y (-7) 7) : cdR (absI y).toInt.toNat (absI x) (absI y) = gS x y := by
  obtain ⟨k, hk, e, e2⟩ := gS_eq hx hy
  rw [e, e2]
theorem abs_p {x : Int32} (h : 0 ≤ x) : absI x = x := if_pos h
theorem abs_n {x : Int32} (h : ¬ 0 ≤ x) : absI x = -x := by unfold absI; rw [if_neg h, Int32.zero_sub]
theorem rem8_s {b : Int32} (h : inR b 0 63) : inR (b - b / 8 * 8) 0 7 := by
  obtain ⟨j, hj, rfl⟩ := nI_inR (M := 63) h (by decide)
  have : ∀ k : Fin 64, inR (nI k.val - nI k.val / 8 * 8) 0 7 := by unfold inR; decide +kernel
  exact this ⟨j, by omega⟩
theorem div8_s {b : Int32} (h : inR b 0 63) : inR (b / 8) 0 7 := by
  obtain ⟨j, hj, rfl⟩ := nI_inR (M := 63) h (by decide)
  have : ∀ k : Fin 64, inR (nI k.val / 8) 0 7 := by unfold inR; decide +kernel
  exact this ⟨j, by omega⟩
/-- no wall on the way: at the places 1 .. n - 1 -/
def nwB (w : Int64) (p : Int32 → Int32) : Nat → Bool
  | 0 => true
  | n + 1 => nwB w p n && (decide (n = 0) || !wB w (p (nI n)))
theorem nw_1 (w : Int64) (p : Int32 → Int32) : nwB w p 1 = true := rfl
theorem nw_t {w : Int64} {p : Int32 → Int32} {j : Nat} (h : nwB w p j = true) (hb : ¬ lg_cmp ((w >>> (Int32.toInt64 (p (nI j)) &&& 63)) &&& 1) 1 = 0) : nwB w p (j + 1) = true := by
  unfold nwB; rw [h]; unfold wB; rw [decide_eq_false hb]; simp
theorem nw_f {w : Int64} {p : Int32 → Int32} {j : Nat} (hj : 1 ≤ j) (hb : lg_cmp ((w >>> (Int32.toInt64 (p (nI j)) &&& 63)) &&& 1) 1 = 0) : nwB w p (j + 1) = false := by
  unfold nwB; unfold wB; rw [decide_eq_true hb, decide_eq_false (show ¬ j = 0 by omega)]; simp
theorem nw_k {w : Int64} {p : Int32 → Int32} {j : Nat} (h : nwB w p j = false) : nwB w p (j + 1) = false := by
  unfold nwB; rw [h]; rfl
theorem nw_mono {w : Int64} {p : Int32 → Int32} {j : Nat} (h : nwB w p j = false) : ∀ n : Nat, j ≤ n → nwB w p n = false := by
  intro n
  induction n with
  | zero => intro h2; obtain rfl : j = 0 := by omega
            exact h
  | succ n ih =>
    intro h2
    by_cases e : j = n + 1
    · subst e; exact h
    · exact nw_k (ih (by omega))
theorem nw_end {w : Int64} {p : Int32 → Int32} {j : Nat} {g : Int32} (hj : 1 ≤ j) (hj2 : j ≤ 8) (h1 : nI j ≤ g ∨ j = 1) (h2 : g ≤ nI j) (hg : inR g 0 7) : nwB w p g.toNatClampNeg = nwB w p j := by
  obtain ⟨k, hk, rfl⟩ := nI_inR (M := 7) hg (by decide)
  rw [nI_clamp (by omega)]
  have h3 := (nI_leI (a := k) (b := j) (by omega) (by omega)).mp h2
  rcases h1 with h1 | rfl
  · have h4 := (nI_leI (a := j) (b := k) (by omega) (by omega)).mp h1
    rw [show k = j by omega]
  · rcases (show k = 0 ∨ k = 1 by omega) with rfl | rfl <;> rfl
theorem le_in {g : Int32} (hg : inR g 0 7) : g ≤ nI 8 := by
  obtain ⟨k, hk, rfl⟩ := nI_inR (M := 7) hg (by decide)
  exact nI_le (by omega) (by decide)
theorem one_le {g : Int32} (hg : inR g 0 7) (hn : ¬ g = 0) : nI 1 ≤ g := by
  obtain ⟨k, hk, rfl⟩ := nI_inR (M := 7) hg (by decide)
  have : k ≠ 0 := fun e => hn (by rw [e]; rfl)
  exact nI_le (by omega) (by omega)
theorem nw_0 {w : Int64} {p : Int32 → Int32} {g : Int32} (h : g = 0) : nwB w p g.toNatClampNeg = true := by rw [h]; rfl
abbrev dXt (a b : Int32) : Int32 := (b - b / 8 * 8) - (a - a / 8 * 8)
abbrev dYt (a b : Int32) : Int32 := (b / 8) - (a / 8)
theorem dX_in {a b : Int32} (ha : inR a 0 63) (hb : inR b 0 63) : inR (dXt a b) (-7) 7 := inR_sub (rem8_s hb) (rem8_s ha) (by decide) (by decide)
theorem dY_in {a b : Int32} (ha : inR a 0 63) (hb : inR b 0 63) : inR (dYt a b) (-7) 7 := inR_sub (div8_s hb) (div8_s ha) (by decide) (by decide)
def gAB (a b : Int32) : Int32 := gS (dXt a b) (dYt a b)
theorem gAB_in {a b : Int32} (ha : inR a 0 63) (hb : inR b 0 63) : inR (gAB a b) 0 7 := gS_in (dX_in ha hb) (dY_in ha hb)
/-- the way as the class goes it, and as the reference does -/
def pC (a b : Int32) : Int32 → Int32 := fun i => a + (i * ((8 * (dYt a b / gAB a b)) + (dXt a b / gAB a b)))
def pM (a b : Int32) : Int32 → Int32 := fun i => (a + (i * (dXt a b / gAB a b))) + ((8 * i) * (dYt a b / gAB a b))
theorem p_eq (a b : Int32) : pM a b = pC a b := by
  funext i
  unfold pM pC
  generalize dXt a b / gAB a b = e
  generalize dYt a b / gAB a b = d
  rw [Int32.mul_add, Int32.add_comm (i * (8 * d)), ← Int32.add_assoc, Int32.mul_comm 8 i, Int32.mul_assoc]
def seesB (w : Int64) (a b : Int32) : Bool := nwB w (pC a b) (gAB a b).toNatClampNeg
/-- left of, as seen from a -/
def lofB (a b c : Int32) : Bool := decide (0 < ((((b - b / 8 * 8) - (a - a / 8 * 8)) * ((c / 8) - (a / 8))) - (((b / 8) - (a / 8)) * ((c - c / 8 * 8) - (a - a / 8 * 8)))))
/-- the landmarks of a view, by their cells: all in order, from the one side on -/
def ordB (k : Int32) (L : Int32 → Int32) : Nat → Bool
  | 0 => true
  | n + 1 => ordB k L n && lofB k (L (nI n)) (L ((nI n) + 1))
theorem ord_t {k : Int32} {L : Int32 → Int32} {j : Nat} (h : ordB k L j = true) (hb : lofB k (L (nI j)) (L ((nI j) + 1)) = true) : ordB k L (j + 1) = true := by unfold ordB; rw [h, hb]; rfl
theorem ord_f {k : Int32} {L : Int32 → Int32} {j : Nat} (hb : lofB k (L (nI j)) (L ((nI j) + 1)) = false) : ordB k L (j + 1) = false := by unfold ordB; rw [hb, Bool.and_false]
theorem ord_mono {k : Int32} {L : Int32 → Int32} {j : Nat} (h : ordB k L j = false) : ∀ n : Nat, j ≤ n → ordB k L n = false := by
  intro n
  induction n with
  | zero => intro h2; obtain rfl : j = 0 := by omega
            exact h
  | succ n ih =>
    intro h2
    by_cases e : j = n + 1
    · subst e; exact h
    · unfold ordB; rw [ih (by omega)]; rfl
def saB (w : Int64) (k : Int32) (L : Int32 → Int32) : Nat → Bool
  | 0 => true
  | n + 1 => saB w k L n && seesB w k (L (nI n))
theorem sa_t {w : Int64} {k : Int32} {L : Int32 → Int32} {j : Nat} (h : saB w k L j = true) (hb : seesB w k (L (nI j)) = true) : saB w k L (j + 1) = true := by unfold saB; rw [h, hb]; rfl
theorem sa_f {w : Int64} {k : Int32} {L : Int32 → Int32} {j : Nat} (hb : seesB w k (L (nI j)) = false) : saB w k L (j + 1) = false := by unfold saB; rw [hb, Bool.and_false]
theorem sa_mono {w : Int64} {k : Int32} {L : Int32 → Int32} {j : Nat} (h : saB w k L j = false) : ∀ n : Nat, j ≤ n → saB w k L n = false := by
  intro n
  induction n with
  | zero => intro h2; obtain rfl : j = 0 := by omega
            exact h
  | succ n ih =>
    intro h2
    by_cases e : j = n + 1
    · subst e; exact h
    · unfold saB; rw [ih (by omega)]; rfl
/-- what is open: no wall, none of the landmarks -/
def opR (w : Int64) (L : Int32 → Int32) : Nat → Int64
  | 0 => w ^^^ -1
  | n + 1 => opR w L n &&& (((1 : Int64) <<< (Int32.toInt64 (L (nI n)) &&& 63)) ^^^ -1)
/-- a set of cells, made one by one -/
def stR (f : Nat → Bool) : Nat → Int64
  | 0 => 0
  | n + 1 => bif f n then stR f n ||| ((1 : Int64) <<< (Int32.toInt64 (nI n) &&& 63)) else stR f n
theorem st_t {f : Nat → Bool} {s : Int64} {j : Nat} (h : s = stR f j) (hf : f j = true) : s ||| ((1 : Int64) <<< (Int32.toInt64 (nI j) &&& 63)) = stR f (j + 1) := by unfold stR; rw [hf, h]; rfl
theorem st_f {f : Nat → Bool} {s : Int64} {j : Nat} (h : s = stR f j) (hf : f j = false) : s = stR f (j + 1) := by unfold stR; rw [hf, h]; rfl
theorem st_f0 {f : Nat → Bool} {s : Int64} {j : Nat} (h : s = stR f j) (hf : f j = false) : s ||| 0 = stR f (j + 1) := by rw [Int64.or_zero]; exact st_f h hf
theorem st_congr {f g : Nat → Bool} : ∀ n : Nat, (∀ k, k < n → f k = g k) → stR f n = stR g n := by
  intro n
  induction n with
  | zero => intro _; rfl
  | succ n ih => intro h; unfold stR; rw [ih (fun k hk => h k (by omega)), h n (by omega)]
theorem st_none {f : Nat → Bool} : ∀ n : Nat, (∀ k, k < n → f k = false) → stR f n = 0 := by
  intro n
  induction n with
  | zero => intro _; rfl
  | succ n ih => intro h; unfold stR; rw [h n (by omega), ih (fun k hk => h k (by omega))]; rfl
/-- is some landmark nowhere -/
def nowB (L : Int32 → Int32) : Nat → Bool
  | 0 => false
  | n + 1 => nowB L n || decide (L (nI n) = 64)
theorem now_f {L : Int32 → Int32} {j : Nat} (h : nowB L j = false) (hb : ¬ L (nI j) = 64) : nowB L (j + 1) = false := by unfold nowB; rw [h, decide_eq_false hb]; rfl
theorem now_t {L : Int32 → Int32} {j : Nat} (hb : L (nI j) = 64) : nowB L (j + 1) = true := by unfold nowB; rw [decide_eq_true hb, Bool.or_true]
theorem now_mono {L : Int32 → Int32} {j : Nat} (h : nowB L j = true) : ∀ n : Nat, j ≤ n → nowB L n = true := by
  intro n
  induction n with
  | zero => intro h2; obtain rfl : j = 0 := by omega
            exact h
  | succ n ih =>
    intro h2
    by_cases e : j = n + 1
    · subst e; exact h
    · unfold nowB; rw [ih (by omega)]; rfl
theorem now_all {L : Int32 → Int32} : ∀ n : Nat, nowB L n = false → ∀ k, k < n → ¬ L (nI k) = 64 := by
  intro n
  induction n with
  | zero => intro _ k hk; omega
  | succ n ih =>
    intro h k hk
    unfold nowB at h
    simp only [Bool.or_eq_false_iff, decide_eq_false_iff_not] at h
    by_cases e : k = n
    · subst e; exact h.2
    · exact ih h.1 k (by omega)

def LC (σ : Sg) (c : Int32) : Int32 → Int32 := fun i => σ.2.2.1 94 (Int32.toNatClampNeg (σ.2.2.1 (96 + (Int32.toNatClampNeg c)) (Int32.toNatClampNeg i)))
def LM (σ : Sg) (c : Int32) : Int32 → Int32 := fun i => σ.2.2.1 167 (Int32.toNatClampNeg (σ.2.2.1 169 (Int32.toNatClampNeg ((5 * c) + i))))
set_option maxRecDepth 100000 in
set_option maxHeartbeats 40000000 in
theorem ge_X2_isLeftOf {G : vG} {l : Launch} (w : VW) (a b c : Int32) : Sp G l yX2_isLeftOf cX2_isLeftOf 7 (some .boolean) 0 0 0 [.int a, .int b, .int c] (w) (QI (fun x w2 => w2 = w ∧ (lofB a b c = true ∧ x = 1 ∨ lofB a b c = false ∧ x = 0))) := by
  refine Sp_of_R [(some (.int a)), (some (.int b)), (some (.int c)), none, none, none, none] [none, none, none, none] rfl (by simp) rfl (Nat.le_of_ble_eq_true rfl) ?_
  refine R_iload_n (pc := 0) dX2_isLeftOf_0 rfl rfl ?_
  refine R_bipush (pc := 1) (v := 8) dX2_isLeftOf_1 (by decide) ?_
  refine R_irem (pc := 3) dX2_isLeftOf_3 (by decide) ?_
  refine R_iload_n (pc := 4) dX2_isLeftOf_4 rfl rfl ?_
  refine R_bipush (pc := 5) (v := 8) dX2_isLeftOf_5 (by decide) ?_
  refine R_irem (pc := 7) dX2_isLeftOf_7 (by decide) ?_
  refine R_isub (pc := 8) dX2_isLeftOf_8 ?_
  refine st_7_3_i_i (pc := 9) dX2_isLeftOf_9 ?_
  refine R_iload_n (pc := 10) dX2_isLeftOf_10 rfl rfl ?_
  refine R_bipush (pc := 11) (v := 8) dX2_isLeftOf_11 (by decide) ?_
  refine R_idiv (pc := 13) dX2_isLeftOf_13 (by decide) ?_
  refine R_iload_n (pc := 14) dX2_isLeftOf_14 rfl rfl ?_
  refine R_bipush (pc := 15) (v := 8) dX2_isLeftOf_15 (by decide) ?_
  refine R_idiv (pc := 17) dX2_isLeftOf_17 (by decide) ?_
  refine R_isub (pc := 18) dX2_isLeftOf_18 ?_
  refine st_7_4_i_i (pc := 19) dX2_isLeftOf_19 ?_
  refine R_iload_n (pc := 21) dX2_isLeftOf_21 rfl rfl ?_
  refine R_bipush (pc := 22) (v := 8) dX2_isLeftOf_22 (by decide) ?_
  refine R_irem (pc := 24) dX2_isLeftOf_24 (by decide) ?_
  refine R_iload_n (pc := 25) dX2_isLeftOf_25 rfl rfl ?_
  refine R_bipush (pc := 26) (v := 8) dX2_isLeftOf_26 (by decide) ?_
  refine R_irem (pc := 28) dX2_isLeftOf_28 (by decide) ?_
  refine R_isub (pc := 29) dX2_isLeftOf_29 ?_
  refine st_7_5_i_i (pc := 30) dX2_isLeftOf_30 ?_
  refine R_iload_n (pc := 32) dX2_isLeftOf_32 rfl rfl ?_
  refine R_bipush (pc := 33) (v := 8) dX2_isLeftOf_33 (by decide) ?_
  refine R_idiv (pc := 35) dX2_isLeftOf_35 (by decide) ?_
  refine R_iload_n (pc := 36) dX2_isLeftOf_36 rfl rfl ?_
  refine R_bipush (pc := 37) (v := 8) dX2_isLeftOf_37 (by decide) ?_
  refine R_idiv (pc := 39) dX2_isLeftOf_39 (by decide) ?_
  refine R_isub (pc := 40) dX2_isLeftOf_40 ?_
  refine st_7_6_i_i (pc := 41) dX2_isLeftOf_41 ?_
  refine R_iload_n (pc := 43) dX2_isLeftOf_43 rfl rfl ?_
  refine R_iload (pc := 44) dX2_isLeftOf_44 rfl ?_
  refine R_imul (pc := 46) dX2_isLeftOf_46 ?_
  refine R_iload (pc := 47) dX2_isLeftOf_47 rfl ?_
  refine R_iload (pc := 49) dX2_isLeftOf_49 rfl ?_
  refine R_imul (pc := 51) dX2_isLeftOf_51 ?_
  refine R_isub (pc := 52) dX2_isLeftOf_52 ?_
  refine R_ifle (pc := 53) 60 dX2_isLeftOf_53 (by decide) (fun b53_1 => ?_) (fun b53_1 => ?_)
  · skip
    refine R_iconst (pc := 60) (v := 0) dX2_isLeftOf_60 (by decide) ?_
    exact R_iret (pc := 61) dX2_isLeftOf_61 rfl rfl (Nat.zero_le _) (Nat.zero_le _) ⟨_, rfl, rfl, Or.inr ⟨decide_eq_false (Int32.not_lt.mpr b53_1), rfl⟩⟩
  · skip
    refine R_iconst (pc := 56) (v := 1) dX2_isLeftOf_56 (by decide) ?_
    refine R_goto (pc := 57) 61 dX2_isLeftOf_57 (by decide) ?_
    exact R_iret (pc := 61) dX2_isLeftOf_61 rfl rfl (Nat.zero_le _) (Nat.zero_le _) ⟨_, rfl, rfl, Or.inl ⟨decide_eq_true (Int32.not_le.mp b53_1), rfl⟩⟩
set_option maxRecDepth 100000 in
set_option maxHeartbeats 40000000 in
theorem ge_X8_commonDivisor {G : vG} {l : Launch} (w : VW) (a b : Int32) : Sp G l yX8_commonDivisor cX8_commonDivisor 6 (some .int) 0 0 0 [.int a, .int b] (w) (QI (fun x w2 => w2 = w ∧ x = cdR 64 a b)) := by
  refine Sp_of_R [(some (.int a)), (some (.int b)), none, none, none, none] [none, none, none, none] rfl (by simp) rfl (Nat.le_of_ble_eq_true rfl) ?_
  refine R_iload_n (pc := 0) dX8_commonDivisor_0 rfl rfl ?_
  refine st_6_2_i_i (pc := 1) dX8_commonDivisor_1 ?_
  refine R_iload_n (pc := 2) dX8_commonDivisor_2 rfl rfl ?_
  refine st_6_3_i_i (pc := 3) dX8_commonDivisor_3 ?_
  refine R_iconst (pc := 4) (v := 0) dX8_commonDivisor_4 (by decide) ?_
  refine st_6_4_i_i (pc := 5) dX8_commonDivisor_5 ?_
  have HL7 : ∀ (q j7 : Nat) (g2_7 : Int32) (g3_7 : Int32) (g5_7 : Option Value), j7 + q = 64 → 0 ≤ j7 → cdR 64 a b = cdR q g2_7 g3_7 → R G l yX8_commonDivisor cX8_commonDivisor 6 (some .int) 0 0 0 (QI (fun x w2 => w2 = w ∧ x = cdR 64 a b)) 7 [(some (.int a)), (some (.int b)), (some (.int g2_7)), (some (.int g3_7)), (some (.int (nI j7))), g5_7] [] (w) 0 0 := by
    intro q
    induction q with
    | zero =>
      intro j7 g2_7 g3_7 g5_7 hj hs7 hX7_0
      obtain rfl : j7 = 64 := by omega
      refine R_iload (pc := 7) dX8_commonDivisor_7 rfl ?_
      refine R_bipush (pc := 9) (v := 64) dX8_commonDivisor_9 (by decide) ?_
      refine R_icge (pc := 11) 34 dX8_commonDivisor_11 (by decide) (fun _ => ?_) (fun h => absurd (by decide) h)
      refine R_iload_n (pc := 34) dX8_commonDivisor_34 rfl rfl ?_
      exact R_iret (pc := 35) dX8_commonDivisor_35 rfl rfl (Nat.zero_le _) (Nat.zero_le _) ⟨_, rfl, rfl, (by first | exact cd_end0 hX7_0 | exact cd_end hX7_0 (by assumption))⟩
    | succ q ih7 =>
      intro j7 g2_7 g3_7 g5_7 hj hs7 hX7_0
      have hrg7 : inR (nI j7) 0 63 := inR_ix hs7 (show j7 < 64 by omega) (by decide) (by decide) (by decide)
      have hlt7 : j7 < 64 := by omega
      refine R_iload (pc := 7) dX8_commonDivisor_7 rfl ?_
      refine R_bipush (pc := 9) (v := 64) dX8_commonDivisor_9 (by decide) ?_
      refine R_icge (pc := 11) 34 dX8_commonDivisor_11 (by decide) (fun h => False.elim (by have q1 := ti_le h; have q2 := ti_in (show inR (nI j7) 0 63 from hrg7); have q3 := ti_in (show inR 64 64 64 from (inR_self _)); have z0 : (0 : Int32).toInt = 0 := (by decide);  have z1 : (63 : Int32).toInt = 63 := (by decide);  have z2 : (64 : Int32).toInt = 64 := (by decide); omega)) (fun _ => ?_)
      refine R_iload_n (pc := 14) dX8_commonDivisor_14 rfl rfl ?_
      refine R_ifeq (pc := 15) 34 dX8_commonDivisor_15 (by decide) (fun b15_3 => ?_) (fun b15_3 => ?_)
      · skip
        refine R_iload_n (pc := 34) dX8_commonDivisor_34 rfl rfl ?_
        exact R_iret (pc := 35) dX8_commonDivisor_35 rfl rfl (Nat.zero_le _) (Nat.zero_le _) ⟨_, rfl, rfl, (by first | exact cd_end0 hX7_0 | exact cd_end hX7_0 (by assumption))⟩
      · skip
        refine R_iload_n (pc := 18) dX8_commonDivisor_18 rfl rfl ?_
        refine R_iload_n (pc := 19) dX8_commonDivisor_19 rfl rfl ?_
        refine R_irem (pc := 20) dX8_commonDivisor_20 b15_3 ?_
        refine st_6_5_i_i (pc := 21) dX8_commonDivisor_21 ?_
        refine R_iload_n (pc := 23) dX8_commonDivisor_23 rfl rfl ?_
        refine st_6_2_i_i (pc := 24) dX8_commonDivisor_24 ?_
        refine R_iload (pc := 25) dX8_commonDivisor_25 rfl ?_
        refine st_6_3_i_i (pc := 27) dX8_commonDivisor_27 ?_
        refine inc_6_4_1_i (pc := 28) dX8_commonDivisor_28 ?_
        have r4 : inR ((nI j7) + 1) 1 64 := inR_add (show inR (nI j7) 0 63 from hrg7) (show inR 1 1 1 from (inR_self _)) (by decide) (by decide)
        have e5 := ti_add (l := 1) (h := 64) (show inR (nI j7) 0 63 from hrg7) (show inR 1 1 1 from (inR_self _)) (by decide) (by decide)
        refine R_goto (pc := 31) 7 dX8_commonDivisor_31 (by decide) ?_
        rw [nI_1]
        exact ih7 (j7 + 1) _ _ _ (by omega) (by omega) (cd_step hX7_0 b15_3)
  exact HL7 64 0 _ _ _ (by omega) (by omega) rfl
set_option maxRecDepth 100000 in
set_option maxHeartbeats 40000000 in
theorem ge_X2_sees {G : vG} {l : Launch} (σ : Sg) (a b : Int32) (hI : Inv σ) (ha : inR a 0 63) (hb : inR b 0 63) : Sp G l yX2_sees cX2_sees 8 (some .boolean) 1 0 0 [.ref 93, .int a, .int b] (WW σ) (QI (fun x w2 => w2 = WW σ ∧ (seesB (σ.2.1 9301) a b = true ∧ x = 1 ∨ seesB (σ.2.1 9301) a b = false ∧ x = 0))) := by
  refine Sp_of_R [(some (.ref 93)), (some (.int a)), (some (.int b)), none, none, none, none, none] [none, none, none, none, none] rfl (by simp) rfl (Nat.le_of_ble_eq_true rfl) ?_
  refine R_iload_n (pc := 0) dX2_sees_0 rfl rfl ?_
  refine R_bipush (pc := 1) (v := 8) dX2_sees_1 (by decide) ?_
  refine R_irem (pc := 3) dX2_sees_3 (by decide) ?_
  refine R_iload_n (pc := 4) dX2_sees_4 rfl rfl ?_
  refine R_bipush (pc := 5) (v := 8) dX2_sees_5 (by decide) ?_
  refine R_irem (pc := 7) dX2_sees_7 (by decide) ?_
  refine R_isub (pc := 8) dX2_sees_8 ?_
  have r1 : inR ((b - b / 8 * 8) - (a - a / 8 * 8)) (-7) 7 := inR_sub (show inR (b - b / 8 * 8) 0 7 from (rem8_s hb)) (show inR (a - a / 8 * 8) 0 7 from (rem8_s ha)) (by decide) (by decide)
  have e2 := ti_sub (l := (-7)) (h := 7) (show inR (b - b / 8 * 8) 0 7 from (rem8_s hb)) (show inR (a - a / 8 * 8) 0 7 from (rem8_s ha)) (by decide) (by decide)
  refine st_8_3_i_i (pc := 9) dX2_sees_9 ?_
  refine R_iload_n (pc := 10) dX2_sees_10 rfl rfl ?_
  refine R_bipush (pc := 11) (v := 8) dX2_sees_11 (by decide) ?_
  refine R_idiv (pc := 13) dX2_sees_13 (by decide) ?_
  refine R_iload_n (pc := 14) dX2_sees_14 rfl rfl ?_
  refine R_bipush (pc := 15) (v := 8) dX2_sees_15 (by decide) ?_
  refine R_idiv (pc := 17) dX2_sees_17 (by decide) ?_
  refine R_isub (pc := 18) dX2_sees_18 ?_
  have r3 : inR ((b / 8) - (a / 8)) (-7) 7 := inR_sub (show inR (b / 8) 0 7 from (div8_s hb)) (show inR (a / 8) 0 7 from (div8_s ha)) (by decide) (by decide)
  have e4 := ti_sub (l := (-7)) (h := 7) (show inR (b / 8) 0 7 from (div8_s hb)) (show inR (a / 8) 0 7 from (div8_s ha)) (by decide) (by decide)
  refine st_8_4_i_i (pc := 19) dX2_sees_19 ?_
  refine R_iload_n (pc := 21) dX2_sees_21 rfl rfl ?_
  refine R_mabs (pc := 22) wm_689 dX2_sees_22 (by decide) (Nat.le_of_ble_eq_true rfl) (Nat.zero_le _) (Nat.zero_le _) ?_
  refine R_iload (pc := 25) dX2_sees_25 rfl ?_
  refine R_mabs (pc := 27) wm_689 dX2_sees_27 (by decide) (Nat.le_of_ble_eq_true rfl) (Nat.zero_le _) (Nat.zero_le _) ?_
  refine k_X2_49 (pc := 30) (ge_X8_commonDivisor _ _ _) rfl (by decide) (Nat.le_refl _) (Nat.le_refl _) (Nat.le_of_ble_eq_true rfl) dX2_sees_30 (fun x w2 h => ?_)
  obtain ⟨rfl, rfl⟩ := h
  refine R_cv (gAB a b) rfl ?_
  refine st_8_5_i_i (pc := 33) dX2_sees_33 ?_
  refine R_iload (pc := 35) dX2_sees_35 rfl ?_
  refine R_ifne (pc := 37) 42 dX2_sees_37 (by decide) (fun b37_5 => ?_) (fun b37_5 => ?_)
  · skip
    refine R_bipush (pc := 42) (v := 8) dX2_sees_42 (by decide) ?_
    refine R_iload (pc := 44) dX2_sees_44 rfl ?_
    refine R_iload (pc := 46) dX2_sees_46 rfl ?_
    refine R_idiv (pc := 48) dX2_sees_48 b37_5 ?_
    refine R_imul (pc := 49) dX2_sees_49 ?_
    refine R_iload_n (pc := 50) dX2_sees_50 rfl rfl ?_
    refine R_iload (pc := 51) dX2_sees_51 rfl ?_
    refine R_idiv (pc := 53) dX2_sees_53 b37_5 ?_
    refine R_iadd (pc := 54) dX2_sees_54 ?_
    refine st_8_6_i_i (pc := 55) dX2_sees_55 ?_
    refine R_iconst (pc := 57) (v := 1) dX2_sees_57 (by decide) ?_
    refine st_8_7_i_i (pc := 58) dX2_sees_58 ?_
    have HL60 : ∀ (q j60 : Nat), j60 + q = 8 → 1 ≤ j60 → nwB (σ.2.1 9301) (pC a b) j60 = true → nI j60 ≤ (gAB a b) → R G l yX2_sees cX2_sees 8 (some .boolean) 1 0 0 (QI (fun x w2 => w2 = WW σ ∧ (seesB (σ.2.1 9301) a b = true ∧ x = 1 ∨ seesB (σ.2.1 9301) a b = false ∧ x = 0))) 60 [(some (.ref 93)), (some (.int a)), (some (.int b)), (some (.int ((b - b / 8 * 8) - (a - a / 8 * 8)))), (some (.int ((b / 8) - (a / 8)))), (some (.int (gAB a b))), (some (.int ((8 * (((b / 8) - (a / 8)) / (gAB a b))) + (((b - b / 8 * 8) - (a - a / 8 * 8)) / (gAB a b))))), (some (.int (nI j60)))] [] (WW σ) 0 0 := by
      intro q
      induction q with
      | zero =>
        intro j60 hj hs60 hX60_0 hX60_1
        obtain rfl : j60 = 8 := by omega
        refine R_iload (pc := 60) dX2_sees_60 rfl ?_
        refine R_iload (pc := 62) dX2_sees_62 rfl ?_
        refine R_icge (pc := 64) 94 dX2_sees_64 (by decide) (fun _ => ?_) (fun h => absurd (Int32.not_lt.mp (inR_up (gAB_in ha hb) (Int32.le_refl _) (by decide)).2) h)
        refine R_iconst (pc := 94) (v := 1) dX2_sees_94 (by decide) ?_
        exact R_iret (pc := 95) dX2_sees_95 rfl rfl (Nat.zero_le _) (Nat.zero_le _) ⟨_, rfl, rfl, Or.inl ⟨(nw_end (by omega) (by omega) (Or.inl hX60_1) (by first | assumption | exact le_in (gAB_in ha hb)) (gAB_in ha hb)).trans hX60_0, rfl⟩⟩
      | succ q ih60 =>
        intro j60 hj hs60 hX60_0 hX60_1
        have hrg60 : inR (nI j60) 1 7 := inR_ix hs60 (show j60 < 8 by omega) (by decide) (by decide) (by decide)
        have hlt60 : j60 < 8 := by omega
        refine R_iload (pc := 60) dX2_sees_60 rfl ?_
        refine R_iload (pc := 62) dX2_sees_62 rfl ?_
        refine R_icge (pc := 64) 94 dX2_sees_64 (by decide) (fun b64_7 => ?_) (fun b64_7 => ?_)
        · skip
          refine R_iconst (pc := 94) (v := 1) dX2_sees_94 (by decide) ?_
          exact R_iret (pc := 95) dX2_sees_95 rfl rfl (Nat.zero_le _) (Nat.zero_le _) ⟨_, rfl, rfl, Or.inl ⟨(nw_end (by omega) (by omega) (Or.inl hX60_1) (by first | assumption | exact le_in (gAB_in ha hb)) (gAB_in ha hb)).trans hX60_0, rfl⟩⟩
        · skip
          refine R_aload_n (pc := 67) dX2_sees_67 rfl rfl ?_
          refine g_X2_23 (pc := 68) (v := .long (σ.2.1 9301)) rfl dX2_sees_68 (c_93 _) rfl ?_
          refine R_iload_n (pc := 71) dX2_sees_71 rfl rfl ?_
          refine R_iload (pc := 72) dX2_sees_72 rfl ?_
          refine R_iload (pc := 74) dX2_sees_74 rfl ?_
          refine R_imul (pc := 76) dX2_sees_76 ?_
          refine R_iadd (pc := 77) dX2_sees_77 ?_
          refine R_lshr (pc := 78) dX2_sees_78 ?_
          refine R_lconst (pc := 79) (v := 1) dX2_sees_79 (by decide) ?_
          refine R_land (pc := 80) dX2_sees_80 ?_
          refine R_lconst (pc := 81) (v := 1) dX2_sees_81 (by decide) ?_
          refine R_lcmp (pc := 82) dX2_sees_82 ?_
          refine R_ifne (pc := 83) 88 dX2_sees_83 (by decide) (fun b83_8 => ?_) (fun b83_8 => ?_)
          · skip
            refine inc_8_7_1_i (pc := 88) dX2_sees_88 ?_
            have r9 : inR ((nI j60) + 1) 2 8 := inR_add (show inR (nI j60) 1 7 from hrg60) (show inR 1 1 1 from (inR_self _)) (by decide) (by decide)
            have e10 := ti_add (l := 2) (h := 8) (show inR (nI j60) 1 7 from hrg60) (show inR 1 1 1 from (inR_self _)) (by decide) (by decide)
            refine R_goto (pc := 91) 60 dX2_sees_91 (by decide) ?_
            rw [nI_1]
            exact ih60 (j60 + 1) (by omega) (by omega) (nw_t (p := (pC a b)) hX60_0 b83_8) (nI_sle (by omega) b64_7)
          · skip
            refine R_iconst (pc := 86) (v := 0) dX2_sees_86 (by decide) ?_
            exact R_iret (pc := 87) dX2_sees_87 rfl rfl (Nat.zero_le _) (Nat.zero_le _) ⟨_, rfl, rfl, Or.inr ⟨nw_mono (nw_f (p := (pC a b)) (by omega) b83_8) _ (nI_slt (by omega) b64_7), rfl⟩⟩
    exact HL60 7 1 (by omega) (by omega) (nw_1 _ _) (one_le (gAB_in ha hb) b37_5)
  · skip
    refine R_iconst (pc := 40) (v := 1) dX2_sees_40 (by decide) ?_
    exact R_iret (pc := 41) dX2_sees_41 rfl rfl (Nat.zero_le _) (Nat.zero_le _) ⟨_, rfl, rfl, Or.inl ⟨nw_0 b37_5, rfl⟩⟩
def ordT (k : Int32) (L : Int32 → Int32) (n : Int32) : Bool := ordB k L (Int32.toNatClampNeg (n - 1)) && (decide (n - 1 < 1) || lofB k (L 0) (L (n - 1)))
theorem cl_dec {n : Int32} {j : Nat} (hn : inR n 0 5) (hj : j ≤ 5) (h1 : nI j ≤ n - 1 ∨ j = 0) (h2 : n - 1 ≤ nI j) : (n - 1).toNatClampNeg = j := by
  obtain ⟨k, hk, rfl⟩ := nI_inR (M := 5) hn (by decide)
  rcases (show k = 0 ∨ 1 ≤ k by omega) with rfl | hk1
  · rcases h1 with h1 | rfl
    · exfalso
      have h3 := ti_le h1
      rw [nI_toInt (by omega)] at h3
      have : (nI 0 - 1).toInt = -1 := by decide
      omega
    · decide
  · obtain ⟨m, rfl⟩ : ∃ m, k = m + 1 := ⟨k - 1, by omega⟩
    rw [nI_pred] at h1 h2 ⊢
    rw [nI_clamp (by omega)]
    have h4 := (nI_leI (a := m) (b := j) (by omega) (by omega)).mp h2
    rcases h1 with h1 | rfl
    · have h3 := (nI_leI (a := j) (b := m) (by omega) (by omega)).mp h1
      omega
    · omega
theorem dec_le5 {n : Int32} (hn : inR n 0 5) : n - 1 ≤ nI 5 := by
  obtain ⟨k, hk, rfl⟩ := nI_inR (M := 5) hn (by decide)
  have : ∀ k : Fin 6, nI k.val - 1 ≤ nI 5 := by decide +kernel
  exact this ⟨k, by omega⟩
theorem dec_slt {n : Int32} {j : Nat} (hn : inR n 0 5) (hj : j < 5) (h : ¬ n - 1 ≤ nI j) : j + 1 ≤ (n - 1).toNatClampNeg := nI_slt (by omega) h
set_option maxRecDepth 100000 in
set_option maxHeartbeats 40000000 in
theorem ge_X2_isOrdered {G : vG} {l : Launch} (σ : Sg) (c k : Int32) (hI : Inv σ) (hc : inR c 0 19) : Sp G l yX2_isOrdered cX2_isOrdered 5 (some .boolean) 1 0 0 [.ref 93, .int c, .int k] (WW σ) (QI (fun x w2 => w2 = WW σ ∧ (ordT k (LC σ c) (σ.2.2.1 116 (Int32.toNatClampNeg c)) = true ∧ x = 1 ∨ ordT k (LC σ c) (σ.2.2.1 116 (Int32.toNatClampNeg c)) = false ∧ x = 0))) := by
  refine Sp_of_R [(some (.ref 93)), (some (.int c)), (some (.int k)), none, none] [none, none] rfl (by simp) rfl (Nat.le_of_ble_eq_true rfl) ?_
  refine R_aload_n (pc := 0) dX2_isOrdered_0 rfl rfl ?_
  refine g_X2_20 (pc := 1) (v := .ref 116) rfl dX2_isOrdered_1 (c_93 _) rfl ?_
  refine R_iload_n (pc := 4) dX2_isOrdered_4 rfl rfl ?_
  have hx1 : vp_in c 20 := (vp_of_inR hc (by decide))
  refine R_iaload (pc := 5) dX2_isOrdered_5 (c_116 _) hx1 ?_
  refine R_iconst (pc := 6) (v := 1) dX2_isOrdered_6 (by decide) ?_
  refine R_isub (pc := 7) dX2_isOrdered_7 ?_
  have r2 : inR ((σ.2.2.1 116 (Int32.toNatClampNeg c)) - 1) (-1) 4 := inR_sub (show inR (σ.2.2.1 116 (Int32.toNatClampNeg c)) 0 5 from (iva_116 hI _ (lt_of_vp hx1))) (show inR 1 1 1 from (inR_self _)) (by decide) (by decide)
  have e3 := ti_sub (l := (-1)) (h := 4) (show inR (σ.2.2.1 116 (Int32.toNatClampNeg c)) 0 5 from (iva_116 hI _ (lt_of_vp hx1))) (show inR 1 1 1 from (inR_self _)) (by decide) (by decide)
  refine st_5_3_i_i (pc := 8) dX2_isOrdered_8 ?_
  refine R_iconst (pc := 9) (v := 0) dX2_isOrdered_9 (by decide) ?_
  refine st_5_4_i_i (pc := 10) dX2_isOrdered_10 ?_
  have HL12 : ∀ (q j12 : Nat), j12 + q = 5 → 0 ≤ j12 → ordB k (LC σ c) j12 = true → (nI j12 ≤ ((σ.2.2.1 116 (Int32.toNatClampNeg c)) - 1) ∨ j12 = 0) → R G l yX2_isOrdered cX2_isOrdered 5 (some .boolean) 1 0 0 (QI (fun x w2 => w2 = WW σ ∧ (ordT k (LC σ c) (σ.2.2.1 116 (Int32.toNatClampNeg c)) = true ∧ x = 1 ∨ ordT k (LC σ c) (σ.2.2.1 116 (Int32.toNatClampNeg c)) = false ∧ x = 0))) 12 [(some (.ref 93)), (some (.int c)), (some (.int k)), (some (.int ((σ.2.2.1 116 (Int32.toNatClampNeg c)) - 1))), (some (.int (nI j12)))] [] (WW σ) 0 0 := by
    intro q
    induction q with
    | zero =>
      intro j12 hj hs12 hX12_0 hX12_1
      obtain rfl : j12 = 5 := by omega
      refine R_iload (pc := 12) dX2_isOrdered_12 rfl ?_
      refine R_iload_n (pc := 14) dX2_isOrdered_14 rfl rfl ?_
      refine R_icge (pc := 15) 63 dX2_isOrdered_15 (by decide) (fun _ => ?_) (fun h => absurd (Int32.not_lt.mp (inR_up r2 (Int32.le_refl _) (by decide)).2) h)
      refine R_iload_n (pc := 63) dX2_isOrdered_63 rfl rfl ?_
      refine R_iconst (pc := 64) (v := 1) dX2_isOrdered_64 (by decide) ?_
      refine R_iclt (pc := 65) 101 dX2_isOrdered_65 (by decide) (fun b65_5 => ?_) (fun b65_5 => ?_)
      · skip
        refine R_iconst (pc := 101) (v := 1) dX2_isOrdered_101 (by decide) ?_
        refine R_goto (pc := 102) 106 dX2_isOrdered_102 (by decide) ?_
        exact R_iret (pc := 106) dX2_isOrdered_106 rfl rfl (Nat.zero_le _) (Nat.zero_le _) ⟨_, rfl, rfl, Or.inl ⟨(by have e : ordB k (LC σ c) (Int32.toNatClampNeg ((σ.2.2.1 116 (Int32.toNatClampNeg c)) - 1)) = true := (by rw [cl_dec (iva_116 hI _ (clamp19 hc)) (by omega) hX12_1 (by first | assumption | exact dec_le5 (iva_116 hI _ (clamp19 hc)))]; exact hX12_0); unfold ordT; rw [e, decide_eq_true b65_5]; rfl), rfl⟩⟩
      · skip
        refine R_iload_n (pc := 68) dX2_isOrdered_68 rfl rfl ?_
        refine R_aload_n (pc := 69) dX2_isOrdered_69 rfl rfl ?_
        refine g_X2_9 (pc := 70) (v := .ref 94) rfl dX2_isOrdered_70 (c_93 _) rfl ?_
        refine R_aload_n (pc := 73) dX2_isOrdered_73 rfl rfl ?_
        refine g_X2_17 (pc := 74) (v := .ref 95) rfl dX2_isOrdered_74 (c_93 _) rfl ?_
        refine R_iload_n (pc := 77) dX2_isOrdered_77 rfl rfl ?_
        have hx6 : vp_in c 20 := (vp_of_inR hc (by decide))
        refine R_aaload (pc := 78) (b := 96 + (Int32.toNatClampNeg c)) dX2_isOrdered_78 (c_95 _) hx6 (if_pos (lt_of_vp hx6)) ?_
        refine R_iconst (pc := 79) (v := 0) dX2_isOrdered_79 (by decide) ?_
        have hx7 : vp_in 0 5 := (by unfold vp_in; decide)
        refine R_iaload (pc := 80) dX2_isOrdered_80 (r_95 _ _ (lt_of_vp hx6)) hx7 ?_
        have hx8 : vp_in (σ.2.2.1 (96 + (Int32.toNatClampNeg c)) (Int32.toNatClampNeg 0)) 8 := (vp_of_inR (ivr_96 hI _ _ (lt_of_vp hx6) (lt_of_vp hx7)) (by decide))
        refine R_iaload (pc := 81) dX2_isOrdered_81 (c_94 _) hx8 ?_
        refine R_aload_n (pc := 82) dX2_isOrdered_82 rfl rfl ?_
        refine g_X2_9 (pc := 83) (v := .ref 94) rfl dX2_isOrdered_83 (c_93 _) rfl ?_
        refine R_aload_n (pc := 86) dX2_isOrdered_86 rfl rfl ?_
        refine g_X2_17 (pc := 87) (v := .ref 95) rfl dX2_isOrdered_87 (c_93 _) rfl ?_
        refine R_iload_n (pc := 90) dX2_isOrdered_90 rfl rfl ?_
        have hx9 : vp_in c 20 := (vp_of_inR hc (by decide))
        refine R_aaload (pc := 91) (b := 96 + (Int32.toNatClampNeg c)) dX2_isOrdered_91 (c_95 _) hx9 (if_pos (lt_of_vp hx9)) ?_
        refine R_iload_n (pc := 92) dX2_isOrdered_92 rfl rfl ?_
        have hx10 : vp_in ((σ.2.2.1 116 (Int32.toNatClampNeg c)) - 1) 5 := (vp_ti (by have q0 := e3; have q1 := ti_nlt b65_5; have q2 := ti_in hc; have q3 := ti_in (iva_116 hI _ (lt_of_vp hx1)); have q4 := ti_in r2; have q5 := ti_in (ivr_96 hI _ _ (lt_of_vp hx6) (lt_of_vp hx7)); have z0 : (-1 : Int32).toInt = -1 := (by decide); have z1 : (0 : Int32).toInt = 0 := (by decide); have z2 : (1 : Int32).toInt = 1 := (by decide); have z3 : (116 : Int32).toInt = 116 := (by decide); have z4 : (19 : Int32).toInt = 19 := (by decide); have z5 : (4 : Int32).toInt = 4 := (by decide); have z6 : (5 : Int32).toInt = 5 := (by decide); have z7 : (7 : Int32).toInt = 7 := (by decide); omega) (by have q0 := e3; have q1 := ti_nlt b65_5; have q2 := ti_in hc; have q3 := ti_in (iva_116 hI _ (lt_of_vp hx1)); have q4 := ti_in r2; have q5 := ti_in (ivr_96 hI _ _ (lt_of_vp hx6) (lt_of_vp hx7)); have z0 : (-1 : Int32).toInt = -1 := (by decide); have z1 : (0 : Int32).toInt = 0 := (by decide); have z2 : (1 : Int32).toInt = 1 := (by decide); have z3 : (116 : Int32).toInt = 116 := (by decide); have z4 : (19 : Int32).toInt = 19 := (by decide); have z5 : (4 : Int32).toInt = 4 := (by decide); have z6 : (5 : Int32).toInt = 5 := (by decide); have z7 : (7 : Int32).toInt = 7 := (by decide); omega))
        refine R_iaload (pc := 93) dX2_isOrdered_93 (r_95 _ _ (lt_of_vp hx9)) hx10 ?_
        have hx11 : vp_in (σ.2.2.1 (96 + (Int32.toNatClampNeg c)) (Int32.toNatClampNeg ((σ.2.2.1 116 (Int32.toNatClampNeg c)) - 1))) 8 := (vp_of_inR (ivr_96 hI _ _ (lt_of_vp hx9) (lt_of_vp hx10)) (by decide))
        refine R_iaload (pc := 94) dX2_isOrdered_94 (c_94 _) hx11 ?_
        refine k_X2_36 (pc := 95) (ge_X2_isLeftOf _ _ _ _) rfl (by decide) (Nat.le_refl _) (Nat.le_refl _) (Nat.le_of_ble_eq_true rfl) dX2_isOrdered_95 (fun x w2 h => ?_)
        rcases h with ⟨rfl, ⟨h12, rfl⟩ | ⟨h12, rfl⟩⟩
        · skip
          refine R_ifeq (pc := 98) 105 dX2_isOrdered_98 (by decide) (fun h => absurd h (by decide)) (fun _ => ?_)
          refine R_iconst (pc := 101) (v := 1) dX2_isOrdered_101 (by decide) ?_
          refine R_goto (pc := 102) 106 dX2_isOrdered_102 (by decide) ?_
          exact R_iret (pc := 106) dX2_isOrdered_106 rfl rfl (Nat.zero_le _) (Nat.zero_le _) ⟨_, rfl, rfl, Or.inl ⟨(by have e : ordB k (LC σ c) (Int32.toNatClampNeg ((σ.2.2.1 116 (Int32.toNatClampNeg c)) - 1)) = true := (by rw [cl_dec (iva_116 hI _ (clamp19 hc)) (by omega) hX12_1 (by first | assumption | exact dec_le5 (iva_116 hI _ (clamp19 hc)))]; exact hX12_0); have e2 : lofB k ((LC σ c) 0) ((LC σ c) ((σ.2.2.1 116 (Int32.toNatClampNeg c)) - 1)) = true := h12; unfold ordT; rw [e, decide_eq_false b65_5, e2]; rfl), rfl⟩⟩
        · skip
          refine R_ifeq (pc := 98) 105 dX2_isOrdered_98 (by decide) (fun _ => ?_) (fun h => absurd (by decide) h)
          refine R_iconst (pc := 105) (v := 0) dX2_isOrdered_105 (by decide) ?_
          exact R_iret (pc := 106) dX2_isOrdered_106 rfl rfl (Nat.zero_le _) (Nat.zero_le _) ⟨_, rfl, rfl, Or.inr ⟨(by have e : ordB k (LC σ c) (Int32.toNatClampNeg ((σ.2.2.1 116 (Int32.toNatClampNeg c)) - 1)) = true := (by rw [cl_dec (iva_116 hI _ (clamp19 hc)) (by omega) hX12_1 (by first | assumption | exact dec_le5 (iva_116 hI _ (clamp19 hc)))]; exact hX12_0); have e2 : lofB k ((LC σ c) 0) ((LC σ c) ((σ.2.2.1 116 (Int32.toNatClampNeg c)) - 1)) = false := h12; unfold ordT; rw [e, decide_eq_false b65_5, e2]; rfl), rfl⟩⟩
    | succ q ih12 =>
      intro j12 hj hs12 hX12_0 hX12_1
      have hrg12 : inR (nI j12) 0 4 := inR_ix hs12 (show j12 < 5 by omega) (by decide) (by decide) (by decide)
      have hlt12 : j12 < 5 := by omega
      refine R_iload (pc := 12) dX2_isOrdered_12 rfl ?_
      refine R_iload_n (pc := 14) dX2_isOrdered_14 rfl rfl ?_
      refine R_icge (pc := 15) 63 dX2_isOrdered_15 (by decide) (fun b15_15 => ?_) (fun b15_15 => ?_)
      · skip
        refine R_iload_n (pc := 63) dX2_isOrdered_63 rfl rfl ?_
        refine R_iconst (pc := 64) (v := 1) dX2_isOrdered_64 (by decide) ?_
        refine R_iclt (pc := 65) 101 dX2_isOrdered_65 (by decide) (fun b65_16 => ?_) (fun b65_16 => ?_)
        · skip
          refine R_iconst (pc := 101) (v := 1) dX2_isOrdered_101 (by decide) ?_
          refine R_goto (pc := 102) 106 dX2_isOrdered_102 (by decide) ?_
          exact R_iret (pc := 106) dX2_isOrdered_106 rfl rfl (Nat.zero_le _) (Nat.zero_le _) ⟨_, rfl, rfl, Or.inl ⟨(by have e : ordB k (LC σ c) (Int32.toNatClampNeg ((σ.2.2.1 116 (Int32.toNatClampNeg c)) - 1)) = true := (by rw [cl_dec (iva_116 hI _ (clamp19 hc)) (by omega) hX12_1 (by first | assumption | exact dec_le5 (iva_116 hI _ (clamp19 hc)))]; exact hX12_0); unfold ordT; rw [e, decide_eq_true b65_16]; rfl), rfl⟩⟩
        · skip
          refine R_iload_n (pc := 68) dX2_isOrdered_68 rfl rfl ?_
          refine R_aload_n (pc := 69) dX2_isOrdered_69 rfl rfl ?_
          refine g_X2_9 (pc := 70) (v := .ref 94) rfl dX2_isOrdered_70 (c_93 _) rfl ?_
          refine R_aload_n (pc := 73) dX2_isOrdered_73 rfl rfl ?_
          refine g_X2_17 (pc := 74) (v := .ref 95) rfl dX2_isOrdered_74 (c_93 _) rfl ?_
          refine R_iload_n (pc := 77) dX2_isOrdered_77 rfl rfl ?_
          have hx17 : vp_in c 20 := (vp_of_inR hc (by decide))
          refine R_aaload (pc := 78) (b := 96 + (Int32.toNatClampNeg c)) dX2_isOrdered_78 (c_95 _) hx17 (if_pos (lt_of_vp hx17)) ?_
          refine R_iconst (pc := 79) (v := 0) dX2_isOrdered_79 (by decide) ?_
          have hx18 : vp_in 0 5 := (by unfold vp_in; decide)
          refine R_iaload (pc := 80) dX2_isOrdered_80 (r_95 _ _ (lt_of_vp hx17)) hx18 ?_
          have hx19 : vp_in (σ.2.2.1 (96 + (Int32.toNatClampNeg c)) (Int32.toNatClampNeg 0)) 8 := (vp_of_inR (ivr_96 hI _ _ (lt_of_vp hx17) (lt_of_vp hx18)) (by decide))
          refine R_iaload (pc := 81) dX2_isOrdered_81 (c_94 _) hx19 ?_
          refine R_aload_n (pc := 82) dX2_isOrdered_82 rfl rfl ?_
          refine g_X2_9 (pc := 83) (v := .ref 94) rfl dX2_isOrdered_83 (c_93 _) rfl ?_
          refine R_aload_n (pc := 86) dX2_isOrdered_86 rfl rfl ?_
          refine g_X2_17 (pc := 87) (v := .ref 95) rfl dX2_isOrdered_87 (c_93 _) rfl ?_
          refine R_iload_n (pc := 90) dX2_isOrdered_90 rfl rfl ?_
          have hx20 : vp_in c 20 := (vp_of_inR hc (by decide))
          refine R_aaload (pc := 91) (b := 96 + (Int32.toNatClampNeg c)) dX2_isOrdered_91 (c_95 _) hx20 (if_pos (lt_of_vp hx20)) ?_
          refine R_iload_n (pc := 92) dX2_isOrdered_92 rfl rfl ?_
          have hx21 : vp_in ((σ.2.2.1 116 (Int32.toNatClampNeg c)) - 1) 5 := (vp_ti (by have q0 := e3; have q1 := ti_le b15_15; have q2 := ti_nlt b65_16; have q3 := ti_in hc; have q4 := ti_in (iva_116 hI _ (lt_of_vp hx1)); have q5 := ti_in r2; have q6 := ti_in hrg12; have q7 := ti_in (ivr_96 hI _ _ (lt_of_vp hx17) (lt_of_vp hx18)); have z0 : (-1 : Int32).toInt = -1 := (by decide); have z1 : (0 : Int32).toInt = 0 := (by decide); have z2 : (1 : Int32).toInt = 1 := (by decide); have z3 : (116 : Int32).toInt = 116 := (by decide); have z4 : (19 : Int32).toInt = 19 := (by decide); have z5 : (4 : Int32).toInt = 4 := (by decide); have z6 : (5 : Int32).toInt = 5 := (by decide); have z7 : (7 : Int32).toInt = 7 := (by decide); omega) (by have q0 := e3; have q1 := ti_le b15_15; have q2 := ti_nlt b65_16; have q3 := ti_in hc; have q4 := ti_in (iva_116 hI _ (lt_of_vp hx1)); have q5 := ti_in r2; have q6 := ti_in hrg12; have q7 := ti_in (ivr_96 hI _ _ (lt_of_vp hx17) (lt_of_vp hx18)); have z0 : (-1 : Int32).toInt = -1 := (by decide); have z1 : (0 : Int32).toInt = 0 := (by decide); have z2 : (1 : Int32).toInt = 1 := (by decide); have z3 : (116 : Int32).toInt = 116 := (by decide); have z4 : (19 : Int32).toInt = 19 := (by decide); have z5 : (4 : Int32).toInt = 4 := (by decide); have z6 : (5 : Int32).toInt = 5 := (by decide); have z7 : (7 : Int32).toInt = 7 := (by decide); omega))
          refine R_iaload (pc := 93) dX2_isOrdered_93 (r_95 _ _ (lt_of_vp hx20)) hx21 ?_
          have hx22 : vp_in (σ.2.2.1 (96 + (Int32.toNatClampNeg c)) (Int32.toNatClampNeg ((σ.2.2.1 116 (Int32.toNatClampNeg c)) - 1))) 8 := (vp_of_inR (ivr_96 hI _ _ (lt_of_vp hx20) (lt_of_vp hx21)) (by decide))
          refine R_iaload (pc := 94) dX2_isOrdered_94 (c_94 _) hx22 ?_
          refine k_X2_36 (pc := 95) (ge_X2_isLeftOf _ _ _ _) rfl (by decide) (Nat.le_refl _) (Nat.le_refl _) (Nat.le_of_ble_eq_true rfl) dX2_isOrdered_95 (fun x w2 h => ?_)
          rcases h with ⟨rfl, ⟨h23, rfl⟩ | ⟨h23, rfl⟩⟩
          · skip
            refine R_ifeq (pc := 98) 105 dX2_isOrdered_98 (by decide) (fun h => absurd h (by decide)) (fun _ => ?_)
            refine R_iconst (pc := 101) (v := 1) dX2_isOrdered_101 (by decide) ?_
            refine R_goto (pc := 102) 106 dX2_isOrdered_102 (by decide) ?_
            exact R_iret (pc := 106) dX2_isOrdered_106 rfl rfl (Nat.zero_le _) (Nat.zero_le _) ⟨_, rfl, rfl, Or.inl ⟨(by have e : ordB k (LC σ c) (Int32.toNatClampNeg ((σ.2.2.1 116 (Int32.toNatClampNeg c)) - 1)) = true := (by rw [cl_dec (iva_116 hI _ (clamp19 hc)) (by omega) hX12_1 (by first | assumption | exact dec_le5 (iva_116 hI _ (clamp19 hc)))]; exact hX12_0); have e2 : lofB k ((LC σ c) 0) ((LC σ c) ((σ.2.2.1 116 (Int32.toNatClampNeg c)) - 1)) = true := h23; unfold ordT; rw [e, decide_eq_false b65_16, e2]; rfl), rfl⟩⟩
          · skip
            refine R_ifeq (pc := 98) 105 dX2_isOrdered_98 (by decide) (fun _ => ?_) (fun h => absurd (by decide) h)
            refine R_iconst (pc := 105) (v := 0) dX2_isOrdered_105 (by decide) ?_
            exact R_iret (pc := 106) dX2_isOrdered_106 rfl rfl (Nat.zero_le _) (Nat.zero_le _) ⟨_, rfl, rfl, Or.inr ⟨(by have e : ordB k (LC σ c) (Int32.toNatClampNeg ((σ.2.2.1 116 (Int32.toNatClampNeg c)) - 1)) = true := (by rw [cl_dec (iva_116 hI _ (clamp19 hc)) (by omega) hX12_1 (by first | assumption | exact dec_le5 (iva_116 hI _ (clamp19 hc)))]; exact hX12_0); have e2 : lofB k ((LC σ c) 0) ((LC σ c) ((σ.2.2.1 116 (Int32.toNatClampNeg c)) - 1)) = false := h23; unfold ordT; rw [e, decide_eq_false b65_16, e2]; rfl), rfl⟩⟩
      · skip
        refine R_iload_n (pc := 18) dX2_isOrdered_18 rfl rfl ?_
        refine R_aload_n (pc := 19) dX2_isOrdered_19 rfl rfl ?_
        refine g_X2_9 (pc := 20) (v := .ref 94) rfl dX2_isOrdered_20 (c_93 _) rfl ?_
        refine R_aload_n (pc := 23) dX2_isOrdered_23 rfl rfl ?_
        refine g_X2_17 (pc := 24) (v := .ref 95) rfl dX2_isOrdered_24 (c_93 _) rfl ?_
        refine R_iload_n (pc := 27) dX2_isOrdered_27 rfl rfl ?_
        have hx26 : vp_in c 20 := (vp_of_inR hc (by decide))
        refine R_aaload (pc := 28) (b := 96 + (Int32.toNatClampNeg c)) dX2_isOrdered_28 (c_95 _) hx26 (if_pos (lt_of_vp hx26)) ?_
        refine R_iload (pc := 29) dX2_isOrdered_29 rfl ?_
        have hx27 : vp_in (nI j12) 5 := (vp_in_nI (by omega) (by decide))
        refine R_iaload (pc := 31) dX2_isOrdered_31 (r_95 _ _ (lt_of_vp hx26)) hx27 ?_
        have hx28 : vp_in (σ.2.2.1 (96 + (Int32.toNatClampNeg c)) (Int32.toNatClampNeg (nI j12))) 8 := (vp_of_inR (ivr_96 hI _ _ (lt_of_vp hx26) (lt_of_vp hx27)) (by decide))
        refine R_iaload (pc := 32) dX2_isOrdered_32 (c_94 _) hx28 ?_
        refine R_aload_n (pc := 33) dX2_isOrdered_33 rfl rfl ?_
        refine g_X2_9 (pc := 34) (v := .ref 94) rfl dX2_isOrdered_34 (c_93 _) rfl ?_
        refine R_aload_n (pc := 37) dX2_isOrdered_37 rfl rfl ?_
        refine g_X2_17 (pc := 38) (v := .ref 95) rfl dX2_isOrdered_38 (c_93 _) rfl ?_
        refine R_iload_n (pc := 41) dX2_isOrdered_41 rfl rfl ?_
        have hx29 : vp_in c 20 := (vp_of_inR hc (by decide))
        refine R_aaload (pc := 42) (b := 96 + (Int32.toNatClampNeg c)) dX2_isOrdered_42 (c_95 _) hx29 (if_pos (lt_of_vp hx29)) ?_
        refine R_iload (pc := 43) dX2_isOrdered_43 rfl ?_
        refine R_iconst (pc := 45) (v := 1) dX2_isOrdered_45 (by decide) ?_
        refine R_iadd (pc := 46) dX2_isOrdered_46 ?_
        have r30 : inR ((nI j12) + 1) 1 5 := inR_add (show inR (nI j12) 0 4 from hrg12) (show inR 1 1 1 from (inR_self _)) (by decide) (by decide)
        have e31 := ti_add (l := 1) (h := 5) (show inR (nI j12) 0 4 from hrg12) (show inR 1 1 1 from (inR_self _)) (by decide) (by decide)
        have hx32 : vp_in ((nI j12) + 1) 5 := (vp_ti (by have q0 := e3; have q1 := e31; have q2 := ti_nle b15_15; have q3 := ti_in hc; have q4 := ti_in (iva_116 hI _ (lt_of_vp hx1)); have q5 := ti_in r2; have q6 := ti_in hrg12; have q7 := ti_in (ivr_96 hI _ _ (lt_of_vp hx26) (lt_of_vp hx27)); have q8 := ti_in r30; have z0 : (-1 : Int32).toInt = -1 := (by decide); have z1 : (0 : Int32).toInt = 0 := (by decide); have z2 : (1 : Int32).toInt = 1 := (by decide); have z3 : (116 : Int32).toInt = 116 := (by decide); have z4 : (19 : Int32).toInt = 19 := (by decide); have z5 : (4 : Int32).toInt = 4 := (by decide); have z6 : (5 : Int32).toInt = 5 := (by decide); have z7 : (7 : Int32).toInt = 7 := (by decide); omega) (by have q0 := e3; have q1 := e31; have q2 := ti_nle b15_15; have q3 := ti_in hc; have q4 := ti_in (iva_116 hI _ (lt_of_vp hx1)); have q5 := ti_in r2; have q6 := ti_in hrg12; have q7 := ti_in (ivr_96 hI _ _ (lt_of_vp hx26) (lt_of_vp hx27)); have q8 := ti_in r30; have z0 : (-1 : Int32).toInt = -1 := (by decide); have z1 : (0 : Int32).toInt = 0 := (by decide); have z2 : (1 : Int32).toInt = 1 := (by decide); have z3 : (116 : Int32).toInt = 116 := (by decide); have z4 : (19 : Int32).toInt = 19 := (by decide); have z5 : (4 : Int32).toInt = 4 := (by decide); have z6 : (5 : Int32).toInt = 5 := (by decide); have z7 : (7 : Int32).toInt = 7 := (by decide); omega))
        refine R_iaload (pc := 47) dX2_isOrdered_47 (r_95 _ _ (lt_of_vp hx29)) hx32 ?_
        have hx33 : vp_in (σ.2.2.1 (96 + (Int32.toNatClampNeg c)) (Int32.toNatClampNeg ((nI j12) + 1))) 8 := (vp_of_inR (ivr_96 hI _ _ (lt_of_vp hx29) (lt_of_vp hx32)) (by decide))
        refine R_iaload (pc := 48) dX2_isOrdered_48 (c_94 _) hx33 ?_
        refine k_X2_36 (pc := 49) (ge_X2_isLeftOf _ _ _ _) rfl (by decide) (Nat.le_refl _) (Nat.le_refl _) (Nat.le_of_ble_eq_true rfl) dX2_isOrdered_49 (fun x w2 h => ?_)
        rcases h with ⟨rfl, ⟨h34, rfl⟩ | ⟨h34, rfl⟩⟩
        · skip
          refine R_ifne (pc := 52) 57 dX2_isOrdered_52 (by decide) (fun _ => ?_) (fun h => absurd h (by decide))
          refine inc_5_4_1_i (pc := 57) dX2_isOrdered_57 ?_
          have r36 : inR ((nI j12) + 1) 1 5 := inR_add (show inR (nI j12) 0 4 from hrg12) (show inR 1 1 1 from (inR_self _)) (by decide) (by decide)
          have e37 := ti_add (l := 1) (h := 5) (show inR (nI j12) 0 4 from hrg12) (show inR 1 1 1 from (inR_self _)) (by decide) (by decide)
          refine R_goto (pc := 60) 12 dX2_isOrdered_60 (by decide) ?_
          rw [nI_1]
          exact ih12 (j12 + 1) (by omega) (by omega) (ord_t (L := (LC σ c)) hX12_0 h34) (Or.inl (nI_sle (by omega) b15_15))
        · skip
          refine R_ifne (pc := 52) 57 dX2_isOrdered_52 (by decide) (fun h => absurd (by decide) h) (fun _ => ?_)
          refine R_iconst (pc := 55) (v := 0) dX2_isOrdered_55 (by decide) ?_
          exact R_iret (pc := 56) dX2_isOrdered_56 rfl rfl (Nat.zero_le _) (Nat.zero_le _) ⟨_, rfl, rfl, Or.inr ⟨(by have e : ordB k (LC σ c) (Int32.toNatClampNeg ((σ.2.2.1 116 (Int32.toNatClampNeg c)) - 1)) = false := ord_mono (ord_f (L := (LC σ c)) h34) _ (dec_slt (iva_116 hI _ (clamp19 hc)) (by omega) b15_15); unfold ordT; rw [e]; rfl), rfl⟩⟩
  exact HL12 5 0 (by omega) (by omega) rfl (Or.inr rfl)
theorem lt_cl {n : Int32} {j : Nat} (hj : j < 20) (h : ¬ n ≤ nI j) : j < n.toNatClampNeg := nI_slt hj h
set_option maxRecDepth 100000 in
set_option maxHeartbeats 40000000 in
theorem ge_X2_seesAll {G : vG} {l : Launch} (σ : Sg) (c k : Int32) (hI : Inv σ) (hc : inR c 0 19) (hk : inR k 0 63) (hL : ∀ i : Nat, i < Int32.toNatClampNeg (σ.2.2.1 116 (Int32.toNatClampNeg c)) → inR ((LC σ c) (nI i)) 0 63) : Sp G l yX2_seesAll cX2_seesAll 4 (some .boolean) 2 0 0 [.ref 93, .int c, .int k] (WW σ) (QI (fun x w2 => w2 = WW σ ∧ (saB (σ.2.1 9301) k (LC σ c) (Int32.toNatClampNeg (σ.2.2.1 116 (Int32.toNatClampNeg c))) = true ∧ x = 1 ∨ saB (σ.2.1 9301) k (LC σ c) (Int32.toNatClampNeg (σ.2.2.1 116 (Int32.toNatClampNeg c))) = false ∧ x = 0))) := by
  refine Sp_of_R [(some (.ref 93)), (some (.int c)), (some (.int k)), none] [none] rfl (by simp) rfl (Nat.le_of_ble_eq_true rfl) ?_
  refine R_iconst (pc := 0) (v := 0) dX2_seesAll_0 (by decide) ?_
  refine st_4_3_i_i (pc := 1) dX2_seesAll_1 ?_
  have HL2 : ∀ (q j2 : Nat), j2 + q = 5 → 0 ≤ j2 → saB (σ.2.1 9301) k (LC σ c) j2 = true → nI j2 ≤ (σ.2.2.1 116 (Int32.toNatClampNeg c)) → R G l yX2_seesAll cX2_seesAll 4 (some .boolean) 2 0 0 (QI (fun x w2 => w2 = WW σ ∧ (saB (σ.2.1 9301) k (LC σ c) (Int32.toNatClampNeg (σ.2.2.1 116 (Int32.toNatClampNeg c))) = true ∧ x = 1 ∨ saB (σ.2.1 9301) k (LC σ c) (Int32.toNatClampNeg (σ.2.2.1 116 (Int32.toNatClampNeg c))) = false ∧ x = 0))) 2 [(some (.ref 93)), (some (.int c)), (some (.int k)), (some (.int (nI j2)))] [] (WW σ) 0 0 := by
    intro q
    induction q with
    | zero =>
      intro j2 hj hs2 hX2_0 hX2_1
      obtain rfl : j2 = 5 := by omega
      refine R_iload_n (pc := 2) dX2_seesAll_2 rfl rfl ?_
      refine R_aload_n (pc := 3) dX2_seesAll_3 rfl rfl ?_
      refine g_X2_20 (pc := 4) (v := .ref 116) rfl dX2_seesAll_4 (c_93 _) rfl ?_
      refine R_iload_n (pc := 7) dX2_seesAll_7 rfl rfl ?_
      have hx1 : vp_in c 20 := (vp_of_inR hc (by decide))
      refine R_iaload (pc := 8) dX2_seesAll_8 (c_116 _) hx1 ?_
      refine R_icge (pc := 9) 41 dX2_seesAll_9 (by decide) (fun _ => ?_) (fun h => absurd (Int32.not_lt.mp (inR_up (iva_116 hI _ (lt_of_vp hx1)) (Int32.le_refl _) (by decide)).2) h)
      refine R_iconst (pc := 41) (v := 1) dX2_seesAll_41 (by decide) ?_
      exact R_iret (pc := 42) dX2_seesAll_42 rfl rfl (Nat.zero_le _) (Nat.zero_le _) ⟨_, rfl, rfl, Or.inl ⟨(by have e : Int32.toNatClampNeg (σ.2.2.1 116 (Int32.toNatClampNeg c)) = 5 := jn_of (by omega) (by first | exact nI_eqe hX2_1 (by assumption) | exact nI_eq5 hX2_1 (iva_116 hI _ (clamp19 hc))); rw [e]; exact hX2_0), rfl⟩⟩
    | succ q ih2 =>
      intro j2 hj hs2 hX2_0 hX2_1
      have hrg2 : inR (nI j2) 0 4 := inR_ix hs2 (show j2 < 5 by omega) (by decide) (by decide) (by decide)
      have hlt2 : j2 < 5 := by omega
      refine R_iload_n (pc := 2) dX2_seesAll_2 rfl rfl ?_
      refine R_aload_n (pc := 3) dX2_seesAll_3 rfl rfl ?_
      refine g_X2_20 (pc := 4) (v := .ref 116) rfl dX2_seesAll_4 (c_93 _) rfl ?_
      refine R_iload_n (pc := 7) dX2_seesAll_7 rfl rfl ?_
      have hx3 : vp_in c 20 := (vp_of_inR hc (by decide))
      refine R_iaload (pc := 8) dX2_seesAll_8 (c_116 _) hx3 ?_
      refine R_icge (pc := 9) 41 dX2_seesAll_9 (by decide) (fun b9_4 => ?_) (fun b9_4 => ?_)
      · skip
        refine R_iconst (pc := 41) (v := 1) dX2_seesAll_41 (by decide) ?_
        exact R_iret (pc := 42) dX2_seesAll_42 rfl rfl (Nat.zero_le _) (Nat.zero_le _) ⟨_, rfl, rfl, Or.inl ⟨(by have e : Int32.toNatClampNeg (σ.2.2.1 116 (Int32.toNatClampNeg c)) = j2 := jn_of (by omega) (by first | exact nI_eqe hX2_1 (by assumption) | exact nI_eq5 hX2_1 (iva_116 hI _ (clamp19 hc))); rw [e]; exact hX2_0), rfl⟩⟩
      · skip
        refine R_aload_n (pc := 12) dX2_seesAll_12 rfl rfl ?_
        refine R_iload_n (pc := 13) dX2_seesAll_13 rfl rfl ?_
        refine R_aload_n (pc := 14) dX2_seesAll_14 rfl rfl ?_
        refine g_X2_9 (pc := 15) (v := .ref 94) rfl dX2_seesAll_15 (c_93 _) rfl ?_
        refine R_aload_n (pc := 18) dX2_seesAll_18 rfl rfl ?_
        refine g_X2_17 (pc := 19) (v := .ref 95) rfl dX2_seesAll_19 (c_93 _) rfl ?_
        refine R_iload_n (pc := 22) dX2_seesAll_22 rfl rfl ?_
        have hx5 : vp_in c 20 := (vp_of_inR hc (by decide))
        refine R_aaload (pc := 23) (b := 96 + (Int32.toNatClampNeg c)) dX2_seesAll_23 (c_95 _) hx5 (if_pos (lt_of_vp hx5)) ?_
        refine R_iload_n (pc := 24) dX2_seesAll_24 rfl rfl ?_
        have hx6 : vp_in (nI j2) 5 := (vp_in_nI (by omega) (by decide))
        refine R_iaload (pc := 25) dX2_seesAll_25 (r_95 _ _ (lt_of_vp hx5)) hx6 ?_
        have hx7 : vp_in (σ.2.2.1 (96 + (Int32.toNatClampNeg c)) (Int32.toNatClampNeg (nI j2))) 8 := (vp_of_inR (ivr_96 hI _ _ (lt_of_vp hx5) (lt_of_vp hx6)) (by decide))
        refine R_iaload (pc := 26) dX2_seesAll_26 (c_94 _) hx7 ?_
        refine k_X2_40 (pc := 27) (ge_X2_sees _ _ _ hI hk (hL j2 (lt_cl (by omega) b9_4))) rfl (c_93 _) (by decide) (Nat.le_refl _) (Nat.le_refl _) (Nat.le_of_ble_eq_true rfl) dX2_seesAll_27 (fun x w2 h => ?_)
        rcases h with ⟨rfl, ⟨h8, rfl⟩ | ⟨h8, rfl⟩⟩
        · skip
          refine R_ifne (pc := 30) 35 dX2_seesAll_30 (by decide) (fun _ => ?_) (fun h => absurd h (by decide))
          refine inc_4_3_1_i (pc := 35) dX2_seesAll_35 ?_
          have r10 : inR ((nI j2) + 1) 1 5 := inR_add (show inR (nI j2) 0 4 from hrg2) (show inR 1 1 1 from (inR_self _)) (by decide) (by decide)
          have e11 := ti_add (l := 1) (h := 5) (show inR (nI j2) 0 4 from hrg2) (show inR 1 1 1 from (inR_self _)) (by decide) (by decide)
          refine R_goto (pc := 38) 2 dX2_seesAll_38 (by decide) ?_
          rw [nI_1]
          exact ih2 (j2 + 1) (by omega) (by omega) (sa_t (L := (LC σ c)) hX2_0 h8) (nI_sle (by omega) b9_4)
        · skip
          refine R_ifne (pc := 30) 35 dX2_seesAll_30 (by decide) (fun h => absurd (by decide) h) (fun _ => ?_)
          refine R_iconst (pc := 33) (v := 0) dX2_seesAll_33 (by decide) ?_
          exact R_iret (pc := 34) dX2_seesAll_34 rfl rfl (Nat.zero_le _) (Nat.zero_le _) ⟨_, rfl, rfl, Or.inr ⟨sa_mono (sa_f (L := (LC σ c)) h8) _ (nI_slt (by omega) b9_4), rfl⟩⟩
  exact HL2 5 0 (by omega) (by omega) rfl (show (0 : Int32) ≤ (σ.2.2.1 116 (Int32.toNatClampNeg c)) from Int32.not_lt.mp (iva_116 hI _ (clamp19 hc)).1)
theorem opr_st {w : Int64} {L : Int32 → Int32} {s : Int64} {j : Nat} (h : s = opR w L j) : s &&& (((1 : Int64) <<< (Int32.toInt64 (L (nI j)) &&& 63)) ^^^ -1) = opR w L (j + 1) := by rw [h]; rfl
def fC (σ : Sg) (c : Int32) (o : Int64) : Nat → Bool := fun n => decide (lg_cmp ((o >>> (Int32.toInt64 (nI n) &&& 63)) &&& 1) 1 = 0) && (ordT (nI n) (LC σ c) (σ.2.2.1 116 (Int32.toNatClampNeg c)) && saB (σ.2.1 9301) (nI n) (LC σ c) (Int32.toNatClampNeg (σ.2.2.1 116 (Int32.toNatClampNeg c))))
def stdC (σ : Sg) (c : Int32) : Int64 := bif nowB (LC σ c) (Int32.toNatClampNeg (σ.2.2.1 116 (Int32.toNatClampNeg c))) then 0 else stR (fC σ c (opR (σ.2.1 9301) (LC σ c) (Int32.toNatClampNeg (σ.2.2.1 116 (Int32.toNatClampNeg c))))) 64
theorem fC_0 {σ : Sg} {c : Int32} {o : Int64} {j : Nat} (h : ¬ lg_cmp ((o >>> (Int32.toInt64 (nI j) &&& 63)) &&& 1) 1 = 0) : fC σ c o j = false := by unfold fC; rw [decide_eq_false h]; rfl
theorem fC_1 {σ : Sg} {c : Int32} {o : Int64} {j : Nat} (h : ordT (nI j) (LC σ c) (σ.2.2.1 116 (Int32.toNatClampNeg c)) = false) : fC σ c o j = false := by unfold fC; rw [h]; simp
theorem fC_2 {σ : Sg} {c : Int32} {o : Int64} {j : Nat} (h : saB (σ.2.1 9301) (nI j) (LC σ c) (Int32.toNatClampNeg (σ.2.2.1 116 (Int32.toNatClampNeg c))) = false) : fC σ c o j = false := by unfold fC; rw [h]; simp
theorem fC_3 {σ : Sg} {c : Int32} {o : Int64} {j : Nat} (h : lg_cmp ((o >>> (Int32.toInt64 (nI j) &&& 63)) &&& 1) 1 = 0) (h2 : ordT (nI j) (LC σ c) (σ.2.2.1 116 (Int32.toNatClampNeg c)) = true) (h3 : saB (σ.2.1 9301) (nI j) (LC σ c) (Int32.toNatClampNeg (σ.2.2.1 116 (Int32.toNatClampNeg c))) = true) : fC σ c o j = true := by unfold fC; rw [decide_eq_true h, h2, h3]; rfl
theorem cell63 {f : Nat → Int32} {v : Int32} (h : ∀ l : Nat, l < 8 → inR (f l) 0 64) (hv : inR v 0 7) (hn : ¬ f v.toNatClampNeg = 64) : inR (f v.toNatClampNeg) 0 63 := by
  have q := h v.toNatClampNeg (by obtain ⟨j, hj, e⟩ := nI_inR (M := 7) hv (by decide); rw [e, nI_clamp (by omega)]; omega)
  have q1 := ti_in q
  have q2 : (f v.toNatClampNeg).toInt ≠ 64 := fun e => hn (Int32.toInt_inj.mp e)
  have z : (64 : Int32).toInt = 64 := by decide
  have z2 : (63 : Int32).toInt = 63 := by decide
  exact of_ti q1.1 (by omega)
set_option maxRecDepth 100000 in
set_option maxHeartbeats 40000000 in
theorem ge_X2_standing {G : vG} {l : Launch} (σ : Sg) (c : Int32) (hI : Inv σ) (hc : inR c 0 19) (hlc : ∀ l : Nat, l < 8 → inR (σ.2.2.1 94 l) 0 64) : Sp G l yX2_standing cX2_standing 7 (some .long) 3 0 0 [.ref 93, .int c] (WW σ) (QL (fun x w2 => w2 = WW σ ∧ x = stdC σ c)) := by
  refine Sp_of_R [(some (.ref 93)), (some (.int c)), none, none, none, none, none] [none, none, none, none, none] rfl (by simp) rfl (Nat.le_of_ble_eq_true rfl) ?_
  refine R_aload_n (pc := 0) dX2_standing_0 rfl rfl ?_
  refine g_X2_23 (pc := 1) (v := .long (σ.2.1 9301)) rfl dX2_standing_1 (c_93 _) rfl ?_
  refine R_ldc2 (pc := 4) w_673c dX2_standing_4 ?_
  refine R_lxor (pc := 7) dX2_standing_7 ?_
  refine st_7_2_l_i (pc := 8) dX2_standing_8 ?_
  refine R_iconst (pc := 9) (v := 0) dX2_standing_9 (by decide) ?_
  refine st_7_4_i_n (pc := 10) dX2_standing_10 ?_
  have HL12 : ∀ (q j12 : Nat) (g2_12 : Int64) (g5_12 : Option Value), j12 + q = 5 → 0 ≤ j12 → g2_12 = opR (σ.2.1 9301) (LC σ c) j12 → nowB (LC σ c) j12 = false → nI j12 ≤ (σ.2.2.1 116 (Int32.toNatClampNeg c)) → R G l yX2_standing cX2_standing 7 (some .long) 3 0 0 (QL (fun x w2 => w2 = WW σ ∧ x = stdC σ c)) 12 [(some (.ref 93)), (some (.int c)), (some (.long g2_12)), none, (some (.int (nI j12))), g5_12, none] [] (WW σ) 0 0 := by
    intro q
    induction q with
    | zero =>
      intro j12 g2_12 g5_12 hj hs12 hX12_0 hX12_1 hX12_2
      obtain rfl : j12 = 5 := by omega
      refine R_iload (pc := 12) dX2_standing_12 rfl ?_
      refine R_aload_n (pc := 14) dX2_standing_14 rfl rfl ?_
      refine g_X2_20 (pc := 15) (v := .ref 116) rfl dX2_standing_15 (c_93 _) rfl ?_
      refine R_iload_n (pc := 18) dX2_standing_18 rfl rfl ?_
      have hx1 : vp_in c 20 := (vp_of_inR hc (by decide))
      refine R_iaload (pc := 19) dX2_standing_19 (c_116 _) hx1 ?_
      refine R_icge (pc := 20) 65 dX2_standing_20 (by decide) (fun _ => ?_) (fun h => absurd (Int32.not_lt.mp (inR_up (iva_116 hI _ (lt_of_vp hx1)) (Int32.le_refl _) (by decide)).2) h)
      refine R_lconst (pc := 65) (v := 0) dX2_standing_65 (by decide) ?_
      refine st_7_4_l_n (pc := 66) dX2_standing_66 ?_
      refine R_iconst (pc := 68) (v := 0) dX2_standing_68 (by decide) ?_
      refine st_7_6_i_n (pc := 69) dX2_standing_69 ?_
      have hNV : Int32.toNatClampNeg (σ.2.2.1 116 (Int32.toNatClampNeg c)) = 5 := jn_of (by omega) (by first | exact nI_eqe hX12_2 (by assumption) | exact nI_eq5 hX12_2 (iva_116 hI _ (clamp19 hc)))
      have hLL : ∀ i : Nat, i < Int32.toNatClampNeg (σ.2.2.1 116 (Int32.toNatClampNeg c)) → inR ((LC σ c) (nI i)) 0 63 := fun i hi => cell63 hlc (ivr_96 hI _ _ (clamp19 hc) (by rw [nI_clamp (by omega)]; omega)) (now_all _ hX12_1 i (by omega))
      have HL71 : ∀ (q j71 : Nat) (g4_71 : Int64), j71 + q = 64 → 0 ≤ j71 → g4_71 = stR (fC σ c g2_12) j71 → R G l yX2_standing cX2_standing 7 (some .long) 3 0 0 (QL (fun x w2 => w2 = WW σ ∧ x = stdC σ c)) 71 [(some (.ref 93)), (some (.int c)), (some (.long g2_12)), none, (some (.long g4_71)), none, (some (.int (nI j71)))] [] (WW σ) 0 0 := by
        intro q
        induction q with
        | zero =>
          intro j71 g4_71 hj hs71 hX71_0
          obtain rfl : j71 = 64 := by omega
          refine R_iload (pc := 71) dX2_standing_71 rfl ?_
          refine R_bipush (pc := 73) (v := 64) dX2_standing_73 (by decide) ?_
          refine R_icge (pc := 75) 124 dX2_standing_75 (by decide) (fun _ => ?_) (fun h => absurd (by decide) h)
          refine R_lload (pc := 124) dX2_standing_124 rfl ?_
          exact R_lret (pc := 126) dX2_standing_126 rfl (Nat.zero_le _) (Nat.zero_le _) ⟨_, rfl, rfl, (by have e : nowB (LC σ c) (Int32.toNatClampNeg (σ.2.2.1 116 (Int32.toNatClampNeg c))) = false := by { rw [hNV]; exact hX12_1 }; unfold stdC; rw [e, hNV, ← hX12_0]; exact hX71_0)⟩
        | succ q ih71 =>
          intro j71 g4_71 hj hs71 hX71_0
          have hrg71 : inR (nI j71) 0 63 := inR_ix hs71 (show j71 < 64 by omega) (by decide) (by decide) (by decide)
          have hlt71 : j71 < 64 := by omega
          refine R_iload (pc := 71) dX2_standing_71 rfl ?_
          refine R_bipush (pc := 73) (v := 64) dX2_standing_73 (by decide) ?_
          refine R_icge (pc := 75) 124 dX2_standing_75 (by decide) (fun h => False.elim (by have q1 := ti_le h; have q2 := ti_in (show inR (nI j71) 0 63 from hrg71); have q3 := ti_in (show inR 64 64 64 from (inR_self _)); have z0 : (0 : Int32).toInt = 0 := (by decide);  have z1 : (63 : Int32).toInt = 63 := (by decide);  have z2 : (64 : Int32).toInt = 64 := (by decide); omega)) (fun _ => ?_)
          refine R_lload_n (pc := 78) dX2_standing_78 rfl rfl ?_
          refine R_iload (pc := 79) dX2_standing_79 rfl ?_
          refine R_lshr (pc := 81) dX2_standing_81 ?_
          refine R_lconst (pc := 82) (v := 1) dX2_standing_82 (by decide) ?_
          refine R_land (pc := 83) dX2_standing_83 ?_
          refine R_lconst (pc := 84) (v := 1) dX2_standing_84 (by decide) ?_
          refine R_lcmp (pc := 85) dX2_standing_85 ?_
          refine R_ifne (pc := 86) 118 dX2_standing_86 (by decide) (fun b86_5 => ?_) (fun b86_5 => ?_)
          · skip
            refine inc_7_6_1_n (pc := 118) dX2_standing_118 ?_
            have r6 : inR ((nI j71) + 1) 1 64 := inR_add (show inR (nI j71) 0 63 from hrg71) (show inR 1 1 1 from (inR_self _)) (by decide) (by decide)
            have e7 := ti_add (l := 1) (h := 64) (show inR (nI j71) 0 63 from hrg71) (show inR 1 1 1 from (inR_self _)) (by decide) (by decide)
            refine R_goto (pc := 121) 71 dX2_standing_121 (by decide) ?_
            rw [nI_1]
            exact ih71 (j71 + 1) _ (by omega) (by omega) (st_f (f := (fC σ c g2_12)) hX71_0 (fC_0 b86_5))
          · skip
            refine R_aload_n (pc := 89) dX2_standing_89 rfl rfl ?_
            refine R_iload_n (pc := 90) dX2_standing_90 rfl rfl ?_
            refine R_iload (pc := 91) dX2_standing_91 rfl ?_
            refine k_X2_29 (pc := 93) (ge_X2_isOrdered _ _ _ hI hc) rfl (c_93 _) (by decide) (Nat.le_refl _) (Nat.le_refl _) (Nat.le_of_ble_eq_true rfl) dX2_standing_93 (fun x w2 h => ?_)
            rcases h with ⟨rfl, ⟨h8, rfl⟩ | ⟨h8, rfl⟩⟩
            · skip
              refine R_ifeq (pc := 96) 118 dX2_standing_96 (by decide) (fun h => absurd h (by decide)) (fun _ => ?_)
              refine R_aload_n (pc := 99) dX2_standing_99 rfl rfl ?_
              refine R_iload_n (pc := 100) dX2_standing_100 rfl rfl ?_
              refine R_iload (pc := 101) dX2_standing_101 rfl ?_
              refine k_X2_33 (pc := 103) (ge_X2_seesAll _ _ _ hI hc hrg71 hLL) rfl (c_93 _) (by decide) (Nat.le_refl _) (Nat.le_refl _) (Nat.le_of_ble_eq_true rfl) dX2_standing_103 (fun x w2 h => ?_)
              rcases h with ⟨rfl, ⟨h10, rfl⟩ | ⟨h10, rfl⟩⟩
              · skip
                refine R_ifeq (pc := 106) 118 dX2_standing_106 (by decide) (fun h => absurd h (by decide)) (fun _ => ?_)
                refine R_lload (pc := 109) dX2_standing_109 rfl ?_
                refine R_lconst (pc := 111) (v := 1) dX2_standing_111 (by decide) ?_
                refine R_iload (pc := 112) dX2_standing_112 rfl ?_
                refine R_lshl (pc := 114) dX2_standing_114 ?_
                refine R_lor (pc := 115) dX2_standing_115 ?_
                refine st_7_4_l_n (pc := 116) dX2_standing_116 ?_
                refine inc_7_6_1_n (pc := 118) dX2_standing_118 ?_
                have r12 : inR ((nI j71) + 1) 1 64 := inR_add (show inR (nI j71) 0 63 from hrg71) (show inR 1 1 1 from (inR_self _)) (by decide) (by decide)
                have e13 := ti_add (l := 1) (h := 64) (show inR (nI j71) 0 63 from hrg71) (show inR 1 1 1 from (inR_self _)) (by decide) (by decide)
                refine R_goto (pc := 121) 71 dX2_standing_121 (by decide) ?_
                rw [nI_1]
                exact ih71 (j71 + 1) _ (by omega) (by omega) (st_t (f := (fC σ c g2_12)) hX71_0 (fC_3 b86_5 h8 h10))
              · skip
                refine R_ifeq (pc := 106) 118 dX2_standing_106 (by decide) (fun _ => ?_) (fun h => absurd (by decide) h)
                refine inc_7_6_1_n (pc := 118) dX2_standing_118 ?_
                have r15 : inR ((nI j71) + 1) 1 64 := inR_add (show inR (nI j71) 0 63 from hrg71) (show inR 1 1 1 from (inR_self _)) (by decide) (by decide)
                have e16 := ti_add (l := 1) (h := 64) (show inR (nI j71) 0 63 from hrg71) (show inR 1 1 1 from (inR_self _)) (by decide) (by decide)
                refine R_goto (pc := 121) 71 dX2_standing_121 (by decide) ?_
                rw [nI_1]
                exact ih71 (j71 + 1) _ (by omega) (by omega) (st_f (f := (fC σ c g2_12)) hX71_0 (fC_2 h10))
            · skip
              refine R_ifeq (pc := 96) 118 dX2_standing_96 (by decide) (fun _ => ?_) (fun h => absurd (by decide) h)
              refine inc_7_6_1_n (pc := 118) dX2_standing_118 ?_
              have r18 : inR ((nI j71) + 1) 1 64 := inR_add (show inR (nI j71) 0 63 from hrg71) (show inR 1 1 1 from (inR_self _)) (by decide) (by decide)
              have e19 := ti_add (l := 1) (h := 64) (show inR (nI j71) 0 63 from hrg71) (show inR 1 1 1 from (inR_self _)) (by decide) (by decide)
              refine R_goto (pc := 121) 71 dX2_standing_121 (by decide) ?_
              rw [nI_1]
              exact ih71 (j71 + 1) _ (by omega) (by omega) (st_f (f := (fC σ c g2_12)) hX71_0 (fC_1 h8))
      exact HL71 64 0 _ (by omega) (by omega) rfl
    | succ q ih12 =>
      intro j12 g2_12 g5_12 hj hs12 hX12_0 hX12_1 hX12_2
      have hrg12 : inR (nI j12) 0 4 := inR_ix hs12 (show j12 < 5 by omega) (by decide) (by decide) (by decide)
      have hlt12 : j12 < 5 := by omega
      refine R_iload (pc := 12) dX2_standing_12 rfl ?_
      refine R_aload_n (pc := 14) dX2_standing_14 rfl rfl ?_
      refine g_X2_20 (pc := 15) (v := .ref 116) rfl dX2_standing_15 (c_93 _) rfl ?_
      refine R_iload_n (pc := 18) dX2_standing_18 rfl rfl ?_
      have hx20 : vp_in c 20 := (vp_of_inR hc (by decide))
      refine R_iaload (pc := 19) dX2_standing_19 (c_116 _) hx20 ?_
      refine R_icge (pc := 20) 65 dX2_standing_20 (by decide) (fun b20_21 => ?_) (fun b20_21 => ?_)
      · skip
        refine R_lconst (pc := 65) (v := 0) dX2_standing_65 (by decide) ?_
        refine st_7_4_l_n (pc := 66) dX2_standing_66 ?_
        refine R_iconst (pc := 68) (v := 0) dX2_standing_68 (by decide) ?_
        refine st_7_6_i_n (pc := 69) dX2_standing_69 ?_
        have hNV : Int32.toNatClampNeg (σ.2.2.1 116 (Int32.toNatClampNeg c)) = j12 := jn_of (by omega) (by first | exact nI_eqe hX12_2 (by assumption) | exact nI_eq5 hX12_2 (iva_116 hI _ (clamp19 hc)))
        have hLL : ∀ i : Nat, i < Int32.toNatClampNeg (σ.2.2.1 116 (Int32.toNatClampNeg c)) → inR ((LC σ c) (nI i)) 0 63 := fun i hi => cell63 hlc (ivr_96 hI _ _ (clamp19 hc) (by rw [nI_clamp (by omega)]; omega)) (now_all _ hX12_1 i (by omega))
        have HL71 : ∀ (q j71 : Nat) (g4_71 : Int64), j71 + q = 64 → 0 ≤ j71 → g4_71 = stR (fC σ c g2_12) j71 → R G l yX2_standing cX2_standing 7 (some .long) 3 0 0 (QL (fun x w2 => w2 = WW σ ∧ x = stdC σ c)) 71 [(some (.ref 93)), (some (.int c)), (some (.long g2_12)), none, (some (.long g4_71)), none, (some (.int (nI j71)))] [] (WW σ) 0 0 := by
          intro q
          induction q with
          | zero =>
            intro j71 g4_71 hj hs71 hX71_0
            obtain rfl : j71 = 64 := by omega
            refine R_iload (pc := 71) dX2_standing_71 rfl ?_
            refine R_bipush (pc := 73) (v := 64) dX2_standing_73 (by decide) ?_
            refine R_icge (pc := 75) 124 dX2_standing_75 (by decide) (fun _ => ?_) (fun h => absurd (by decide) h)
            refine R_lload (pc := 124) dX2_standing_124 rfl ?_
            exact R_lret (pc := 126) dX2_standing_126 rfl (Nat.zero_le _) (Nat.zero_le _) ⟨_, rfl, rfl, (by have e : nowB (LC σ c) (Int32.toNatClampNeg (σ.2.2.1 116 (Int32.toNatClampNeg c))) = false := by { rw [hNV]; exact hX12_1 }; unfold stdC; rw [e, hNV, ← hX12_0]; exact hX71_0)⟩
          | succ q ih71 =>
            intro j71 g4_71 hj hs71 hX71_0
            have hrg71 : inR (nI j71) 0 63 := inR_ix hs71 (show j71 < 64 by omega) (by decide) (by decide) (by decide)
            have hlt71 : j71 < 64 := by omega
            refine R_iload (pc := 71) dX2_standing_71 rfl ?_
            refine R_bipush (pc := 73) (v := 64) dX2_standing_73 (by decide) ?_
            refine R_icge (pc := 75) 124 dX2_standing_75 (by decide) (fun h => False.elim (by have q1 := ti_le h; have q2 := ti_in (show inR (nI j71) 0 63 from hrg71); have q3 := ti_in (show inR 64 64 64 from (inR_self _)); have z0 : (0 : Int32).toInt = 0 := (by decide);  have z1 : (63 : Int32).toInt = 63 := (by decide);  have z2 : (64 : Int32).toInt = 64 := (by decide); omega)) (fun _ => ?_)
            refine R_lload_n (pc := 78) dX2_standing_78 rfl rfl ?_
            refine R_iload (pc := 79) dX2_standing_79 rfl ?_
            refine R_lshr (pc := 81) dX2_standing_81 ?_
            refine R_lconst (pc := 82) (v := 1) dX2_standing_82 (by decide) ?_
            refine R_land (pc := 83) dX2_standing_83 ?_
            refine R_lconst (pc := 84) (v := 1) dX2_standing_84 (by decide) ?_
            refine R_lcmp (pc := 85) dX2_standing_85 ?_
            refine R_ifne (pc := 86) 118 dX2_standing_86 (by decide) (fun b86_24 => ?_) (fun b86_24 => ?_)
            · skip
              refine inc_7_6_1_n (pc := 118) dX2_standing_118 ?_
              have r25 : inR ((nI j71) + 1) 1 64 := inR_add (show inR (nI j71) 0 63 from hrg71) (show inR 1 1 1 from (inR_self _)) (by decide) (by decide)
              have e26 := ti_add (l := 1) (h := 64) (show inR (nI j71) 0 63 from hrg71) (show inR 1 1 1 from (inR_self _)) (by decide) (by decide)
              refine R_goto (pc := 121) 71 dX2_standing_121 (by decide) ?_
              rw [nI_1]
              exact ih71 (j71 + 1) _ (by omega) (by omega) (st_f (f := (fC σ c g2_12)) hX71_0 (fC_0 b86_24))
            · skip
              refine R_aload_n (pc := 89) dX2_standing_89 rfl rfl ?_
              refine R_iload_n (pc := 90) dX2_standing_90 rfl rfl ?_
              refine R_iload (pc := 91) dX2_standing_91 rfl ?_
              refine k_X2_29 (pc := 93) (ge_X2_isOrdered _ _ _ hI hc) rfl (c_93 _) (by decide) (Nat.le_refl _) (Nat.le_refl _) (Nat.le_of_ble_eq_true rfl) dX2_standing_93 (fun x w2 h => ?_)
              rcases h with ⟨rfl, ⟨h27, rfl⟩ | ⟨h27, rfl⟩⟩
              · skip
                refine R_ifeq (pc := 96) 118 dX2_standing_96 (by decide) (fun h => absurd h (by decide)) (fun _ => ?_)
                refine R_aload_n (pc := 99) dX2_standing_99 rfl rfl ?_
                refine R_iload_n (pc := 100) dX2_standing_100 rfl rfl ?_
                refine R_iload (pc := 101) dX2_standing_101 rfl ?_
                refine k_X2_33 (pc := 103) (ge_X2_seesAll _ _ _ hI hc hrg71 hLL) rfl (c_93 _) (by decide) (Nat.le_refl _) (Nat.le_refl _) (Nat.le_of_ble_eq_true rfl) dX2_standing_103 (fun x w2 h => ?_)
                rcases h with ⟨rfl, ⟨h29, rfl⟩ | ⟨h29, rfl⟩⟩
                · skip
                  refine R_ifeq (pc := 106) 118 dX2_standing_106 (by decide) (fun h => absurd h (by decide)) (fun _ => ?_)
                  refine R_lload (pc := 109) dX2_standing_109 rfl ?_
                  refine R_lconst (pc := 111) (v := 1) dX2_standing_111 (by decide) ?_
                  refine R_iload (pc := 112) dX2_standing_112 rfl ?_
                  refine R_lshl (pc := 114) dX2_standing_114 ?_
                  refine R_lor (pc := 115) dX2_standing_115 ?_
                  refine st_7_4_l_n (pc := 116) dX2_standing_116 ?_
                  refine inc_7_6_1_n (pc := 118) dX2_standing_118 ?_
                  have r31 : inR ((nI j71) + 1) 1 64 := inR_add (show inR (nI j71) 0 63 from hrg71) (show inR 1 1 1 from (inR_self _)) (by decide) (by decide)
                  have e32 := ti_add (l := 1) (h := 64) (show inR (nI j71) 0 63 from hrg71) (show inR 1 1 1 from (inR_self _)) (by decide) (by decide)
                  refine R_goto (pc := 121) 71 dX2_standing_121 (by decide) ?_
                  rw [nI_1]
                  exact ih71 (j71 + 1) _ (by omega) (by omega) (st_t (f := (fC σ c g2_12)) hX71_0 (fC_3 b86_24 h27 h29))
                · skip
                  refine R_ifeq (pc := 106) 118 dX2_standing_106 (by decide) (fun _ => ?_) (fun h => absurd (by decide) h)
                  refine inc_7_6_1_n (pc := 118) dX2_standing_118 ?_
                  have r34 : inR ((nI j71) + 1) 1 64 := inR_add (show inR (nI j71) 0 63 from hrg71) (show inR 1 1 1 from (inR_self _)) (by decide) (by decide)
                  have e35 := ti_add (l := 1) (h := 64) (show inR (nI j71) 0 63 from hrg71) (show inR 1 1 1 from (inR_self _)) (by decide) (by decide)
                  refine R_goto (pc := 121) 71 dX2_standing_121 (by decide) ?_
                  rw [nI_1]
                  exact ih71 (j71 + 1) _ (by omega) (by omega) (st_f (f := (fC σ c g2_12)) hX71_0 (fC_2 h29))
              · skip
                refine R_ifeq (pc := 96) 118 dX2_standing_96 (by decide) (fun _ => ?_) (fun h => absurd (by decide) h)
                refine inc_7_6_1_n (pc := 118) dX2_standing_118 ?_
                have r37 : inR ((nI j71) + 1) 1 64 := inR_add (show inR (nI j71) 0 63 from hrg71) (show inR 1 1 1 from (inR_self _)) (by decide) (by decide)
                have e38 := ti_add (l := 1) (h := 64) (show inR (nI j71) 0 63 from hrg71) (show inR 1 1 1 from (inR_self _)) (by decide) (by decide)
                refine R_goto (pc := 121) 71 dX2_standing_121 (by decide) ?_
                rw [nI_1]
                exact ih71 (j71 + 1) _ (by omega) (by omega) (st_f (f := (fC σ c g2_12)) hX71_0 (fC_1 h27))
        exact HL71 64 0 _ (by omega) (by omega) rfl
      · skip
        refine R_aload_n (pc := 23) dX2_standing_23 rfl rfl ?_
        refine g_X2_9 (pc := 24) (v := .ref 94) rfl dX2_standing_24 (c_93 _) rfl ?_
        refine R_aload_n (pc := 27) dX2_standing_27 rfl rfl ?_
        refine g_X2_17 (pc := 28) (v := .ref 95) rfl dX2_standing_28 (c_93 _) rfl ?_
        refine R_iload_n (pc := 31) dX2_standing_31 rfl rfl ?_
        have hx39 : vp_in c 20 := (vp_of_inR hc (by decide))
        refine R_aaload (pc := 32) (b := 96 + (Int32.toNatClampNeg c)) dX2_standing_32 (c_95 _) hx39 (if_pos (lt_of_vp hx39)) ?_
        refine R_iload (pc := 33) dX2_standing_33 rfl ?_
        have hx40 : vp_in (nI j12) 5 := (vp_in_nI (by omega) (by decide))
        refine R_iaload (pc := 35) dX2_standing_35 (r_95 _ _ (lt_of_vp hx39)) hx40 ?_
        have hx41 : vp_in (σ.2.2.1 (96 + (Int32.toNatClampNeg c)) (Int32.toNatClampNeg (nI j12))) 8 := (vp_of_inR (ivr_96 hI _ _ (lt_of_vp hx39) (lt_of_vp hx40)) (by decide))
        refine R_iaload (pc := 36) dX2_standing_36 (c_94 _) hx41 ?_
        refine st_7_5_i_i (pc := 37) dX2_standing_37 ?_
        refine R_iload (pc := 39) dX2_standing_39 rfl ?_
        refine R_bipush (pc := 41) (v := 64) dX2_standing_41 (by decide) ?_
        refine R_icne (pc := 43) 48 dX2_standing_43 (by decide) (fun b43_42 => ?_) (fun b43_42 => ?_)
        · skip
          refine R_lload_n (pc := 48) dX2_standing_48 rfl rfl ?_
          refine R_lconst (pc := 49) (v := 1) dX2_standing_49 (by decide) ?_
          refine R_iload (pc := 50) dX2_standing_50 rfl ?_
          refine R_lshl (pc := 52) dX2_standing_52 ?_
          refine R_ldc2 (pc := 53) w_673c dX2_standing_53 ?_
          refine R_lxor (pc := 56) dX2_standing_56 ?_
          refine R_land (pc := 57) dX2_standing_57 ?_
          refine st_7_2_l_i (pc := 58) dX2_standing_58 ?_
          refine inc_7_4_1_n (pc := 59) dX2_standing_59 ?_
          have r43 : inR ((nI j12) + 1) 1 5 := inR_add (show inR (nI j12) 0 4 from hrg12) (show inR 1 1 1 from (inR_self _)) (by decide) (by decide)
          have e44 := ti_add (l := 1) (h := 5) (show inR (nI j12) 0 4 from hrg12) (show inR 1 1 1 from (inR_self _)) (by decide) (by decide)
          refine R_goto (pc := 62) 12 dX2_standing_62 (by decide) ?_
          rw [nI_1]
          exact ih12 (j12 + 1) _ _ (by omega) (by omega) (opr_st (L := (LC σ c)) hX12_0) (now_f (L := (LC σ c)) hX12_1 b43_42) (nI_sle (by omega) b20_21)
        · skip
          refine R_lconst (pc := 46) (v := 0) dX2_standing_46 (by decide) ?_
          exact R_lret (pc := 47) dX2_standing_47 rfl (Nat.zero_le _) (Nat.zero_le _) ⟨_, rfl, rfl, (by have e : nowB (LC σ c) (Int32.toNatClampNeg (σ.2.2.1 116 (Int32.toNatClampNeg c))) = true := now_mono (now_t (L := (LC σ c)) b43_42) _ (nI_slt (by omega) b20_21); unfold stdC; rw [e]; rfl)⟩
  exact HL12 5 0 _ _ (by omega) (by omega) rfl rfl (show (0 : Int32) ≤ (σ.2.2.1 116 (Int32.toNatClampNeg c)) from Int32.not_lt.mp (iva_116 hI _ (clamp19 hc)).1)
