/-! methods on any state that keeps the invariant -/
/-! how far two captions are: the fewest letters changed, put in, left out -/
def levS (c : Nat → Bool) (p : Nat → Nat) (z : Nat) : Nat → Nat
  | 0 => z
  | j + 1 => min (p j + (bif c j then 0 else 1)) (min (p (j + 1)) (levS c p z j) + 1)
def lev (f g : Nat → Int32) : Nat → Nat → Nat
  | 0 => fun j => j
  | i + 1 => levS (fun j => decide (f i = g j)) (lev f g i) (i + 1)
theorem lev_0 (f g : Nat → Int32) (j : Nat) : lev f g 0 j = j := rfl
theorem lev_z (f g : Nat → Int32) (i : Nat) : lev f g i 0 = i := by cases i <;> rfl
theorem lev_s (f g : Nat → Int32) (i j : Nat) : lev f g (i + 1) (j + 1) = min (lev f g i j + (bif decide (f i = g j) then 0 else 1)) (min (lev f g i (j + 1)) (lev f g (i + 1) j) + 1) := rfl
theorem lev_sym (f g : Nat → Int32) : ∀ n i j : Nat, i + j ≤ n → lev f g i j = lev g f j i := by
  intro n
  induction n with
  | zero => intro i j h; obtain rfl : i = 0 := by omega
            obtain rfl : j = 0 := by omega
            rfl
  | succ n ih =>
    intro i j h
    cases i with
    | zero => rw [lev_0, lev_z]
    | succ i =>
      cases j with
      | zero => rw [lev_0, lev_z]
      | succ j =>
        rw [lev_s, lev_s, ih i j (by omega), ih i (j + 1) (by omega), ih (i + 1) j (by omega)]
        have e : decide (f i = g j) = decide (g j = f i) := by rw [decide_eq_decide]; exact eq_comm
        rw [e, Nat.min_comm (lev g f (j + 1) i)]
theorem lev_le (f g : Nat → Int32) : ∀ i j : Nat, lev f g i j ≤ i + j := by
  intro i
  induction i with
  | zero => intro j; rw [lev_0]; omega
  | succ i ih =>
    intro j
    induction j with
    | zero => rw [lev_z]; omega
    | succ j ihj => rw [lev_s]; have := ih (j + 1); omega
theorem lev_congr {f g f2 g2 : Nat → Int32} {a b : Nat} (hf : ∀ i, i < a → f i = f2 i) (hg : ∀ j, j < b → g j = g2 j) : ∀ n i j : Nat, i + j ≤ n → i ≤ a → j ≤ b → lev f g i j = lev f2 g2 i j := by
  intro n
  induction n with
  | zero => intro i j h _ _; obtain rfl : i = 0 := by omega
            rfl
  | succ n ih =>
    intro i j h ha hb
    cases i with
    | zero => rfl
    | succ i =>
      cases j with
      | zero => rw [lev_z, lev_z]
      | succ j => rw [lev_s, lev_s, ih i j (by omega) (by omega) (by omega), ih i (j + 1) (by omega) (by omega) hb, ih (i + 1) j (by omega) ha (by omega), hf i (by omega), hg j (by omega)]
/-- a row half worked out: places below j are of row i + 1, the others of row i -/
def levM (f g : Nat → Int32) (i j k : Nat) : Nat := if k < j then lev f g (i + 1) k else lev f g i k
theorem nI_min {x y : Nat} (hx : x < 2 ^ 31) (hy : y < 2 ^ 31) : (if nI y < nI x then nI y else nI x) = nI (min x y) := by
  by_cases h : y < x
  · rw [if_pos ((nI_ltI hy hx).mpr h), Nat.min_eq_right (by omega)]
  · rw [if_neg (fun q => h ((nI_ltI hy hx).mp q)), Nat.min_eq_left (by omega)]
/-- the class's step: the corner, the place, the one before -/
theorem levC_s {f g : Nat → Int32} {i j : Nat} {u r s : Int32} (hij : i + j < 1000) (hu : u = nI (lev f g i j + (bif decide (f i = g j) then 0 else 1))) (hr : r = nI (lev f g i (j + 1))) (hs : s = nI (lev f g (i + 1) j)) : (if ((if s < r then s else r) + 1) < u then ((if s < r then s else r) + 1) else u) = nI (lev f g (i + 1) (j + 1)) := by
  have h1 := lev_le f g i j
  have h2 := lev_le f g i (j + 1)
  have h3 := lev_le f g (i + 1) j
  have hb : (bif decide (f i = g j) then 0 else 1) ≤ 1 := by cases decide (f i = g j) <;> decide
  rw [hu, hr, hs, nI_min (by omega) (by omega), nI_1, nI_min (by omega) (by omega), lev_s]
/-- the reference's step -/
theorem levR_s {f g : Nat → Int32} {i j : Nat} {u r s : Int32} (hij : i + j < 1000) (hu : u = nI (lev f g i j + (bif decide (f i = g j) then 0 else 1))) (hr : r = nI (lev f g i (j + 1))) (hs : s = nI (lev f g (i + 1) j)) : (if s + 1 < (if r + 1 < u then r + 1 else u) then s + 1 else (if r + 1 < u then r + 1 else u)) = nI (lev f g (i + 1) (j + 1)) := by
  have h1 := lev_le f g i j
  have h2 := lev_le f g i (j + 1)
  have h3 := lev_le f g (i + 1) j
  have hb : (bif decide (f i = g j) then 0 else 1) ≤ 1 := by cases decide (f i = g j) <;> decide
  rw [hu, hr, hs, nI_1, nI_1, nI_min (by omega) (by omega), nI_min (by omega) (by omega), lev_s]
  congr 1
  omega

def wC (σ : Sg) (c : Int32) : Nat → Int32 := fun i => byI (σ.2.2.2.1 10 (Int32.toNatClampNeg c)) (nI i)
theorem lt_jc {n : Int32} {j : Nat} (hj : j < 100) (h : n < nI j) (hn : inR n 0 8) : n.toNatClampNeg < j := by
  have h1 := ti_lt h
  have h2 := (ti_in hn).1
  have z : (0 : Int32).toInt = 0 := by decide
  rw [nI_toInt (by omega)] at h1
  show n.toInt.toNat < j
  omega
theorem le_jc {n : Int32} {j : Nat} (hj : j < 100) (h : ¬ n < nI j) : j ≤ n.toNatClampNeg := by
  have h1 := ti_nlt h
  rw [nI_toInt (by omega)] at h1
  show j ≤ n.toInt.toNat
  omega
theorem r0_s {f : Nat → Int32} {j : Nat} (hj : j < 100) (h : ∀ k : Nat, k < j → f k = nI k) : ∀ k : Nat, k < j + 1 → upd f (Int32.toNatClampNeg (nI j)) (nI j) k = nI k := by
  intro k hk
  rw [nI_clamp (by omega)]
  by_cases e : k = j
  · subst e; exact upd_at _ _ _
  · rw [upd_ne _ e]; exact h k (by omega)
theorem li_0 {f g : Nat → Int32} {r : Nat → Int32} {i n : Nat} (hi : 1 ≤ i) (h : ∀ k : Nat, k ≤ n → r k = nI (lev f g (i - 1) k)) : ∀ k : Nat, k ≤ n → upd r (Int32.toNatClampNeg 0) (nI i) k = nI (levM f g (i - 1) 1 k) := by
  intro k hk
  show upd r 0 (nI i) k = _
  unfold levM
  by_cases e : k = 0
  · subst e
    rw [upd_at, if_pos (by omega), lev_z]
    congr 1
    omega
  · rw [upd_ne _ e, if_neg (by omega)]; exact h k hk
theorem li_s {f g : Nat → Int32} {r : Nat → Int32} {i j n : Nat} {v : Int32} (hj : 1 ≤ j) (hj2 : j < 100) (h : ∀ k : Nat, k ≤ n → r k = nI (levM f g (i - 1) j k)) (hv : v = nI (lev f g (i - 1 + 1) (j - 1 + 1))) : ∀ k : Nat, k ≤ n → upd r (Int32.toNatClampNeg (nI j)) v k = nI (levM f g (i - 1) (j + 1) k) := by
  intro k hk
  rw [nI_clamp (by omega)]
  by_cases e : k = j
  · subst e
    rw [upd_at, hv]
    unfold levM
    rw [if_pos (by omega), show k - 1 + 1 = k by omega]
  · rw [upd_ne _ e, h k hk]
    unfold levM
    by_cases q : k < j
    · rw [if_pos q, if_pos (by omega)]
    · rw [if_neg q, if_neg (by omega)]
theorem li_r {f g : Nat → Int32} {r : Nat → Int32} {i j n : Nat} (hj2 : j < 100) (hn : j ≤ n) (h : ∀ k : Nat, k ≤ n → r k = nI (levM f g (i - 1) j k)) : r (Int32.toNatClampNeg (nI j)) = nI (lev f g (i - 1) j) := by
  rw [nI_clamp (by omega), h j hn]
  unfold levM
  rw [if_neg (by omega)]
theorem li_p {f g : Nat → Int32} {r : Nat → Int32} {i j n : Nat} (hj : 1 ≤ j) (hj2 : j < 100) (hn : j ≤ n) (h : ∀ k : Nat, k ≤ n → r k = nI (levM f g (i - 1) j k)) : r (Int32.toNatClampNeg (nI j - 1)) = nI (lev f g (i - 1 + 1) (j - 1)) := by
  rw [nI_p hj, nI_clamp (by omega), h (j - 1) (by omega)]
  unfold levM
  rw [if_pos (by omega)]
theorem li_e {f g : Nat → Int32} {r : Nat → Int32} {i j n : Nat} (hi : 1 ≤ i) (hn : n < j) (h : ∀ k : Nat, k ≤ n → r k = nI (levM f g (i - 1) j k)) : ∀ k : Nat, k ≤ n → r k = nI (lev f g (i + 1 - 1) k) := by
  intro k hk
  rw [h k hk]
  unfold levM
  rw [if_pos (by omega), show i - 1 + 1 = i + 1 - 1 by omega]
theorem cost_t {f g : Nat → Int32} {i j : Nat} {u : Int32} (e : f i = g j) (hu : u = nI (lev f g i j)) : u = nI (lev f g i j + (bif decide (f i = g j) then 0 else 1)) := by rw [decide_eq_true e]; exact hu
theorem cost_f {f g : Nat → Int32} {i j : Nat} {u : Int32} (e : ¬ f i = g j) (hu : u = nI (lev f g i j)) : u + 1 = nI (lev f g i j + (bif decide (f i = g j) then 0 else 1)) := by rw [decide_eq_false e, hu]; exact nI_1 _
set_option maxRecDepth 100000 in
set_option maxHeartbeats 40000000 in
theorem gn_X3_fewestChanges {G : vG} {l : Launch} (σ : Sg) (a b : Int32) (hI : Inv σ) (ha : inR a 0 19) (hb : inR b 0 19) : Sp G l yX3_fewestChanges cX3_fewestChanges 10 (some .int) 1 0 0 [.ref 12, .int a, .int b] (WW σ) (QI (fun x w2 => ∃ σ2, w2 = WW σ2 ∧ Inv σ2 ∧ Cor σ σ2 ∧ x = nI (lev (wC σ a) (wC σ b) (Int32.toNatClampNeg (σ.2.2.1 11 (Int32.toNatClampNeg a))) (Int32.toNatClampNeg (σ.2.2.1 11 (Int32.toNatClampNeg b)))))) := by
  refine Sp_of_R [(some (.ref 12)), (some (.int a)), (some (.int b)), none, none, none, none, none, none, none] [none, none, none, none, none, none, none] rfl (by simp) rfl (Nat.le_of_ble_eq_true rfl) ?_
  refine R_aload_n (pc := 0) dX3_fewestChanges_0 rfl rfl ?_
  refine g_X3_27 (pc := 1) (v := .ref 1) rfl dX3_fewestChanges_1 (c_12 _) rfl ?_
  refine g_X3_72 (pc := 4) (v := .ref 11) rfl dX3_fewestChanges_4 (c_1 _) rfl ?_
  refine R_iload_n (pc := 7) dX3_fewestChanges_7 rfl rfl ?_
  have hx1 : vp_in a 20 := (vp_of_inR ha (by decide))
  refine R_iaload (pc := 8) dX3_fewestChanges_8 (c_11 _) hx1 ?_
  refine st_10_3_i_i (pc := 9) dX3_fewestChanges_9 ?_
  refine R_aload_n (pc := 10) dX3_fewestChanges_10 rfl rfl ?_
  refine g_X3_27 (pc := 11) (v := .ref 1) rfl dX3_fewestChanges_11 (c_12 _) rfl ?_
  refine g_X3_72 (pc := 14) (v := .ref 11) rfl dX3_fewestChanges_14 (c_1 _) rfl ?_
  refine R_iload_n (pc := 17) dX3_fewestChanges_17 rfl rfl ?_
  have hx2 : vp_in b 20 := (vp_of_inR hb (by decide))
  refine R_iaload (pc := 18) dX3_fewestChanges_18 (c_11 _) hx2 ?_
  refine st_10_4_i_i (pc := 19) dX3_fewestChanges_19 ?_
  refine R_iconst (pc := 21) (v := 0) dX3_fewestChanges_21 (by decide) ?_
  refine st_10_5_i_i (pc := 22) dX3_fewestChanges_22 ?_
  have HL24 : ∀ (q j24 : Nat) (σ24 : Sg), j24 + q = 9 → 0 ≤ j24 → Inv σ24 → Cor σ σ24 → (∀ k : Nat, k < j24 → σ24.2.2.1 55 k = nI k) → R G l yX3_fewestChanges cX3_fewestChanges 10 (some .int) 1 0 0 (QI (fun x w2 => ∃ σ2, w2 = WW σ2 ∧ Inv σ2 ∧ Cor σ σ2 ∧ x = nI (lev (wC σ a) (wC σ b) (Int32.toNatClampNeg (σ.2.2.1 11 (Int32.toNatClampNeg a))) (Int32.toNatClampNeg (σ.2.2.1 11 (Int32.toNatClampNeg b)))))) 24 [(some (.ref 12)), (some (.int a)), (some (.int b)), (some (.int (σ.2.2.1 11 (Int32.toNatClampNeg a)))), (some (.int (σ.2.2.1 11 (Int32.toNatClampNeg b)))), (some (.int (nI j24))), none, none, none, none] [] (WW σ24) 0 0 := by
    intro q
    induction q with
    | zero =>
      intro j24 σ24 hj hs24 hI24 hC24 hX24_0
      obtain rfl : j24 = 9 := by omega
      refine R_iload (pc := 24) dX3_fewestChanges_24 rfl ?_
      refine R_iload (pc := 26) dX3_fewestChanges_26 rfl ?_
      refine R_icgt (pc := 28) 46 dX3_fewestChanges_28 (by decide) (fun _ => ?_) (fun h => False.elim (by have q1 := ti_nlt h; have q2 := ti_in (show inR (nI 9) 9 9 from (inR_self _)); have q3 := ti_in (show inR (σ.2.2.1 11 (Int32.toNatClampNeg b)) 0 8 from (iva_11 hI _ (lt_of_vp hx2))); have z0 : (0 : Int32).toInt = 0 := (by decide);  have z1 : (11 : Int32).toInt = 11 := (by decide);  have z2 : (8 : Int32).toInt = 8 := (by decide);  have z3 : (9 : Int32).toInt = 9 := (by decide); omega))
      refine R_iconst (pc := 46) (v := 1) dX3_fewestChanges_46 (by decide) ?_
      refine st_10_5_i_i (pc := 47) dX3_fewestChanges_47 ?_
      have HL49 : ∀ (q j49 : Nat) (σ49 : Sg) (g6_49 : Option Value) (g7_49 : Option Value) (g8_49 : Option Value) (g9_49 : Option Value), j49 + q = 9 → 1 ≤ j49 → Inv σ49 → Cor σ σ49 → (∀ k : Nat, k ≤ (Int32.toNatClampNeg (σ.2.2.1 11 (Int32.toNatClampNeg b))) → σ49.2.2.1 55 k = nI (lev (wC σ a) (wC σ b) (j49 - 1) k)) → j49 - 1 ≤ (Int32.toNatClampNeg (σ.2.2.1 11 (Int32.toNatClampNeg a))) → R G l yX3_fewestChanges cX3_fewestChanges 10 (some .int) 1 0 0 (QI (fun x w2 => ∃ σ2, w2 = WW σ2 ∧ Inv σ2 ∧ Cor σ σ2 ∧ x = nI (lev (wC σ a) (wC σ b) (Int32.toNatClampNeg (σ.2.2.1 11 (Int32.toNatClampNeg a))) (Int32.toNatClampNeg (σ.2.2.1 11 (Int32.toNatClampNeg b)))))) 49 [(some (.ref 12)), (some (.int a)), (some (.int b)), (some (.int (σ.2.2.1 11 (Int32.toNatClampNeg a)))), (some (.int (σ.2.2.1 11 (Int32.toNatClampNeg b)))), (some (.int (nI j49))), g6_49, g7_49, g8_49, g9_49] [] (WW σ49) 0 0 := by
        intro q
        induction q with
        | zero =>
          intro j49 σ49 g6_49 g7_49 g8_49 g9_49 hj hs49 hI49 hC49 hX49_0 hX49_1
          obtain rfl : j49 = 9 := by omega
          refine R_iload (pc := 49) dX3_fewestChanges_49 rfl ?_
          refine R_iload_n (pc := 51) dX3_fewestChanges_51 rfl rfl ?_
          refine R_icgt (pc := 52) 193 dX3_fewestChanges_52 (by decide) (fun _ => ?_) (fun h => False.elim (by have q1 := ti_nlt h; have q2 := ti_in (show inR (nI 9) 9 9 from (inR_self _)); have q3 := ti_in (show inR (σ.2.2.1 11 (Int32.toNatClampNeg a)) 0 8 from (iva_11 hI _ (lt_of_vp hx1))); have z0 : (0 : Int32).toInt = 0 := (by decide);  have z1 : (11 : Int32).toInt = 11 := (by decide);  have z2 : (8 : Int32).toInt = 8 := (by decide);  have z3 : (9 : Int32).toInt = 9 := (by decide); omega))
          refine R_aload_n (pc := 193) dX3_fewestChanges_193 rfl rfl ?_
          refine g_X3_19 (pc := 194) (v := .ref 55) rfl dX3_fewestChanges_194 (c_12 _) rfl ?_
          refine R_iload (pc := 197) dX3_fewestChanges_197 rfl ?_
          have hx5 : vp_in (σ.2.2.1 11 (Int32.toNatClampNeg b)) 9 := (vp_of_inR (iva_11 hI _ (lt_of_vp hx2)) (by decide))
          refine R_iaload (pc := 199) dX3_fewestChanges_199 (c_55 _) hx5 ?_
          exact R_iret (pc := 200) dX3_fewestChanges_200 rfl rfl (Nat.zero_le _) (Nat.zero_le _) ⟨_, rfl, _, rfl, hI49, hC49, (by rw [← (show 9 - 1 = (Int32.toNatClampNeg (σ.2.2.1 11 (Int32.toNatClampNeg a))) from by have q := (show Int32.toNatClampNeg (σ.2.2.1 11 (Int32.toNatClampNeg a)) < 9 from Nat.lt_succ_of_le (clamp8 (iva_11 hI _ (clamp19 ha)))); omega)]; exact hX49_0 _ (Nat.le_refl _))⟩
        | succ q ih49 =>
          intro j49 σ49 g6_49 g7_49 g8_49 g9_49 hj hs49 hI49 hC49 hX49_0 hX49_1
          have hrg49 : inR (nI j49) 1 8 := inR_ix hs49 (show j49 < 9 by omega) (by decide) (by decide) (by decide)
          have hlt49 : j49 < 9 := by omega
          refine R_iload (pc := 49) dX3_fewestChanges_49 rfl ?_
          refine R_iload_n (pc := 51) dX3_fewestChanges_51 rfl rfl ?_
          refine R_icgt (pc := 52) 193 dX3_fewestChanges_52 (by decide) (fun b52_6 => ?_) (fun b52_6 => ?_)
          · skip
            refine R_aload_n (pc := 193) dX3_fewestChanges_193 rfl rfl ?_
            refine g_X3_19 (pc := 194) (v := .ref 55) rfl dX3_fewestChanges_194 (c_12 _) rfl ?_
            refine R_iload (pc := 197) dX3_fewestChanges_197 rfl ?_
            have hx7 : vp_in (σ.2.2.1 11 (Int32.toNatClampNeg b)) 9 := (vp_of_inR (iva_11 hI _ (lt_of_vp hx2)) (by decide))
            refine R_iaload (pc := 199) dX3_fewestChanges_199 (c_55 _) hx7 ?_
            exact R_iret (pc := 200) dX3_fewestChanges_200 rfl rfl (Nat.zero_le _) (Nat.zero_le _) ⟨_, rfl, _, rfl, hI49, hC49, (by rw [← (show j49 - 1 = (Int32.toNatClampNeg (σ.2.2.1 11 (Int32.toNatClampNeg a))) from by have q := (lt_jc (by omega) b52_6 (iva_11 hI _ (clamp19 ha))); omega)]; exact hX49_0 _ (Nat.le_refl _))⟩
          · skip
            refine R_aload_n (pc := 55) dX3_fewestChanges_55 rfl rfl ?_
            refine g_X3_19 (pc := 56) (v := .ref 55) rfl dX3_fewestChanges_56 (c_12 _) rfl ?_
            refine R_iconst (pc := 59) (v := 0) dX3_fewestChanges_59 (by decide) ?_
            have hx8 : vp_in 0 9 := (by unfold vp_in; decide)
            refine R_iaload (pc := 60) dX3_fewestChanges_60 (c_55 _) hx8 ?_
            refine st_10_6_i_i (pc := 61) dX3_fewestChanges_61 ?_
            refine R_aload_n (pc := 63) dX3_fewestChanges_63 rfl rfl ?_
            refine g_X3_19 (pc := 64) (v := .ref 55) rfl dX3_fewestChanges_64 (c_12 _) rfl ?_
            refine R_iconst (pc := 67) (v := 0) dX3_fewestChanges_67 (by decide) ?_
            refine R_iload (pc := 68) dX3_fewestChanges_68 rfl ?_
            have hx9 : vp_in 0 9 := (by unfold vp_in; decide)
            refine W_iastore (pc := 70) dX3_fewestChanges_70 (c_55 _) hx9 (a_55 _ _) ?_
            have hW10 := cor_sa 55 (upd (σ49.2.2.1 55) (Int32.toNatClampNeg 0) (nI j49)) hC49 rfl
            refine R_iconst (pc := 71) (v := 1) dX3_fewestChanges_71 (by decide) ?_
            refine st_10_7_i_i (pc := 72) dX3_fewestChanges_72 ?_
            have HL74 : ∀ (q j74 : Nat) (σ74 : Sg) (g6_74 : Int32) (g8_74 : Option Value) (g9_74 : Option Value), j74 + q = 9 → 1 ≤ j74 → Inv σ74 → Cor σ σ74 → (∀ k : Nat, k ≤ (Int32.toNatClampNeg (σ.2.2.1 11 (Int32.toNatClampNeg b))) → σ74.2.2.1 55 k = nI (levM (wC σ a) (wC σ b) (j49 - 1) j74 k)) → g6_74 = nI (lev (wC σ a) (wC σ b) (j49 - 1) (j74 - 1)) → R G l yX3_fewestChanges cX3_fewestChanges 10 (some .int) 1 0 0 (QI (fun x w2 => ∃ σ2, w2 = WW σ2 ∧ Inv σ2 ∧ Cor σ σ2 ∧ x = nI (lev (wC σ a) (wC σ b) (Int32.toNatClampNeg (σ.2.2.1 11 (Int32.toNatClampNeg a))) (Int32.toNatClampNeg (σ.2.2.1 11 (Int32.toNatClampNeg b)))))) 74 [(some (.ref 12)), (some (.int a)), (some (.int b)), (some (.int (σ.2.2.1 11 (Int32.toNatClampNeg a)))), (some (.int (σ.2.2.1 11 (Int32.toNatClampNeg b)))), (some (.int (nI j49))), (some (.int g6_74)), (some (.int (nI j74))), g8_74, g9_74] [] (WW σ74) 0 0 := by
              intro q
              induction q with
              | zero =>
                intro j74 σ74 g6_74 g8_74 g9_74 hj hs74 hI74 hC74 hX74_0 hX74_1
                obtain rfl : j74 = 9 := by omega
                refine R_iload (pc := 74) dX3_fewestChanges_74 rfl ?_
                refine R_iload (pc := 76) dX3_fewestChanges_76 rfl ?_
                refine R_icgt (pc := 78) 187 dX3_fewestChanges_78 (by decide) (fun _ => ?_) (fun h => False.elim (by have q1 := ti_nlt h; have q2 := ti_in (show inR (nI 9) 9 9 from (inR_self _)); have q3 := ti_in (show inR (σ.2.2.1 11 (Int32.toNatClampNeg b)) 0 8 from (iva_11 hI _ (lt_of_vp hx2))); have z0 : (0 : Int32).toInt = 0 := (by decide);  have z1 : (11 : Int32).toInt = 11 := (by decide);  have z2 : (8 : Int32).toInt = 8 := (by decide);  have z3 : (9 : Int32).toInt = 9 := (by decide); omega))
                refine inc_10_5_1_i (pc := 187) dX3_fewestChanges_187 ?_
                have r12 : inR ((nI j49) + 1) 2 9 := inR_add (show inR (nI j49) 1 8 from hrg49) (show inR 1 1 1 from (inR_self _)) (by decide) (by decide)
                have e13 := ti_add (l := 2) (h := 9) (show inR (nI j49) 1 8 from hrg49) (show inR 1 1 1 from (inR_self _)) (by decide) (by decide)
                refine R_goto (pc := 190) 49 dX3_fewestChanges_190 (by decide) ?_
                rw [nI_1]
                exact ih49 (j49 + 1) _ _ _ _ _ (by omega) (by omega) hI74 hC74 (li_e (by omega) (show Int32.toNatClampNeg (σ.2.2.1 11 (Int32.toNatClampNeg b)) < 9 from Nat.lt_succ_of_le (clamp8 (iva_11 hI _ (clamp19 hb)))) hX74_0) (show j49 + 1 - 1 ≤ (Int32.toNatClampNeg (σ.2.2.1 11 (Int32.toNatClampNeg a))) from le_jc (by omega) b52_6)
              | succ q ih74 =>
                intro j74 σ74 g6_74 g8_74 g9_74 hj hs74 hI74 hC74 hX74_0 hX74_1
                have hrg74 : inR (nI j74) 1 8 := inR_ix hs74 (show j74 < 9 by omega) (by decide) (by decide) (by decide)
                have hlt74 : j74 < 9 := by omega
                refine R_iload (pc := 74) dX3_fewestChanges_74 rfl ?_
                refine R_iload (pc := 76) dX3_fewestChanges_76 rfl ?_
                refine R_icgt (pc := 78) 187 dX3_fewestChanges_78 (by decide) (fun b78_14 => ?_) (fun b78_14 => ?_)
                · skip
                  refine inc_10_5_1_i (pc := 187) dX3_fewestChanges_187 ?_
                  have r15 : inR ((nI j49) + 1) 2 9 := inR_add (show inR (nI j49) 1 8 from hrg49) (show inR 1 1 1 from (inR_self _)) (by decide) (by decide)
                  have e16 := ti_add (l := 2) (h := 9) (show inR (nI j49) 1 8 from hrg49) (show inR 1 1 1 from (inR_self _)) (by decide) (by decide)
                  refine R_goto (pc := 190) 49 dX3_fewestChanges_190 (by decide) ?_
                  rw [nI_1]
                  exact ih49 (j49 + 1) _ _ _ _ _ (by omega) (by omega) hI74 hC74 (li_e (by omega) (lt_jc (by omega) b78_14 (iva_11 hI _ (clamp19 hb))) hX74_0) (show j49 + 1 - 1 ≤ (Int32.toNatClampNeg (σ.2.2.1 11 (Int32.toNatClampNeg a))) from le_jc (by omega) b52_6)
                · skip
                  refine R_aload_n (pc := 81) dX3_fewestChanges_81 rfl rfl ?_
                  refine g_X3_27 (pc := 82) (v := .ref 1) rfl dX3_fewestChanges_82 (c_12 _) rfl ?_
                  refine g_X3_75 (pc := 85) (v := .ref 10) rfl dX3_fewestChanges_85 (c_1 _) rfl ?_
                  refine R_iload_n (pc := 88) dX3_fewestChanges_88 rfl rfl ?_
                  have hx17 : vp_in a 20 := (vp_of_inR ha (by decide))
                  refine R_laload (pc := 89) dX3_fewestChanges_89 (c_10 _) hx17 ?_
                  refine R_iload (pc := 90) dX3_fewestChanges_90 rfl ?_
                  refine R_iconst (pc := 92) (v := 1) dX3_fewestChanges_92 (by decide) ?_
                  refine R_isub (pc := 93) dX3_fewestChanges_93 ?_
                  have r18 : inR ((nI j49) - 1) 0 7 := inR_sub (show inR (nI j49) 1 8 from hrg49) (show inR 1 1 1 from (inR_self _)) (by decide) (by decide)
                  have e19 := ti_sub (l := 0) (h := 7) (show inR (nI j49) 1 8 from hrg49) (show inR 1 1 1 from (inR_self _)) (by decide) (by decide)
                  refine k_X3_78 (pc := 94) (sp_X8_byteOf _ _ _) rfl (by decide) (Nat.le_refl _) (Nat.le_refl _) (Nat.le_of_ble_eq_true rfl) dX3_fewestChanges_94 (fun x w2 h => ?_)
                  obtain ⟨rfl, rfl⟩ := h
                  refine R_cv (byI (σ74.2.2.2.1 10 (Int32.toNatClampNeg a)) ((nI j49) - 1)) rfl ?_
                  refine R_aload_n (pc := 97) dX3_fewestChanges_97 rfl rfl ?_
                  refine g_X3_27 (pc := 98) (v := .ref 1) rfl dX3_fewestChanges_98 (c_12 _) rfl ?_
                  refine g_X3_75 (pc := 101) (v := .ref 10) rfl dX3_fewestChanges_101 (c_1 _) rfl ?_
                  refine R_iload_n (pc := 104) dX3_fewestChanges_104 rfl rfl ?_
                  have hx20 : vp_in b 20 := (vp_of_inR hb (by decide))
                  refine R_laload (pc := 105) dX3_fewestChanges_105 (c_10 _) hx20 ?_
                  refine R_iload (pc := 106) dX3_fewestChanges_106 rfl ?_
                  refine R_iconst (pc := 108) (v := 1) dX3_fewestChanges_108 (by decide) ?_
                  refine R_isub (pc := 109) dX3_fewestChanges_109 ?_
                  have r21 : inR ((nI j74) - 1) 0 7 := inR_sub (show inR (nI j74) 1 8 from hrg74) (show inR 1 1 1 from (inR_self _)) (by decide) (by decide)
                  have e22 := ti_sub (l := 0) (h := 7) (show inR (nI j74) 1 8 from hrg74) (show inR 1 1 1 from (inR_self _)) (by decide) (by decide)
                  refine k_X3_78 (pc := 110) (sp_X8_byteOf _ _ _) rfl (by decide) (Nat.le_refl _) (Nat.le_refl _) (Nat.le_of_ble_eq_true rfl) dX3_fewestChanges_110 (fun x w2 h => ?_)
                  obtain ⟨rfl, rfl⟩ := h
                  refine R_cv (byI (σ74.2.2.2.1 10 (Int32.toNatClampNeg b)) ((nI j74) - 1)) rfl ?_
                  refine R_icne (pc := 113) 120 dX3_fewestChanges_113 (by decide) (fun b113_23 => ?_) (fun b113_23 => ?_)
                  · skip
                    refine R_iconst (pc := 120) (v := 0) dX3_fewestChanges_120 (by decide) ?_
                    refine st_10_8_i_i (pc := 121) dX3_fewestChanges_121 ?_
                    refine R_iload (pc := 123) dX3_fewestChanges_123 rfl ?_
                    refine R_ifeq (pc := 125) 133 dX3_fewestChanges_125 (by decide) (fun _ => ?_) (fun h => absurd (by decide) h)
                    refine R_iload (pc := 133) dX3_fewestChanges_133 rfl ?_
                    refine R_iconst (pc := 135) (v := 1) dX3_fewestChanges_135 (by decide) ?_
                    refine R_iadd (pc := 136) dX3_fewestChanges_136 ?_
                    refine st_10_9_i_i (pc := 137) dX3_fewestChanges_137 ?_
                    refine R_aload_n (pc := 139) dX3_fewestChanges_139 rfl rfl ?_
                    refine g_X3_19 (pc := 140) (v := .ref 55) rfl dX3_fewestChanges_140 (c_12 _) rfl ?_
                    refine R_iload (pc := 143) dX3_fewestChanges_143 rfl ?_
                    have hx25 : vp_in (nI j74) 9 := (vp_in_nI (by omega) (by decide))
                    refine R_iaload (pc := 145) dX3_fewestChanges_145 (c_55 _) hx25 ?_
                    refine st_10_6_i_i (pc := 146) dX3_fewestChanges_146 ?_
                    refine R_aload_n (pc := 148) dX3_fewestChanges_148 rfl rfl ?_
                    refine g_X3_19 (pc := 149) (v := .ref 55) rfl dX3_fewestChanges_149 (c_12 _) rfl ?_
                    refine R_iload (pc := 152) dX3_fewestChanges_152 rfl ?_
                    refine R_iload (pc := 154) dX3_fewestChanges_154 rfl ?_
                    refine R_aload_n (pc := 156) dX3_fewestChanges_156 rfl rfl ?_
                    refine g_X3_19 (pc := 157) (v := .ref 55) rfl dX3_fewestChanges_157 (c_12 _) rfl ?_
                    refine R_iload (pc := 160) dX3_fewestChanges_160 rfl ?_
                    have hx26 : vp_in (nI j74) 9 := (vp_in_nI (by omega) (by decide))
                    refine R_iaload (pc := 162) dX3_fewestChanges_162 (c_55 _) hx26 ?_
                    refine R_aload_n (pc := 163) dX3_fewestChanges_163 rfl rfl ?_
                    refine g_X3_19 (pc := 164) (v := .ref 55) rfl dX3_fewestChanges_164 (c_12 _) rfl ?_
                    refine R_iload (pc := 167) dX3_fewestChanges_167 rfl ?_
                    refine R_iconst (pc := 169) (v := 1) dX3_fewestChanges_169 (by decide) ?_
                    refine R_isub (pc := 170) dX3_fewestChanges_170 ?_
                    have r27 : inR ((nI j74) - 1) 0 7 := inR_sub (show inR (nI j74) 1 8 from hrg74) (show inR 1 1 1 from (inR_self _)) (by decide) (by decide)
                    have e28 := ti_sub (l := 0) (h := 7) (show inR (nI j74) 1 8 from hrg74) (show inR 1 1 1 from (inR_self _)) (by decide) (by decide)
                    have hx29 : vp_in ((nI j74) - 1) 9 := (vp_of_inR r27 (by decide))
                    refine R_iaload (pc := 171) dX3_fewestChanges_171 (c_55 _) hx29 ?_
                    refine R_mmin (pc := 172) wm_376 dX3_fewestChanges_172 (by decide) (Nat.le_of_ble_eq_true rfl) (Nat.zero_le _) (Nat.zero_le _) ?_
                    refine R_iconst (pc := 175) (v := 1) dX3_fewestChanges_175 (by decide) ?_
                    refine R_iadd (pc := 176) dX3_fewestChanges_176 ?_
                    refine R_mmin (pc := 177) wm_376 dX3_fewestChanges_177 (by decide) (Nat.le_of_ble_eq_true rfl) (Nat.zero_le _) (Nat.zero_le _) ?_
                    have hx30 : vp_in (nI j74) 9 := (vp_in_nI (by omega) (by decide))
                    refine W_iastore (pc := 180) dX3_fewestChanges_180 (c_55 _) hx30 (a_55 _ _) ?_
                    have hW31 := cor_sa 55 (upd (σ74.2.2.1 55) (Int32.toNatClampNeg (nI j74)) (if ((if (σ74.2.2.1 55 (Int32.toNatClampNeg ((nI j74) - 1))) < (σ74.2.2.1 55 (Int32.toNatClampNeg (nI j74))) then (σ74.2.2.1 55 (Int32.toNatClampNeg ((nI j74) - 1))) else (σ74.2.2.1 55 (Int32.toNatClampNeg (nI j74)))) + 1) < (g6_74 + 1) then ((if (σ74.2.2.1 55 (Int32.toNatClampNeg ((nI j74) - 1))) < (σ74.2.2.1 55 (Int32.toNatClampNeg (nI j74))) then (σ74.2.2.1 55 (Int32.toNatClampNeg ((nI j74) - 1))) else (σ74.2.2.1 55 (Int32.toNatClampNeg (nI j74)))) + 1) else (g6_74 + 1))) hC74 rfl
                    refine inc_10_7_1_i (pc := 181) dX3_fewestChanges_181 ?_
                    have r32 : inR ((nI j74) + 1) 2 9 := inR_add (show inR (nI j74) 1 8 from hrg74) (show inR 1 1 1 from (inR_self _)) (by decide) (by decide)
                    have e33 := ti_add (l := 2) (h := 9) (show inR (nI j74) 1 8 from hrg74) (show inR 1 1 1 from (inR_self _)) (by decide) (by decide)
                    refine R_goto (pc := 184) 74 dX3_fewestChanges_184 (by decide) ?_
                    rw [nI_1]
                    exact ih74 (j74 + 1) _ _ _ _ (by omega) (by omega) hI74 hW31 (li_s (by omega) (by omega) hX74_0 (levC_s (by omega) (cost_f (show ¬ (wC σ a) (j49 - 1) = (wC σ b) (j74 - 1) from (by have q := b113_23; rw [hC74.2.2.2.1 10, nI_p (by omega), nI_p (by omega)] at q; exact q)) hX74_1) ((li_r (by omega) (le_jc (by omega) b78_14) hX74_0).trans (by rw [show j74 - 1 + 1 = j74 from by omega])) (li_p (by omega) (by omega) (le_jc (by omega) b78_14) hX74_0))) (show _ = nI (lev (wC σ a) (wC σ b) (j49 - 1) j74) from li_r (by omega) (le_jc (by omega) b78_14) hX74_0)
                  · skip
                    refine R_iconst (pc := 116) (v := 1) dX3_fewestChanges_116 (by decide) ?_
                    refine R_goto (pc := 117) 121 dX3_fewestChanges_117 (by decide) ?_
                    refine st_10_8_i_i (pc := 121) dX3_fewestChanges_121 ?_
                    refine R_iload (pc := 123) dX3_fewestChanges_123 rfl ?_
                    refine R_ifeq (pc := 125) 133 dX3_fewestChanges_125 (by decide) (fun h => absurd h (by decide)) (fun _ => ?_)
                    refine R_iload (pc := 128) dX3_fewestChanges_128 rfl ?_
                    refine R_goto (pc := 130) 137 dX3_fewestChanges_130 (by decide) ?_
                    refine st_10_9_i_i (pc := 137) dX3_fewestChanges_137 ?_
                    refine R_aload_n (pc := 139) dX3_fewestChanges_139 rfl rfl ?_
                    refine g_X3_19 (pc := 140) (v := .ref 55) rfl dX3_fewestChanges_140 (c_12 _) rfl ?_
                    refine R_iload (pc := 143) dX3_fewestChanges_143 rfl ?_
                    have hx35 : vp_in (nI j74) 9 := (vp_in_nI (by omega) (by decide))
                    refine R_iaload (pc := 145) dX3_fewestChanges_145 (c_55 _) hx35 ?_
                    refine st_10_6_i_i (pc := 146) dX3_fewestChanges_146 ?_
                    refine R_aload_n (pc := 148) dX3_fewestChanges_148 rfl rfl ?_
                    refine g_X3_19 (pc := 149) (v := .ref 55) rfl dX3_fewestChanges_149 (c_12 _) rfl ?_
                    refine R_iload (pc := 152) dX3_fewestChanges_152 rfl ?_
                    refine R_iload (pc := 154) dX3_fewestChanges_154 rfl ?_
                    refine R_aload_n (pc := 156) dX3_fewestChanges_156 rfl rfl ?_
                    refine g_X3_19 (pc := 157) (v := .ref 55) rfl dX3_fewestChanges_157 (c_12 _) rfl ?_
                    refine R_iload (pc := 160) dX3_fewestChanges_160 rfl ?_
                    have hx36 : vp_in (nI j74) 9 := (vp_in_nI (by omega) (by decide))
                    refine R_iaload (pc := 162) dX3_fewestChanges_162 (c_55 _) hx36 ?_
                    refine R_aload_n (pc := 163) dX3_fewestChanges_163 rfl rfl ?_
                    refine g_X3_19 (pc := 164) (v := .ref 55) rfl dX3_fewestChanges_164 (c_12 _) rfl ?_
                    refine R_iload (pc := 167) dX3_fewestChanges_167 rfl ?_
                    refine R_iconst (pc := 169) (v := 1) dX3_fewestChanges_169 (by decide) ?_
                    refine R_isub (pc := 170) dX3_fewestChanges_170 ?_
                    have r37 : inR ((nI j74) - 1) 0 7 := inR_sub (show inR (nI j74) 1 8 from hrg74) (show inR 1 1 1 from (inR_self _)) (by decide) (by decide)
                    have e38 := ti_sub (l := 0) (h := 7) (show inR (nI j74) 1 8 from hrg74) (show inR 1 1 1 from (inR_self _)) (by decide) (by decide)
                    have hx39 : vp_in ((nI j74) - 1) 9 := (vp_of_inR r37 (by decide))
                    refine R_iaload (pc := 171) dX3_fewestChanges_171 (c_55 _) hx39 ?_
                    refine R_mmin (pc := 172) wm_376 dX3_fewestChanges_172 (by decide) (Nat.le_of_ble_eq_true rfl) (Nat.zero_le _) (Nat.zero_le _) ?_
                    refine R_iconst (pc := 175) (v := 1) dX3_fewestChanges_175 (by decide) ?_
                    refine R_iadd (pc := 176) dX3_fewestChanges_176 ?_
                    refine R_mmin (pc := 177) wm_376 dX3_fewestChanges_177 (by decide) (Nat.le_of_ble_eq_true rfl) (Nat.zero_le _) (Nat.zero_le _) ?_
                    have hx40 : vp_in (nI j74) 9 := (vp_in_nI (by omega) (by decide))
                    refine W_iastore (pc := 180) dX3_fewestChanges_180 (c_55 _) hx40 (a_55 _ _) ?_
                    have hW41 := cor_sa 55 (upd (σ74.2.2.1 55) (Int32.toNatClampNeg (nI j74)) (if ((if (σ74.2.2.1 55 (Int32.toNatClampNeg ((nI j74) - 1))) < (σ74.2.2.1 55 (Int32.toNatClampNeg (nI j74))) then (σ74.2.2.1 55 (Int32.toNatClampNeg ((nI j74) - 1))) else (σ74.2.2.1 55 (Int32.toNatClampNeg (nI j74)))) + 1) < g6_74 then ((if (σ74.2.2.1 55 (Int32.toNatClampNeg ((nI j74) - 1))) < (σ74.2.2.1 55 (Int32.toNatClampNeg (nI j74))) then (σ74.2.2.1 55 (Int32.toNatClampNeg ((nI j74) - 1))) else (σ74.2.2.1 55 (Int32.toNatClampNeg (nI j74)))) + 1) else g6_74)) hC74 rfl
                    refine inc_10_7_1_i (pc := 181) dX3_fewestChanges_181 ?_
                    have r42 : inR ((nI j74) + 1) 2 9 := inR_add (show inR (nI j74) 1 8 from hrg74) (show inR 1 1 1 from (inR_self _)) (by decide) (by decide)
                    have e43 := ti_add (l := 2) (h := 9) (show inR (nI j74) 1 8 from hrg74) (show inR 1 1 1 from (inR_self _)) (by decide) (by decide)
                    refine R_goto (pc := 184) 74 dX3_fewestChanges_184 (by decide) ?_
                    rw [nI_1]
                    exact ih74 (j74 + 1) _ _ _ _ (by omega) (by omega) hI74 hW41 (li_s (by omega) (by omega) hX74_0 (levC_s (by omega) (cost_t (show (wC σ a) (j49 - 1) = (wC σ b) (j74 - 1) from (by have q := b113_23; rw [hC74.2.2.2.1 10, nI_p (by omega), nI_p (by omega)] at q; exact q)) hX74_1) ((li_r (by omega) (le_jc (by omega) b78_14) hX74_0).trans (by rw [show j74 - 1 + 1 = j74 from by omega])) (li_p (by omega) (by omega) (le_jc (by omega) b78_14) hX74_0))) (show _ = nI (lev (wC σ a) (wC σ b) (j49 - 1) j74) from li_r (by omega) (le_jc (by omega) b78_14) hX74_0)
            exact HL74 8 1 _ _ _ _ (by omega) (by omega) hI49 hW10 (li_0 (by omega) hX49_0) (hX49_0 0 (Nat.zero_le _))
      exact HL49 8 1 _ _ _ _ _ (by omega) (by omega) hI24 hC24 (fun k hk => hX24_0 k (by have q := (show Int32.toNatClampNeg (σ.2.2.1 11 (Int32.toNatClampNeg b)) < 9 from Nat.lt_succ_of_le (clamp8 (iva_11 hI _ (clamp19 hb)))); omega)) (Nat.zero_le _)
    | succ q ih24 =>
      intro j24 σ24 hj hs24 hI24 hC24 hX24_0
      have hrg24 : inR (nI j24) 0 8 := inR_ix hs24 (show j24 < 9 by omega) (by decide) (by decide) (by decide)
      have hlt24 : j24 < 9 := by omega
      refine R_iload (pc := 24) dX3_fewestChanges_24 rfl ?_
      refine R_iload (pc := 26) dX3_fewestChanges_26 rfl ?_
      refine R_icgt (pc := 28) 46 dX3_fewestChanges_28 (by decide) (fun b28_44 => ?_) (fun b28_44 => ?_)
      · skip
        refine R_iconst (pc := 46) (v := 1) dX3_fewestChanges_46 (by decide) ?_
        refine st_10_5_i_i (pc := 47) dX3_fewestChanges_47 ?_
        have HL49 : ∀ (q j49 : Nat) (σ49 : Sg) (g6_49 : Option Value) (g7_49 : Option Value) (g8_49 : Option Value) (g9_49 : Option Value), j49 + q = 9 → 1 ≤ j49 → Inv σ49 → Cor σ σ49 → (∀ k : Nat, k ≤ (Int32.toNatClampNeg (σ.2.2.1 11 (Int32.toNatClampNeg b))) → σ49.2.2.1 55 k = nI (lev (wC σ a) (wC σ b) (j49 - 1) k)) → j49 - 1 ≤ (Int32.toNatClampNeg (σ.2.2.1 11 (Int32.toNatClampNeg a))) → R G l yX3_fewestChanges cX3_fewestChanges 10 (some .int) 1 0 0 (QI (fun x w2 => ∃ σ2, w2 = WW σ2 ∧ Inv σ2 ∧ Cor σ σ2 ∧ x = nI (lev (wC σ a) (wC σ b) (Int32.toNatClampNeg (σ.2.2.1 11 (Int32.toNatClampNeg a))) (Int32.toNatClampNeg (σ.2.2.1 11 (Int32.toNatClampNeg b)))))) 49 [(some (.ref 12)), (some (.int a)), (some (.int b)), (some (.int (σ.2.2.1 11 (Int32.toNatClampNeg a)))), (some (.int (σ.2.2.1 11 (Int32.toNatClampNeg b)))), (some (.int (nI j49))), g6_49, g7_49, g8_49, g9_49] [] (WW σ49) 0 0 := by
          intro q
          induction q with
          | zero =>
            intro j49 σ49 g6_49 g7_49 g8_49 g9_49 hj hs49 hI49 hC49 hX49_0 hX49_1
            obtain rfl : j49 = 9 := by omega
            refine R_iload (pc := 49) dX3_fewestChanges_49 rfl ?_
            refine R_iload_n (pc := 51) dX3_fewestChanges_51 rfl rfl ?_
            refine R_icgt (pc := 52) 193 dX3_fewestChanges_52 (by decide) (fun _ => ?_) (fun h => False.elim (by have q1 := ti_nlt h; have q2 := ti_in (show inR (nI 9) 9 9 from (inR_self _)); have q3 := ti_in (show inR (σ.2.2.1 11 (Int32.toNatClampNeg a)) 0 8 from (iva_11 hI _ (lt_of_vp hx1))); have z0 : (0 : Int32).toInt = 0 := (by decide);  have z1 : (11 : Int32).toInt = 11 := (by decide);  have z2 : (8 : Int32).toInt = 8 := (by decide);  have z3 : (9 : Int32).toInt = 9 := (by decide); omega))
            refine R_aload_n (pc := 193) dX3_fewestChanges_193 rfl rfl ?_
            refine g_X3_19 (pc := 194) (v := .ref 55) rfl dX3_fewestChanges_194 (c_12 _) rfl ?_
            refine R_iload (pc := 197) dX3_fewestChanges_197 rfl ?_
            have hx46 : vp_in (σ.2.2.1 11 (Int32.toNatClampNeg b)) 9 := (vp_of_inR (iva_11 hI _ (lt_of_vp hx2)) (by decide))
            refine R_iaload (pc := 199) dX3_fewestChanges_199 (c_55 _) hx46 ?_
            exact R_iret (pc := 200) dX3_fewestChanges_200 rfl rfl (Nat.zero_le _) (Nat.zero_le _) ⟨_, rfl, _, rfl, hI49, hC49, (by rw [← (show 9 - 1 = (Int32.toNatClampNeg (σ.2.2.1 11 (Int32.toNatClampNeg a))) from by have q := (show Int32.toNatClampNeg (σ.2.2.1 11 (Int32.toNatClampNeg a)) < 9 from Nat.lt_succ_of_le (clamp8 (iva_11 hI _ (clamp19 ha)))); omega)]; exact hX49_0 _ (Nat.le_refl _))⟩
          | succ q ih49 =>
            intro j49 σ49 g6_49 g7_49 g8_49 g9_49 hj hs49 hI49 hC49 hX49_0 hX49_1
            have hrg49 : inR (nI j49) 1 8 := inR_ix hs49 (show j49 < 9 by omega) (by decide) (by decide) (by decide)
            have hlt49 : j49 < 9 := by omega
            refine R_iload (pc := 49) dX3_fewestChanges_49 rfl ?_
            refine R_iload_n (pc := 51) dX3_fewestChanges_51 rfl rfl ?_
            refine R_icgt (pc := 52) 193 dX3_fewestChanges_52 (by decide) (fun b52_47 => ?_) (fun b52_47 => ?_)
            · skip
              refine R_aload_n (pc := 193) dX3_fewestChanges_193 rfl rfl ?_
              refine g_X3_19 (pc := 194) (v := .ref 55) rfl dX3_fewestChanges_194 (c_12 _) rfl ?_
              refine R_iload (pc := 197) dX3_fewestChanges_197 rfl ?_
              have hx48 : vp_in (σ.2.2.1 11 (Int32.toNatClampNeg b)) 9 := (vp_of_inR (iva_11 hI _ (lt_of_vp hx2)) (by decide))
              refine R_iaload (pc := 199) dX3_fewestChanges_199 (c_55 _) hx48 ?_
              exact R_iret (pc := 200) dX3_fewestChanges_200 rfl rfl (Nat.zero_le _) (Nat.zero_le _) ⟨_, rfl, _, rfl, hI49, hC49, (by rw [← (show j49 - 1 = (Int32.toNatClampNeg (σ.2.2.1 11 (Int32.toNatClampNeg a))) from by have q := (lt_jc (by omega) b52_47 (iva_11 hI _ (clamp19 ha))); omega)]; exact hX49_0 _ (Nat.le_refl _))⟩
            · skip
              refine R_aload_n (pc := 55) dX3_fewestChanges_55 rfl rfl ?_
              refine g_X3_19 (pc := 56) (v := .ref 55) rfl dX3_fewestChanges_56 (c_12 _) rfl ?_
              refine R_iconst (pc := 59) (v := 0) dX3_fewestChanges_59 (by decide) ?_
              have hx49 : vp_in 0 9 := (by unfold vp_in; decide)
              refine R_iaload (pc := 60) dX3_fewestChanges_60 (c_55 _) hx49 ?_
              refine st_10_6_i_i (pc := 61) dX3_fewestChanges_61 ?_
              refine R_aload_n (pc := 63) dX3_fewestChanges_63 rfl rfl ?_
              refine g_X3_19 (pc := 64) (v := .ref 55) rfl dX3_fewestChanges_64 (c_12 _) rfl ?_
              refine R_iconst (pc := 67) (v := 0) dX3_fewestChanges_67 (by decide) ?_
              refine R_iload (pc := 68) dX3_fewestChanges_68 rfl ?_
              have hx50 : vp_in 0 9 := (by unfold vp_in; decide)
              refine W_iastore (pc := 70) dX3_fewestChanges_70 (c_55 _) hx50 (a_55 _ _) ?_
              have hW51 := cor_sa 55 (upd (σ49.2.2.1 55) (Int32.toNatClampNeg 0) (nI j49)) hC49 rfl
              refine R_iconst (pc := 71) (v := 1) dX3_fewestChanges_71 (by decide) ?_
              refine st_10_7_i_i (pc := 72) dX3_fewestChanges_72 ?_
              have HL74 : ∀ (q j74 : Nat) (σ74 : Sg) (g6_74 : Int32) (g8_74 : Option Value) (g9_74 : Option Value), j74 + q = 9 → 1 ≤ j74 → Inv σ74 → Cor σ σ74 → (∀ k : Nat, k ≤ (Int32.toNatClampNeg (σ.2.2.1 11 (Int32.toNatClampNeg b))) → σ74.2.2.1 55 k = nI (levM (wC σ a) (wC σ b) (j49 - 1) j74 k)) → g6_74 = nI (lev (wC σ a) (wC σ b) (j49 - 1) (j74 - 1)) → R G l yX3_fewestChanges cX3_fewestChanges 10 (some .int) 1 0 0 (QI (fun x w2 => ∃ σ2, w2 = WW σ2 ∧ Inv σ2 ∧ Cor σ σ2 ∧ x = nI (lev (wC σ a) (wC σ b) (Int32.toNatClampNeg (σ.2.2.1 11 (Int32.toNatClampNeg a))) (Int32.toNatClampNeg (σ.2.2.1 11 (Int32.toNatClampNeg b)))))) 74 [(some (.ref 12)), (some (.int a)), (some (.int b)), (some (.int (σ.2.2.1 11 (Int32.toNatClampNeg a)))), (some (.int (σ.2.2.1 11 (Int32.toNatClampNeg b)))), (some (.int (nI j49))), (some (.int g6_74)), (some (.int (nI j74))), g8_74, g9_74] [] (WW σ74) 0 0 := by
                intro q
                induction q with
                | zero =>
                  intro j74 σ74 g6_74 g8_74 g9_74 hj hs74 hI74 hC74 hX74_0 hX74_1
                  obtain rfl : j74 = 9 := by omega
                  refine R_iload (pc := 74) dX3_fewestChanges_74 rfl ?_
                  refine R_iload (pc := 76) dX3_fewestChanges_76 rfl ?_
                  refine R_icgt (pc := 78) 187 dX3_fewestChanges_78 (by decide) (fun _ => ?_) (fun h => False.elim (by have q1 := ti_nlt h; have q2 := ti_in (show inR (nI 9) 9 9 from (inR_self _)); have q3 := ti_in (show inR (σ.2.2.1 11 (Int32.toNatClampNeg b)) 0 8 from (iva_11 hI _ (lt_of_vp hx2))); have z0 : (0 : Int32).toInt = 0 := (by decide);  have z1 : (11 : Int32).toInt = 11 := (by decide);  have z2 : (8 : Int32).toInt = 8 := (by decide);  have z3 : (9 : Int32).toInt = 9 := (by decide); omega))
                  refine inc_10_5_1_i (pc := 187) dX3_fewestChanges_187 ?_
                  have r53 : inR ((nI j49) + 1) 2 9 := inR_add (show inR (nI j49) 1 8 from hrg49) (show inR 1 1 1 from (inR_self _)) (by decide) (by decide)
                  have e54 := ti_add (l := 2) (h := 9) (show inR (nI j49) 1 8 from hrg49) (show inR 1 1 1 from (inR_self _)) (by decide) (by decide)
                  refine R_goto (pc := 190) 49 dX3_fewestChanges_190 (by decide) ?_
                  rw [nI_1]
                  exact ih49 (j49 + 1) _ _ _ _ _ (by omega) (by omega) hI74 hC74 (li_e (by omega) (show Int32.toNatClampNeg (σ.2.2.1 11 (Int32.toNatClampNeg b)) < 9 from Nat.lt_succ_of_le (clamp8 (iva_11 hI _ (clamp19 hb)))) hX74_0) (show j49 + 1 - 1 ≤ (Int32.toNatClampNeg (σ.2.2.1 11 (Int32.toNatClampNeg a))) from le_jc (by omega) b52_47)
                | succ q ih74 =>
                  intro j74 σ74 g6_74 g8_74 g9_74 hj hs74 hI74 hC74 hX74_0 hX74_1
                  have hrg74 : inR (nI j74) 1 8 := inR_ix hs74 (show j74 < 9 by omega) (by decide) (by decide) (by decide)
                  have hlt74 : j74 < 9 := by omega
                  refine R_iload (pc := 74) dX3_fewestChanges_74 rfl ?_
                  refine R_iload (pc := 76) dX3_fewestChanges_76 rfl ?_
                  refine R_icgt (pc := 78) 187 dX3_fewestChanges_78 (by decide) (fun b78_55 => ?_) (fun b78_55 => ?_)
                  · skip
                    refine inc_10_5_1_i (pc := 187) dX3_fewestChanges_187 ?_
                    have r56 : inR ((nI j49) + 1) 2 9 := inR_add (show inR (nI j49) 1 8 from hrg49) (show inR 1 1 1 from (inR_self _)) (by decide) (by decide)
                    have e57 := ti_add (l := 2) (h := 9) (show inR (nI j49) 1 8 from hrg49) (show inR 1 1 1 from (inR_self _)) (by decide) (by decide)
                    refine R_goto (pc := 190) 49 dX3_fewestChanges_190 (by decide) ?_
                    rw [nI_1]
                    exact ih49 (j49 + 1) _ _ _ _ _ (by omega) (by omega) hI74 hC74 (li_e (by omega) (lt_jc (by omega) b78_55 (iva_11 hI _ (clamp19 hb))) hX74_0) (show j49 + 1 - 1 ≤ (Int32.toNatClampNeg (σ.2.2.1 11 (Int32.toNatClampNeg a))) from le_jc (by omega) b52_47)
                  · skip
                    refine R_aload_n (pc := 81) dX3_fewestChanges_81 rfl rfl ?_
                    refine g_X3_27 (pc := 82) (v := .ref 1) rfl dX3_fewestChanges_82 (c_12 _) rfl ?_
                    refine g_X3_75 (pc := 85) (v := .ref 10) rfl dX3_fewestChanges_85 (c_1 _) rfl ?_
                    refine R_iload_n (pc := 88) dX3_fewestChanges_88 rfl rfl ?_
                    have hx58 : vp_in a 20 := (vp_of_inR ha (by decide))
                    refine R_laload (pc := 89) dX3_fewestChanges_89 (c_10 _) hx58 ?_
                    refine R_iload (pc := 90) dX3_fewestChanges_90 rfl ?_
                    refine R_iconst (pc := 92) (v := 1) dX3_fewestChanges_92 (by decide) ?_
                    refine R_isub (pc := 93) dX3_fewestChanges_93 ?_
                    have r59 : inR ((nI j49) - 1) 0 7 := inR_sub (show inR (nI j49) 1 8 from hrg49) (show inR 1 1 1 from (inR_self _)) (by decide) (by decide)
                    have e60 := ti_sub (l := 0) (h := 7) (show inR (nI j49) 1 8 from hrg49) (show inR 1 1 1 from (inR_self _)) (by decide) (by decide)
                    refine k_X3_78 (pc := 94) (sp_X8_byteOf _ _ _) rfl (by decide) (Nat.le_refl _) (Nat.le_refl _) (Nat.le_of_ble_eq_true rfl) dX3_fewestChanges_94 (fun x w2 h => ?_)
                    obtain ⟨rfl, rfl⟩ := h
                    refine R_cv (byI (σ74.2.2.2.1 10 (Int32.toNatClampNeg a)) ((nI j49) - 1)) rfl ?_
                    refine R_aload_n (pc := 97) dX3_fewestChanges_97 rfl rfl ?_
                    refine g_X3_27 (pc := 98) (v := .ref 1) rfl dX3_fewestChanges_98 (c_12 _) rfl ?_
                    refine g_X3_75 (pc := 101) (v := .ref 10) rfl dX3_fewestChanges_101 (c_1 _) rfl ?_
                    refine R_iload_n (pc := 104) dX3_fewestChanges_104 rfl rfl ?_
                    have hx61 : vp_in b 20 := (vp_of_inR hb (by decide))
                    refine R_laload (pc := 105) dX3_fewestChanges_105 (c_10 _) hx61 ?_
                    refine R_iload (pc := 106) dX3_fewestChanges_106 rfl ?_
                    refine R_iconst (pc := 108) (v := 1) dX3_fewestChanges_108 (by decide) ?_
                    refine R_isub (pc := 109) dX3_fewestChanges_109 ?_
                    have r62 : inR ((nI j74) - 1) 0 7 := inR_sub (show inR (nI j74) 1 8 from hrg74) (show inR 1 1 1 from (inR_self _)) (by decide) (by decide)
                    have e63 := ti_sub (l := 0) (h := 7) (show inR (nI j74) 1 8 from hrg74) (show inR 1 1 1 from (inR_self _)) (by decide) (by decide)
                    refine k_X3_78 (pc := 110) (sp_X8_byteOf _ _ _) rfl (by decide) (Nat.le_refl _) (Nat.le_refl _) (Nat.le_of_ble_eq_true rfl) dX3_fewestChanges_110 (fun x w2 h => ?_)
                    obtain ⟨rfl, rfl⟩ := h
                    refine R_cv (byI (σ74.2.2.2.1 10 (Int32.toNatClampNeg b)) ((nI j74) - 1)) rfl ?_
                    refine R_icne (pc := 113) 120 dX3_fewestChanges_113 (by decide) (fun b113_64 => ?_) (fun b113_64 => ?_)
                    · skip
                      refine R_iconst (pc := 120) (v := 0) dX3_fewestChanges_120 (by decide) ?_
                      refine st_10_8_i_i (pc := 121) dX3_fewestChanges_121 ?_
                      refine R_iload (pc := 123) dX3_fewestChanges_123 rfl ?_
                      refine R_ifeq (pc := 125) 133 dX3_fewestChanges_125 (by decide) (fun _ => ?_) (fun h => absurd (by decide) h)
                      refine R_iload (pc := 133) dX3_fewestChanges_133 rfl ?_
                      refine R_iconst (pc := 135) (v := 1) dX3_fewestChanges_135 (by decide) ?_
                      refine R_iadd (pc := 136) dX3_fewestChanges_136 ?_
                      refine st_10_9_i_i (pc := 137) dX3_fewestChanges_137 ?_
                      refine R_aload_n (pc := 139) dX3_fewestChanges_139 rfl rfl ?_
                      refine g_X3_19 (pc := 140) (v := .ref 55) rfl dX3_fewestChanges_140 (c_12 _) rfl ?_
                      refine R_iload (pc := 143) dX3_fewestChanges_143 rfl ?_
                      have hx66 : vp_in (nI j74) 9 := (vp_in_nI (by omega) (by decide))
                      refine R_iaload (pc := 145) dX3_fewestChanges_145 (c_55 _) hx66 ?_
                      refine st_10_6_i_i (pc := 146) dX3_fewestChanges_146 ?_
                      refine R_aload_n (pc := 148) dX3_fewestChanges_148 rfl rfl ?_
                      refine g_X3_19 (pc := 149) (v := .ref 55) rfl dX3_fewestChanges_149 (c_12 _) rfl ?_
                      refine R_iload (pc := 152) dX3_fewestChanges_152 rfl ?_
                      refine R_iload (pc := 154) dX3_fewestChanges_154 rfl ?_
                      refine R_aload_n (pc := 156) dX3_fewestChanges_156 rfl rfl ?_
                      refine g_X3_19 (pc := 157) (v := .ref 55) rfl dX3_fewestChanges_157 (c_12 _) rfl ?_
                      refine R_iload (pc := 160) dX3_fewestChanges_160 rfl ?_
                      have hx67 : vp_in (nI j74) 9 := (vp_in_nI (by omega) (by decide))
                      refine R_iaload (pc := 162) dX3_fewestChanges_162 (c_55 _) hx67 ?_
                      refine R_aload_n (pc := 163) dX3_fewestChanges_163 rfl rfl ?_
                      refine g_X3_19 (pc := 164) (v := .ref 55) rfl dX3_fewestChanges_164 (c_12 _) rfl ?_
                      refine R_iload (pc := 167) dX3_fewestChanges_167 rfl ?_
                      refine R_iconst (pc := 169) (v := 1) dX3_fewestChanges_169 (by decide) ?_
                      refine R_isub (pc := 170) dX3_fewestChanges_170 ?_
                      have r68 : inR ((nI j74) - 1) 0 7 := inR_sub (show inR (nI j74) 1 8 from hrg74) (show inR 1 1 1 from (inR_self _)) (by decide) (by decide)
                      have e69 := ti_sub (l := 0) (h := 7) (show inR (nI j74) 1 8 from hrg74) (show inR 1 1 1 from (inR_self _)) (by decide) (by decide)
                      have hx70 : vp_in ((nI j74) - 1) 9 := (vp_of_inR r68 (by decide))
                      refine R_iaload (pc := 171) dX3_fewestChanges_171 (c_55 _) hx70 ?_
                      refine R_mmin (pc := 172) wm_376 dX3_fewestChanges_172 (by decide) (Nat.le_of_ble_eq_true rfl) (Nat.zero_le _) (Nat.zero_le _) ?_
                      refine R_iconst (pc := 175) (v := 1) dX3_fewestChanges_175 (by decide) ?_
                      refine R_iadd (pc := 176) dX3_fewestChanges_176 ?_
                      refine R_mmin (pc := 177) wm_376 dX3_fewestChanges_177 (by decide) (Nat.le_of_ble_eq_true rfl) (Nat.zero_le _) (Nat.zero_le _) ?_
                      have hx71 : vp_in (nI j74) 9 := (vp_in_nI (by omega) (by decide))
                      refine W_iastore (pc := 180) dX3_fewestChanges_180 (c_55 _) hx71 (a_55 _ _) ?_
                      have hW72 := cor_sa 55 (upd (σ74.2.2.1 55) (Int32.toNatClampNeg (nI j74)) (if ((if (σ74.2.2.1 55 (Int32.toNatClampNeg ((nI j74) - 1))) < (σ74.2.2.1 55 (Int32.toNatClampNeg (nI j74))) then (σ74.2.2.1 55 (Int32.toNatClampNeg ((nI j74) - 1))) else (σ74.2.2.1 55 (Int32.toNatClampNeg (nI j74)))) + 1) < (g6_74 + 1) then ((if (σ74.2.2.1 55 (Int32.toNatClampNeg ((nI j74) - 1))) < (σ74.2.2.1 55 (Int32.toNatClampNeg (nI j74))) then (σ74.2.2.1 55 (Int32.toNatClampNeg ((nI j74) - 1))) else (σ74.2.2.1 55 (Int32.toNatClampNeg (nI j74)))) + 1) else (g6_74 + 1))) hC74 rfl
                      refine inc_10_7_1_i (pc := 181) dX3_fewestChanges_181 ?_
                      have r73 : inR ((nI j74) + 1) 2 9 := inR_add (show inR (nI j74) 1 8 from hrg74) (show inR 1 1 1 from (inR_self _)) (by decide) (by decide)
                      have e74 := ti_add (l := 2) (h := 9) (show inR (nI j74) 1 8 from hrg74) (show inR 1 1 1 from (inR_self _)) (by decide) (by decide)
                      refine R_goto (pc := 184) 74 dX3_fewestChanges_184 (by decide) ?_
                      rw [nI_1]
                      exact ih74 (j74 + 1) _ _ _ _ (by omega) (by omega) hI74 hW72 (li_s (by omega) (by omega) hX74_0 (levC_s (by omega) (cost_f (show ¬ (wC σ a) (j49 - 1) = (wC σ b) (j74 - 1) from (by have q := b113_64; rw [hC74.2.2.2.1 10, nI_p (by omega), nI_p (by omega)] at q; exact q)) hX74_1) ((li_r (by omega) (le_jc (by omega) b78_55) hX74_0).trans (by rw [show j74 - 1 + 1 = j74 from by omega])) (li_p (by omega) (by omega) (le_jc (by omega) b78_55) hX74_0))) (show _ = nI (lev (wC σ a) (wC σ b) (j49 - 1) j74) from li_r (by omega) (le_jc (by omega) b78_55) hX74_0)
                    · skip
                      refine R_iconst (pc := 116) (v := 1) dX3_fewestChanges_116 (by decide) ?_
                      refine R_goto (pc := 117) 121 dX3_fewestChanges_117 (by decide) ?_
                      refine st_10_8_i_i (pc := 121) dX3_fewestChanges_121 ?_
                      refine R_iload (pc := 123) dX3_fewestChanges_123 rfl ?_
                      refine R_ifeq (pc := 125) 133 dX3_fewestChanges_125 (by decide) (fun h => absurd h (by decide)) (fun _ => ?_)
                      refine R_iload (pc := 128) dX3_fewestChanges_128 rfl ?_
                      refine R_goto (pc := 130) 137 dX3_fewestChanges_130 (by decide) ?_
                      refine st_10_9_i_i (pc := 137) dX3_fewestChanges_137 ?_
                      refine R_aload_n (pc := 139) dX3_fewestChanges_139 rfl rfl ?_
                      refine g_X3_19 (pc := 140) (v := .ref 55) rfl dX3_fewestChanges_140 (c_12 _) rfl ?_
                      refine R_iload (pc := 143) dX3_fewestChanges_143 rfl ?_
                      have hx76 : vp_in (nI j74) 9 := (vp_in_nI (by omega) (by decide))
                      refine R_iaload (pc := 145) dX3_fewestChanges_145 (c_55 _) hx76 ?_
                      refine st_10_6_i_i (pc := 146) dX3_fewestChanges_146 ?_
                      refine R_aload_n (pc := 148) dX3_fewestChanges_148 rfl rfl ?_
                      refine g_X3_19 (pc := 149) (v := .ref 55) rfl dX3_fewestChanges_149 (c_12 _) rfl ?_
                      refine R_iload (pc := 152) dX3_fewestChanges_152 rfl ?_
                      refine R_iload (pc := 154) dX3_fewestChanges_154 rfl ?_
                      refine R_aload_n (pc := 156) dX3_fewestChanges_156 rfl rfl ?_
                      refine g_X3_19 (pc := 157) (v := .ref 55) rfl dX3_fewestChanges_157 (c_12 _) rfl ?_
                      refine R_iload (pc := 160) dX3_fewestChanges_160 rfl ?_
                      have hx77 : vp_in (nI j74) 9 := (vp_in_nI (by omega) (by decide))
                      refine R_iaload (pc := 162) dX3_fewestChanges_162 (c_55 _) hx77 ?_
                      refine R_aload_n (pc := 163) dX3_fewestChanges_163 rfl rfl ?_
                      refine g_X3_19 (pc := 164) (v := .ref 55) rfl dX3_fewestChanges_164 (c_12 _) rfl ?_
                      refine R_iload (pc := 167) dX3_fewestChanges_167 rfl ?_
                      refine R_iconst (pc := 169) (v := 1) dX3_fewestChanges_169 (by decide) ?_
                      refine R_isub (pc := 170) dX3_fewestChanges_170 ?_
                      have r78 : inR ((nI j74) - 1) 0 7 := inR_sub (show inR (nI j74) 1 8 from hrg74) (show inR 1 1 1 from (inR_self _)) (by decide) (by decide)
                      have e79 := ti_sub (l := 0) (h := 7) (show inR (nI j74) 1 8 from hrg74) (show inR 1 1 1 from (inR_self _)) (by decide) (by decide)
                      have hx80 : vp_in ((nI j74) - 1) 9 := (vp_of_inR r78 (by decide))
                      refine R_iaload (pc := 171) dX3_fewestChanges_171 (c_55 _) hx80 ?_
                      refine R_mmin (pc := 172) wm_376 dX3_fewestChanges_172 (by decide) (Nat.le_of_ble_eq_true rfl) (Nat.zero_le _) (Nat.zero_le _) ?_
                      refine R_iconst (pc := 175) (v := 1) dX3_fewestChanges_175 (by decide) ?_
                      refine R_iadd (pc := 176) dX3_fewestChanges_176 ?_
                      refine R_mmin (pc := 177) wm_376 dX3_fewestChanges_177 (by decide) (Nat.le_of_ble_eq_true rfl) (Nat.zero_le _) (Nat.zero_le _) ?_
                      have hx81 : vp_in (nI j74) 9 := (vp_in_nI (by omega) (by decide))
                      refine W_iastore (pc := 180) dX3_fewestChanges_180 (c_55 _) hx81 (a_55 _ _) ?_
                      have hW82 := cor_sa 55 (upd (σ74.2.2.1 55) (Int32.toNatClampNeg (nI j74)) (if ((if (σ74.2.2.1 55 (Int32.toNatClampNeg ((nI j74) - 1))) < (σ74.2.2.1 55 (Int32.toNatClampNeg (nI j74))) then (σ74.2.2.1 55 (Int32.toNatClampNeg ((nI j74) - 1))) else (σ74.2.2.1 55 (Int32.toNatClampNeg (nI j74)))) + 1) < g6_74 then ((if (σ74.2.2.1 55 (Int32.toNatClampNeg ((nI j74) - 1))) < (σ74.2.2.1 55 (Int32.toNatClampNeg (nI j74))) then (σ74.2.2.1 55 (Int32.toNatClampNeg ((nI j74) - 1))) else (σ74.2.2.1 55 (Int32.toNatClampNeg (nI j74)))) + 1) else g6_74)) hC74 rfl
                      refine inc_10_7_1_i (pc := 181) dX3_fewestChanges_181 ?_
                      have r83 : inR ((nI j74) + 1) 2 9 := inR_add (show inR (nI j74) 1 8 from hrg74) (show inR 1 1 1 from (inR_self _)) (by decide) (by decide)
                      have e84 := ti_add (l := 2) (h := 9) (show inR (nI j74) 1 8 from hrg74) (show inR 1 1 1 from (inR_self _)) (by decide) (by decide)
                      refine R_goto (pc := 184) 74 dX3_fewestChanges_184 (by decide) ?_
                      rw [nI_1]
                      exact ih74 (j74 + 1) _ _ _ _ (by omega) (by omega) hI74 hW82 (li_s (by omega) (by omega) hX74_0 (levC_s (by omega) (cost_t (show (wC σ a) (j49 - 1) = (wC σ b) (j74 - 1) from (by have q := b113_64; rw [hC74.2.2.2.1 10, nI_p (by omega), nI_p (by omega)] at q; exact q)) hX74_1) ((li_r (by omega) (le_jc (by omega) b78_55) hX74_0).trans (by rw [show j74 - 1 + 1 = j74 from by omega])) (li_p (by omega) (by omega) (le_jc (by omega) b78_55) hX74_0))) (show _ = nI (lev (wC σ a) (wC σ b) (j49 - 1) j74) from li_r (by omega) (le_jc (by omega) b78_55) hX74_0)
              exact HL74 8 1 _ _ _ _ (by omega) (by omega) hI49 hW51 (li_0 (by omega) hX49_0) (hX49_0 0 (Nat.zero_le _))
        exact HL49 8 1 _ _ _ _ _ (by omega) (by omega) hI24 hC24 (fun k hk => hX24_0 k (by have q := (lt_jc (by omega) b28_44 (iva_11 hI _ (clamp19 hb))); omega)) (Nat.zero_le _)
      · skip
        refine R_aload_n (pc := 31) dX3_fewestChanges_31 rfl rfl ?_
        refine g_X3_19 (pc := 32) (v := .ref 55) rfl dX3_fewestChanges_32 (c_12 _) rfl ?_
        refine R_iload (pc := 35) dX3_fewestChanges_35 rfl ?_
        refine R_iload (pc := 37) dX3_fewestChanges_37 rfl ?_
        have hx85 : vp_in (nI j24) 9 := (vp_in_nI (by omega) (by decide))
        refine W_iastore (pc := 39) dX3_fewestChanges_39 (c_55 _) hx85 (a_55 _ _) ?_
        have hW86 := cor_sa 55 (upd (σ24.2.2.1 55) (Int32.toNatClampNeg (nI j24)) (nI j24)) hC24 rfl
        refine inc_10_5_1_i (pc := 40) dX3_fewestChanges_40 ?_
        have r87 : inR ((nI j24) + 1) 1 9 := inR_add (show inR (nI j24) 0 8 from hrg24) (show inR 1 1 1 from (inR_self _)) (by decide) (by decide)
        have e88 := ti_add (l := 1) (h := 9) (show inR (nI j24) 0 8 from hrg24) (show inR 1 1 1 from (inR_self _)) (by decide) (by decide)
        refine R_goto (pc := 43) 24 dX3_fewestChanges_43 (by decide) ?_
        rw [nI_1]
        exact ih24 (j24 + 1) _ (by omega) (by omega) hI24 hW86 (r0_s (by omega) hX24_0)
  exact HL24 9 0 _ (by omega) (by omega) hI (show Cor σ σ from Cor.rfl' σ) (fun k hk => absurd hk (Nat.not_lt_zero k))
