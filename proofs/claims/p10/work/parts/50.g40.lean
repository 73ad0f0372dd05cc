/-! methods on any state that keeps the invariant -/
/-! exact: what each call answers, and what it makes of the lasting cells -/
def byI (p : Int64) (i : Int32) : Int32 := Int64.toInt32 ((p >>> ((8 * i).toInt64 &&& 63)) &&& 255)
def allL (p : Int64) : Nat → Bool
  | 0 => true
  | j + 1 => allL p j && inB (byI p (nI j)) 97 122
theorem allL_mono {p : Int64} {j : Nat} (h : allL p (j + 1) = false) : ∀ n : Nat, j + 1 ≤ n → allL p n = false := by
  intro n
  induction n with
  | zero => intro h2; omega
  | succ n ih =>
    intro h2
    by_cases e : j = n
    · subst e; exact h
    · unfold allL; rw [ih (by omega)]; rfl
theorem allL_s {p : Int64} {j : Nat} (h : allL p j = true) (hb : inR (byI p (nI j)) 97 122) : allL p (j + 1) = true := by unfold allL; rw [h, inB_t hb]; rfl
theorem allL_f {p : Int64} {j : Nat} (hb : ¬ inR (byI p (nI j)) 97 122) : allL p (j + 1) = false := by unfold allL; rw [inB_f hb, Bool.and_false]
def wrT (f : Nat → Int32) (b : Int32) (p : Int64) : Nat → Nat → Int32
  | 0 => f
  | j + 1 => upd (wrT f b p j) (Int32.toNatClampNeg (b + nI j)) (byI p (nI j))
def shT (f : Nat → Int32) (c : Int32) : Nat → Nat → Int32
  | 0 => f
  | j + 1 => upd (shT f c j) (Int32.toNatClampNeg ((8 * c) + nI j)) 2
def cpT (f : Nat → Int32) (c : Int32) (p : Int64) : Nat → Nat → Int32
  | 0 => f
  | j + 1 => upd (cpT f c p j) (Int32.toNatClampNeg ((8 * c) + nI j)) (byI p (nI j))
def inV (f : Nat → Int32) (l : Int32) : Nat → Bool
  | 0 => false
  | j + 1 => inV f l j || decide (f j = l)
theorem inV_mono {f : Nat → Int32} {l : Int32} {j : Nat} (h : inV f l (j + 1) = true) : ∀ n : Nat, j + 1 ≤ n → inV f l n = true := by
  intro n
  induction n with
  | zero => intro h2; omega
  | succ n ih =>
    intro h2
    by_cases e : j = n
    · subst e; exact h
    · unfold inV; rw [ih (by omega)]; rfl
theorem inV_s {f : Nat → Int32} {l : Int32} {j : Nat} (h : inV f l j = false) (hb : ¬ f j = l) : inV f l (j + 1) = false := by unfold inV; rw [h, decide_eq_false hb]; rfl
theorem inV_t {f : Nat → Int32} {l : Int32} {j : Nat} (hb : f j = l) : inV f l (j + 1) = true := by unfold inV; rw [decide_eq_true hb, Bool.or_true]
/-- is a card there: the class's words, the reference's words -/
def thC (σ : Sg) (c : Int32) : Bool := !decide (c < 0) && (!decide (σ.1 110 ≤ c) && !decide (σ.1 112 < σ.2.2.1 9 c.toNatClampNeg))
def thM (σ : Sg) (c : Int32) : Bool := inB c 0 (nI (tm (σ.1 14000) (σ.1 14013) (σ.2.2.1 148)) - 1)
theorem thC_r {σ : Sg} {c : Int32} (hI : Inv σ) (h : thC σ c = true) : inR c 0 19 := by
  unfold thC at h
  simp only [Bool.and_eq_true, Bool.not_eq_true', decide_eq_false_iff_not] at h
  obtain ⟨h1, h2, -⟩ := h
  have q := ti_in (iv_110 hI)
  have h3 := ti_nlt h1
  have h4 := ti_nle h2
  have z1 : (19 : Int32).toInt = 19 := by decide
  have z2 : (20 : Int32).toInt = 20 := by decide
  exact of_ti (by omega) (by omega)
theorem ne_out {a c : Int32} {M : Int} (h : a.toInt < 0 ∨ M < a.toInt) (hc : 0 ≤ c.toInt ∧ c.toInt ≤ M) : ¬ a = c := by
  rintro rfl
  omega
theorem sw_out {a M : Int32} (h : a.toInt < 0 ∨ M.toInt < a.toInt) : inB a 0 M = false := by
  apply inB_f
  intro q
  have := ti_in q
  have h0 : (0 : Int32).toInt = 0 := by decide
  omega
theorem inB_no {a v b : Int32} (h : inB a v b = false) : ¬ inR a v b := fun h2 => by rw [inB_t h2] at h; cases h
theorem inB_r {v a b : Int32} (h : inB v a b = true) : inR v a b := by
  unfold inB at h
  simp only [Bool.and_eq_true, Bool.not_eq_true', decide_eq_false_iff_not] at h
  exact h
theorem thM_r {σ : Sg} {c : Int32} (h : thM σ c = true) : inR c 0 19 := (ist_t (tm_le _ _ _) (inB_r h)).1
theorem thM_l {σ : Sg} {c : Int32} (h : thM σ c = true) : c.toNatClampNeg < tm (σ.1 14000) (σ.1 14013) (σ.2.2.1 148) := (ist_t (tm_le _ _ _) (inB_r h)).2
theorem eq_of_ge {z lo M : Int32} (hr : inR z lo M) (h : M ≤ z) : z = M := Int32.toInt_inj.mp (by have := ti_in hr; have := ti_le h; omega)
theorem inB_no3 {v : Int32} (h0 : ¬ v = 0) (h1 : ¬ v = 1) (h2 : ¬ v = 2) : inB v 0 2 = false := by
  apply inB_f
  intro h
  obtain ⟨j, hj, rfl⟩ := nI_inR (M := 2) h (by decide)
  rcases (show j = 0 ∨ j = 1 ∨ j = 2 by omega) with rfl | rfl | rfl
  · exact h0 rfl
  · exact h1 rfl
  · exact h2 rfl
theorem inB_i0 {v : Int32} (h : v = 0) : inB v 0 2 = true := by rw [h]; decide
theorem inB_i1 {v : Int32} (h : v = 1) : inB v 0 2 = true := by rw [h]; decide
theorem inB_i2 {v : Int32} (h : v = 2) : inB v 0 2 = true := by rw [h]; decide
/-! the answers, and whether it is done -/
def A_card (l p n b s t z : Int32) : Int32 := bif inB l 0 3 && (inB p 0 4 && inB b 0 4) then (bif inB n 0 99 && (inB s 0 4 && inB t (-1) 20000) then (bif decide (z = 20) then -5 else z) else -3) else -2
def K_card (l p n b s t z : Int32) : Bool := (inB l 0 3 && (inB p 0 4 && inB b 0 4)) && ((inB n 0 99 && (inB s 0 4 && inB t (-1) 20000)) && !decide (z = 20))
def A_cap (th : Bool) (p : Int64) (n : Int32) : Int32 := bif th then (bif inB n 0 8 && allL p n.toNatClampNeg then 1 else -3) else -2
def K_cap (th : Bool) (p : Int64) (n : Int32) : Bool := th && (inB n 0 8 && allL p n.toNatClampNeg)
def A_days (d n : Int32) : Int32 := bif inB n 1 99 && decide (d + n ≤ 999) then d + n else -3
def K_days (d n : Int32) : Bool := inB n 1 99 && decide (d + n ≤ 999)
def A_set (w v sl ao ba : Int32) : Int32 := bif decide (w = 0) then (bif inB v 0 8 then sl else -3) else bif decide (w = 1) then (bif inB v 0 999 then ao else -3) else bif decide (w = 2) then (bif inB v 1 10000 then ba else -3) else -3
def A_shows (th : Bool) (f v was : Int32) : Int32 := bif th && inB f 0 7 then (bif inB v 0 2 then was else -3) else -2
def K_shows (th : Bool) (f v : Int32) : Bool := (th && inB f 0 7) && inB v 0 2
def A_later (tt : Bool) (z : Int32) : Int32 := bif tt then (bif decide (z = 12) then -5 else z + 1) else -2
def K_later (tt : Bool) (z : Int32) : Bool := tt && !decide (z = 12)
def A_unview (th : Bool) (z : Int32) : Int32 := bif th then z else -2
def A_view (th iv : Bool) (l z : Int32) : Int32 := bif th && inB l 0 7 then (bif iv then -4 else bif decide (z = 5) then -5 else z + 1) else -2
def K_view (th iv : Bool) (l z : Int32) : Bool := (th && inB l 0 7) && (!iv && !decide (z = 5))
def A_write (n z : Int32) : Int32 := bif inB n 1 8 then (bif decide (z + n ≤ 160) then z + n else -5) else -3
def K_write (n z : Int32) : Bool := inB n 1 8 && decide (z + n ≤ 160)
def K_feature (f a b : Int32) : Bool := inB f 0 7 && (inB a 0 20000 && inB b a 20000)
def K_back (f a b : Int32) : Bool := inB f 0 4 && (inB a 0 20000 && inB b a 20000)
def K_landmark (a b : Int32) : Bool := inB a 0 7 && inB b 0 64
theorem cor_u0 {S : SC} {ρ σ : Sg} (p : Nat) (h : Cq S ρ σ) : Cq S (uA ρ p (ρ.2.2.1 p)) σ := by
  refine ⟨h.1, h.2.1, fun m q => ?_, h.2.2.2⟩
  show _ = va_up ρ.2.2.1 p _ m
  by_cases e : m = p
  · subst e; rw [up_at]; exact h.2.2.1 m q
  · rw [up_ne _ e]; exact h.2.2.1 m q
theorem cor_uu {S : SC} {ρ σ : Sg} {p : Nat} {F : Nat → Int32} {i : Nat} {v : Int32} (h : Cq S (uA (uA ρ p F) p (upd ((uA ρ p F).2.2.1 p) i v)) σ) : Cq S (uA ρ p (upd F i v)) σ := by
  refine ⟨h.1, h.2.1, fun m q => ?_, h.2.2.2⟩
  have h2 := h.2.2.1 m q
  show _ = va_up ρ.2.2.1 p _ m
  by_cases e : m = p
  · subst e
    rw [h2]
    show va_up (va_up ρ.2.2.1 m F) m (upd (va_up ρ.2.2.1 m F m) i v) m = _
    rw [up_at, up_at, up_at]
  · rw [h2]
    show va_up (va_up ρ.2.2.1 p F) p (upd (va_up ρ.2.2.1 p F p) i v) m = _
    rw [up_ne _ e, up_ne _ e, up_ne _ e]

set_option maxRecDepth 100000 in
set_option maxHeartbeats 40000000 in
theorem ge_X0_isThere {G : vG} {l : Launch} (σ : Sg) (c : Int32) (hI : Inv σ) : Sp G l yX0_isThere cX0_isThere 2 (some .boolean) 0 0 0 [.ref 1, .int c] (WW σ) (QI (fun x w2 => w2 = WW σ ∧ (thC σ c = true ∧ x = 1 ∨ thC σ c = false ∧ x = 0))) := by
  refine Sp_of_R [(some (.ref 1)), (some (.int c))] [] rfl (by simp) rfl (Nat.le_of_ble_eq_true rfl) ?_
  refine R_iload_n (pc := 0) dX0_isThere_0 rfl rfl ?_
  refine R_iflt (pc := 1) 29 dX0_isThere_1 (by decide) (fun b1_1 => ?_) (fun b1_1 => ?_)
  · skip
    refine R_iconst (pc := 29) (v := 0) dX0_isThere_29 (by decide) ?_
    exact R_iret (pc := 30) dX0_isThere_30 rfl rfl (Nat.zero_le _) (Nat.zero_le _) ⟨_, rfl, rfl, Or.inr ⟨(by unfold thC; rw [decide_eq_true b1_1]; simp), rfl⟩⟩
  · skip
    refine R_iload_n (pc := 4) dX0_isThere_4 rfl rfl ?_
    refine R_aload_n (pc := 5) dX0_isThere_5 rfl rfl ?_
    refine g_X0_47 (pc := 6) (v := .int (σ.1 110)) rfl dX0_isThere_6 (c_1 _) rfl ?_
    refine R_icge (pc := 9) 29 dX0_isThere_9 (by decide) (fun b9_2 => ?_) (fun b9_2 => ?_)
    · skip
      refine R_iconst (pc := 29) (v := 0) dX0_isThere_29 (by decide) ?_
      exact R_iret (pc := 30) dX0_isThere_30 rfl rfl (Nat.zero_le _) (Nat.zero_le _) ⟨_, rfl, rfl, Or.inr ⟨(by unfold thC; rw [decide_eq_false b1_1]; rw [decide_eq_true b9_2]; simp), rfl⟩⟩
    · skip
      refine R_aload_n (pc := 12) dX0_isThere_12 rfl rfl ?_
      refine g_X0_34 (pc := 13) (v := .ref 9) rfl dX0_isThere_13 (c_1 _) rfl ?_
      refine R_iload_n (pc := 16) dX0_isThere_16 rfl rfl ?_
      have hx3 : vp_in c 20 := (vp_ti (by have q0 := ti_nlt b1_1; have q1 := ti_nle b9_2; have q2 := ti_in (iv_110 hI); have z0 : (0 : Int32).toInt = 0 := (by decide); have z1 : (1 : Int32).toInt = 1 := (by decide); have z2 : (110 : Int32).toInt = 110 := (by decide); have z3 : (20 : Int32).toInt = 20 := (by decide); omega) (by have q0 := ti_nlt b1_1; have q1 := ti_nle b9_2; have q2 := ti_in (iv_110 hI); have z0 : (0 : Int32).toInt = 0 := (by decide); have z1 : (1 : Int32).toInt = 1 := (by decide); have z2 : (110 : Int32).toInt = 110 := (by decide); have z3 : (20 : Int32).toInt = 20 := (by decide); omega))
      refine R_iaload (pc := 17) dX0_isThere_17 (c_9 _) hx3 ?_
      refine R_aload_n (pc := 18) dX0_isThere_18 rfl rfl ?_
      refine g_X0_43 (pc := 19) (v := .int (σ.1 112)) rfl dX0_isThere_19 (c_1 _) rfl ?_
      refine R_icgt (pc := 22) 29 dX0_isThere_22 (by decide) (fun b22_4 => ?_) (fun b22_4 => ?_)
      · skip
        refine R_iconst (pc := 29) (v := 0) dX0_isThere_29 (by decide) ?_
        exact R_iret (pc := 30) dX0_isThere_30 rfl rfl (Nat.zero_le _) (Nat.zero_le _) ⟨_, rfl, rfl, Or.inr ⟨(by unfold thC; rw [decide_eq_false b1_1]; rw [decide_eq_false b9_2]; rw [decide_eq_true b22_4]; simp), rfl⟩⟩
      · skip
        refine R_iconst (pc := 25) (v := 1) dX0_isThere_25 (by decide) ?_
        refine R_goto (pc := 26) 30 dX0_isThere_26 (by decide) ?_
        exact R_iret (pc := 30) dX0_isThere_30 rfl rfl (Nat.zero_le _) (Nat.zero_le _) ⟨_, rfl, rfl, Or.inl ⟨(by unfold thC; rw [decide_eq_false b1_1, decide_eq_false b9_2, decide_eq_false b22_4]; rfl), rfl⟩⟩
def ttC (σ : Sg) (a b : Int32) : Bool := !decide (a = b) && (thC σ a && thC σ b)
theorem ttC_r {σ : Sg} {a b : Int32} (hI : Inv σ) (h : ttC σ a b = true) : inR a 0 19 ∧ inR b 0 19 := by
  unfold ttC at h
  simp only [Bool.and_eq_true] at h
  exact ⟨thC_r hI h.2.1, thC_r hI h.2.2⟩
set_option maxRecDepth 100000 in
set_option maxHeartbeats 40000000 in
theorem ge_X8_areTwoThere {G : vG} {l : Launch} (σ : Sg) (a b : Int32) (hI : Inv σ) : Sp G l yX8_areTwoThere cX8_areTwoThere 3 (some .boolean) 1 0 0 [.ref 0, .int a, .int b] (WW σ) (QI (fun x w2 => w2 = WW σ ∧ (ttC σ a b = true ∧ x = 1 ∨ ttC σ a b = false ∧ x = 0))) := by
  refine Sp_of_R [(some (.ref 0)), (some (.int a)), (some (.int b))] [] rfl (by simp) rfl (Nat.le_of_ble_eq_true rfl) ?_
  refine R_iload_n (pc := 0) dX8_areTwoThere_0 rfl rfl ?_
  refine R_iload_n (pc := 1) dX8_areTwoThere_1 rfl rfl ?_
  refine R_iceq (pc := 2) 31 dX8_areTwoThere_2 (by decide) (fun b2_1 => ?_) (fun b2_1 => ?_)
  · skip
    refine R_iconst (pc := 31) (v := 0) dX8_areTwoThere_31 (by decide) ?_
    exact R_iret (pc := 32) dX8_areTwoThere_32 rfl rfl (Nat.zero_le _) (Nat.zero_le _) ⟨_, rfl, rfl, Or.inr ⟨(by first | (simp only [ttC, cond_true, cond_false, Bool.and_true, Bool.true_and, Bool.and_false, Bool.false_and, Bool.or_true, Bool.true_or, Bool.or_false, Bool.false_or, Bool.not_true, Bool.not_false, decide_true, decide_false, if_true, if_false, Bool.true_eq_false, Bool.false_eq_true]; done) | (simp only [ttC, b2_1, cond_true, cond_false, Bool.and_true, Bool.true_and, Bool.and_false, Bool.false_and, Bool.or_true, Bool.true_or, Bool.or_false, Bool.false_or, Bool.not_true, Bool.not_false, decide_true, decide_false, if_true, if_false, Bool.true_eq_false, Bool.false_eq_true]; done) | (simp [ttC, b2_1]; done) | (simp only [ttC, cond_true, cond_false, Bool.and_true, Bool.true_and, Bool.and_false, Bool.false_and, Bool.or_true, Bool.true_or, Bool.or_false, Bool.false_or, Bool.not_true, Bool.not_false, decide_true, decide_false, if_true, if_false, Bool.true_eq_false, Bool.false_eq_true] <;> decide)), rfl⟩⟩
  · skip
    refine R_aload_n (pc := 5) dX8_areTwoThere_5 rfl rfl ?_
    refine g_X8_10 (pc := 6) (v := .ref 1) rfl dX8_areTwoThere_6 (c_0 _) rfl ?_
    refine R_iload_n (pc := 9) dX8_areTwoThere_9 rfl rfl ?_
    refine k_X8_90 (pc := 10) (ge_X0_isThere _ _ hI) rfl (c_1 _) (by decide) (Nat.le_refl _) (Nat.le_refl _) (Nat.le_of_ble_eq_true rfl) dX8_areTwoThere_10 (fun x w2 h => ?_)
    rcases h with ⟨rfl, ⟨h2, rfl⟩ | ⟨h2, rfl⟩⟩
    · skip
      refine R_ifeq (pc := 13) 31 dX8_areTwoThere_13 (by decide) (fun h => absurd h (by decide)) (fun _ => ?_)
      refine R_aload_n (pc := 16) dX8_areTwoThere_16 rfl rfl ?_
      refine g_X8_10 (pc := 17) (v := .ref 1) rfl dX8_areTwoThere_17 (c_0 _) rfl ?_
      refine R_iload_n (pc := 20) dX8_areTwoThere_20 rfl rfl ?_
      refine k_X8_90 (pc := 21) (ge_X0_isThere _ _ hI) rfl (c_1 _) (by decide) (Nat.le_refl _) (Nat.le_refl _) (Nat.le_of_ble_eq_true rfl) dX8_areTwoThere_21 (fun x w2 h => ?_)
      rcases h with ⟨rfl, ⟨h4, rfl⟩ | ⟨h4, rfl⟩⟩
      · skip
        refine R_ifeq (pc := 24) 31 dX8_areTwoThere_24 (by decide) (fun h => absurd h (by decide)) (fun _ => ?_)
        refine R_iconst (pc := 27) (v := 1) dX8_areTwoThere_27 (by decide) ?_
        refine R_goto (pc := 28) 32 dX8_areTwoThere_28 (by decide) ?_
        exact R_iret (pc := 32) dX8_areTwoThere_32 rfl rfl (Nat.zero_le _) (Nat.zero_le _) ⟨_, rfl, rfl, Or.inl ⟨(by first | (simp only [ttC, h2, h4, cond_true, cond_false, Bool.and_true, Bool.true_and, Bool.and_false, Bool.false_and, Bool.or_true, Bool.true_or, Bool.or_false, Bool.false_or, Bool.not_true, Bool.not_false, decide_true, decide_false, if_true, if_false, Bool.true_eq_false, Bool.false_eq_true]; done) | (simp only [ttC, h2, h4, b2_1, cond_true, cond_false, Bool.and_true, Bool.true_and, Bool.and_false, Bool.false_and, Bool.or_true, Bool.true_or, Bool.or_false, Bool.false_or, Bool.not_true, Bool.not_false, decide_true, decide_false, if_true, if_false, Bool.true_eq_false, Bool.false_eq_true]; done) | (simp [ttC, h2, h4, b2_1]; done) | (simp only [ttC, h2, h4, cond_true, cond_false, Bool.and_true, Bool.true_and, Bool.and_false, Bool.false_and, Bool.or_true, Bool.true_or, Bool.or_false, Bool.false_or, Bool.not_true, Bool.not_false, decide_true, decide_false, if_true, if_false, Bool.true_eq_false, Bool.false_eq_true] <;> decide)), rfl⟩⟩
      · skip
        refine R_ifeq (pc := 24) 31 dX8_areTwoThere_24 (by decide) (fun _ => ?_) (fun h => absurd (by decide) h)
        refine R_iconst (pc := 31) (v := 0) dX8_areTwoThere_31 (by decide) ?_
        exact R_iret (pc := 32) dX8_areTwoThere_32 rfl rfl (Nat.zero_le _) (Nat.zero_le _) ⟨_, rfl, rfl, Or.inr ⟨(by first | (simp only [ttC, h2, h4, cond_true, cond_false, Bool.and_true, Bool.true_and, Bool.and_false, Bool.false_and, Bool.or_true, Bool.true_or, Bool.or_false, Bool.false_or, Bool.not_true, Bool.not_false, decide_true, decide_false, if_true, if_false, Bool.true_eq_false, Bool.false_eq_true]; done) | (simp only [ttC, h2, h4, b2_1, cond_true, cond_false, Bool.and_true, Bool.true_and, Bool.and_false, Bool.false_and, Bool.or_true, Bool.true_or, Bool.or_false, Bool.false_or, Bool.not_true, Bool.not_false, decide_true, decide_false, if_true, if_false, Bool.true_eq_false, Bool.false_eq_true]; done) | (simp [ttC, h2, h4, b2_1]; done) | (simp only [ttC, h2, h4, cond_true, cond_false, Bool.and_true, Bool.true_and, Bool.and_false, Bool.false_and, Bool.or_true, Bool.true_or, Bool.or_false, Bool.false_or, Bool.not_true, Bool.not_false, decide_true, decide_false, if_true, if_false, Bool.true_eq_false, Bool.false_eq_true] <;> decide)), rfl⟩⟩
    · skip
      refine R_ifeq (pc := 13) 31 dX8_areTwoThere_13 (by decide) (fun _ => ?_) (fun h => absurd (by decide) h)
      refine R_iconst (pc := 31) (v := 0) dX8_areTwoThere_31 (by decide) ?_
      exact R_iret (pc := 32) dX8_areTwoThere_32 rfl rfl (Nat.zero_le _) (Nat.zero_le _) ⟨_, rfl, rfl, Or.inr ⟨(by first | (simp only [ttC, h2, cond_true, cond_false, Bool.and_true, Bool.true_and, Bool.and_false, Bool.false_and, Bool.or_true, Bool.true_or, Bool.or_false, Bool.false_or, Bool.not_true, Bool.not_false, decide_true, decide_false, if_true, if_false, Bool.true_eq_false, Bool.false_eq_true]; done) | (simp only [ttC, h2, b2_1, cond_true, cond_false, Bool.and_true, Bool.true_and, Bool.and_false, Bool.false_and, Bool.or_true, Bool.true_or, Bool.or_false, Bool.false_or, Bool.not_true, Bool.not_false, decide_true, decide_false, if_true, if_false, Bool.true_eq_false, Bool.false_eq_true]; done) | (simp [ttC, h2, b2_1]; done) | (simp only [ttC, h2, cond_true, cond_false, Bool.and_true, Bool.true_and, Bool.and_false, Bool.false_and, Bool.or_true, Bool.true_or, Bool.or_false, Bool.false_or, Bool.not_true, Bool.not_false, decide_true, decide_false, if_true, if_false, Bool.true_eq_false, Bool.false_eq_true] <;> decide)), rfl⟩⟩
def E_tell (σ : Sg) (a b n k : Int32) (p : Int64) (s t : Int32) : Sg := (uI (uA (uA (uA (uB (uA (uA (uA (uA σ 2 (upd (σ.2.2.1 2) (Int32.toNatClampNeg (σ.1 110)) a)) 3 (upd (σ.2.2.1 3) (Int32.toNatClampNeg (σ.1 110)) b)) 4 (upd (σ.2.2.1 4) (Int32.toNatClampNeg (σ.1 110)) n)) 5 (upd (σ.2.2.1 5) (Int32.toNatClampNeg (σ.1 110)) k)) 6 (vp_updL (σ.2.2.2.1 6) (Int32.toNatClampNeg (σ.1 110)) p)) 7 (upd (σ.2.2.1 7) (Int32.toNatClampNeg (σ.1 110)) s)) 8 (upd (σ.2.2.1 8) (Int32.toNatClampNeg (σ.1 110)) t)) 9 (upd (σ.2.2.1 9) (Int32.toNatClampNeg (σ.1 110)) (σ.1 111))) 110 ((σ.1 110) + 1))
set_option maxRecDepth 100000 in
set_option maxHeartbeats 40000000 in
theorem ge_X0_tell {G : vG} {l : Launch} (σ : Sg) (a b n k : Int32) (p : Int64) (s t : Int32) (hI : Inv σ) (hz : inR (σ.1 110) 0 19) (hn : inR n 0 99) (hk : inR k 0 4) (hs : inR s 0 4) : Sp G l yX0_tell cX0_tell 9 none 0 0 0 [.ref 1, .int a, .int b, .int n, .int k, .long p, .int s, .int t] (WW σ) (QV (fun w2 => ∃ σ2, w2 = WW σ2 ∧ Inv σ2 ∧ Cor (E_tell σ a b n k p s t) σ2)) := by
  refine Sp_of_R [(some (.ref 1)), (some (.int a)), (some (.int b)), (some (.int n)), (some (.int k)), (some (.long p)), none, (some (.int s)), (some (.int t))] [] rfl (by simp) rfl (Nat.le_of_ble_eq_true rfl) ?_
  refine R_aload_n (pc := 0) dX0_tell_0 rfl rfl ?_
  refine g_X0_9 (pc := 1) (v := .ref 2) rfl dX0_tell_1 (c_1 _) rfl ?_
  refine R_aload_n (pc := 4) dX0_tell_4 rfl rfl ?_
  refine g_X0_47 (pc := 5) (v := .int (σ.1 110)) rfl dX0_tell_5 (c_1 _) rfl ?_
  refine R_iload_n (pc := 8) dX0_tell_8 rfl rfl ?_
  have hx1 : vp_in (σ.1 110) 20 := (vp_of_inR hz (by decide))
  refine W_iastore (pc := 9) dX0_tell_9 (c_2 _) hx1 (a_2 _ _) ?_
  have hW2 := cor_ca 2 (Int32.toNatClampNeg (σ.1 110)) a (show Cor σ σ from Cor.rfl' σ) rfl
  refine R_aload_n (pc := 10) dX0_tell_10 rfl rfl ?_
  refine g_X0_15 (pc := 11) (v := .ref 3) rfl dX0_tell_11 (c_1 _) rfl ?_
  refine R_aload_n (pc := 14) dX0_tell_14 rfl rfl ?_
  refine g_X0_47 (pc := 15) (v := .int (σ.1 110)) rfl dX0_tell_15 (c_1 _) rfl ?_
  refine R_iload_n (pc := 18) dX0_tell_18 rfl rfl ?_
  have hx3 : vp_in (σ.1 110) 20 := (vp_of_inR hz (by decide))
  refine W_iastore (pc := 19) dX0_tell_19 (c_3 _) hx3 (a_3 _ _) ?_
  have hW4 := cor_ca 3 (Int32.toNatClampNeg (σ.1 110)) b hW2 rfl
  refine R_aload_n (pc := 20) dX0_tell_20 rfl rfl ?_
  refine g_X0_18 (pc := 21) (v := .ref 4) rfl dX0_tell_21 (c_1 _) rfl ?_
  refine R_aload_n (pc := 24) dX0_tell_24 rfl rfl ?_
  refine g_X0_47 (pc := 25) (v := .int (σ.1 110)) rfl dX0_tell_25 (c_1 _) rfl ?_
  refine R_iload_n (pc := 28) dX0_tell_28 rfl rfl ?_
  have hx5 : vp_in (σ.1 110) 20 := (vp_of_inR hz (by decide))
  refine W_iastore (pc := 29) dX0_tell_29 (c_4 _) hx5 (a_4 _ _) ?_
  have hV6 := sa_4 hI (Int32.toNatClampNeg (σ.1 110)) hn
  have hW7 := cor_ca 4 (Int32.toNatClampNeg (σ.1 110)) n hW4 rfl
  refine R_aload_n (pc := 30) dX0_tell_30 rfl rfl ?_
  refine g_X0_21 (pc := 31) (v := .ref 5) rfl dX0_tell_31 (c_1 _) rfl ?_
  refine R_aload_n (pc := 34) dX0_tell_34 rfl rfl ?_
  refine g_X0_47 (pc := 35) (v := .int (σ.1 110)) rfl dX0_tell_35 (c_1 _) rfl ?_
  refine R_iload (pc := 38) dX0_tell_38 rfl ?_
  have hx8 : vp_in (σ.1 110) 20 := (vp_of_inR hz (by decide))
  refine W_iastore (pc := 40) dX0_tell_40 (c_5 _) hx8 (a_5 _ _) ?_
  have hV9 := sa_5 hV6 (Int32.toNatClampNeg (σ.1 110)) hk
  have hW10 := cor_ca 5 (Int32.toNatClampNeg (σ.1 110)) k hW7 rfl
  refine R_aload_n (pc := 41) dX0_tell_41 rfl rfl ?_
  refine g_X0_24 (pc := 42) (v := .ref 6) rfl dX0_tell_42 (c_1 _) rfl ?_
  refine R_aload_n (pc := 45) dX0_tell_45 rfl rfl ?_
  refine g_X0_47 (pc := 46) (v := .int (σ.1 110)) rfl dX0_tell_46 (c_1 _) rfl ?_
  refine R_lload (pc := 49) dX0_tell_49 rfl ?_
  have hx11 : vp_in (σ.1 110) 20 := (vp_of_inR hz (by decide))
  refine W_lastore (pc := 51) dX0_tell_51 (c_6 _) hx11 (a_6 _ _) ?_
  have hW12 := cor_cb 6 (Int32.toNatClampNeg (σ.1 110)) p hW10
  refine R_aload_n (pc := 52) dX0_tell_52 rfl rfl ?_
  refine g_X0_28 (pc := 53) (v := .ref 7) rfl dX0_tell_53 (c_1 _) rfl ?_
  refine R_aload_n (pc := 56) dX0_tell_56 rfl rfl ?_
  refine g_X0_47 (pc := 57) (v := .int (σ.1 110)) rfl dX0_tell_57 (c_1 _) rfl ?_
  refine R_iload (pc := 60) dX0_tell_60 rfl ?_
  have hx13 : vp_in (σ.1 110) 20 := (vp_of_inR hz (by decide))
  refine W_iastore (pc := 62) dX0_tell_62 (c_7 _) hx13 (a_7 _ _) ?_
  have hV14 := sa_7 hV9 (Int32.toNatClampNeg (σ.1 110)) hs
  have hW15 := cor_ca 7 (Int32.toNatClampNeg (σ.1 110)) s hW12 rfl
  refine R_aload_n (pc := 63) dX0_tell_63 rfl rfl ?_
  refine g_X0_31 (pc := 64) (v := .ref 8) rfl dX0_tell_64 (c_1 _) rfl ?_
  refine R_aload_n (pc := 67) dX0_tell_67 rfl rfl ?_
  refine g_X0_47 (pc := 68) (v := .int (σ.1 110)) rfl dX0_tell_68 (c_1 _) rfl ?_
  refine R_iload (pc := 71) dX0_tell_71 rfl ?_
  have hx16 : vp_in (σ.1 110) 20 := (vp_of_inR hz (by decide))
  refine W_iastore (pc := 73) dX0_tell_73 (c_8 _) hx16 (a_8 _ _) ?_
  have hW17 := cor_ca 8 (Int32.toNatClampNeg (σ.1 110)) t hW15 rfl
  refine R_aload_n (pc := 74) dX0_tell_74 rfl rfl ?_
  refine g_X0_34 (pc := 75) (v := .ref 9) rfl dX0_tell_75 (c_1 _) rfl ?_
  refine R_aload_n (pc := 78) dX0_tell_78 rfl rfl ?_
  refine g_X0_47 (pc := 79) (v := .int (σ.1 110)) rfl dX0_tell_79 (c_1 _) rfl ?_
  refine R_aload_n (pc := 82) dX0_tell_82 rfl rfl ?_
  refine g_X0_50 (pc := 83) (v := .int (σ.1 111)) rfl dX0_tell_83 (c_1 _) rfl ?_
  have hx18 : vp_in (σ.1 110) 20 := (vp_of_inR hz (by decide))
  refine W_iastore (pc := 86) dX0_tell_86 (c_9 _) hx18 (a_9 _ _) ?_
  have hW19 := cor_ca 9 (Int32.toNatClampNeg (σ.1 110)) (σ.1 111) hW17 rfl
  refine R_aload_n (pc := 87) dX0_tell_87 rfl rfl ?_
  refine R_dup (pc := 88) dX0_tell_88 rfl ?_
  refine g_X0_47 (pc := 89) (v := .int (σ.1 110)) rfl dX0_tell_89 (c_1 _) rfl ?_
  refine R_iconst (pc := 92) (v := 1) dX0_tell_92 (by decide) ?_
  refine R_iadd (pc := 93) dX0_tell_93 ?_
  have r20 : inR ((σ.1 110) + 1) 1 20 := inR_add (show inR (σ.1 110) 0 19 from hz) (show inR 1 1 1 from (inR_self _)) (by decide) (by decide)
  have e21 := ti_add (l := 1) (h := 20) (show inR (σ.1 110) 0 19 from hz) (show inR 1 1 1 from (inR_self _)) (by decide) (by decide)
  refine p_X0_47 (pc := 94) rfl dX0_tell_94 (c_1 _) (Nat.le_of_ble_eq_true rfl) rfl rfl (s_1_10 _ _) ?_
  have hV22 := su_110 hV14 (inR_up r20 (by decide) (by decide))
  have hW23 := cor_ci 110 ((σ.1 110) + 1) hW19
  exact R_vret (pc := 97) dX0_tell_97 rfl (Nat.zero_le _) (Nat.zero_le _) ⟨rfl, _, rfl, hV22, hW23⟩
theorem ne_of_lt {z M : Int32} (h : z < M) : ¬ z = M := fun e => by rw [e] at h; exact Int32.lt_irrefl h
theorem eq_of_nlt {z lo M : Int32} (hr : inR z lo M) (h : ¬ z < M) : z = M := eq_of_ge hr (Int32.not_lt.mp h)
def E_X8_card (σ : Sg) (a b n k : Int32) (p : Int64) (s t : Int32) : Sg := (uI (uA (uA (uA (uB (uA (uA (uA (uA σ 2 (upd (σ.2.2.1 2) (Int32.toNatClampNeg (σ.1 110)) a)) 3 (upd (σ.2.2.1 3) (Int32.toNatClampNeg (σ.1 110)) b)) 4 (upd (σ.2.2.1 4) (Int32.toNatClampNeg (σ.1 110)) n)) 5 (upd (σ.2.2.1 5) (Int32.toNatClampNeg (σ.1 110)) k)) 6 (vp_updL (σ.2.2.2.1 6) (Int32.toNatClampNeg (σ.1 110)) p)) 7 (upd (σ.2.2.1 7) (Int32.toNatClampNeg (σ.1 110)) s)) 8 (upd (σ.2.2.1 8) (Int32.toNatClampNeg (σ.1 110)) t)) 9 (upd (σ.2.2.1 9) (Int32.toNatClampNeg (σ.1 110)) (σ.1 111))) 110 ((σ.1 110) + 1))
theorem nI_sle {j : Nat} {n : Int32} (hj : j < 20) (h : ¬ n ≤ nI j) : nI (j + 1) ≤ n := by
  have h1 := ti_nle h
  rw [nI_toInt (by omega)] at h1
  exact Int32.le_iff_toInt_le.mpr (by rw [nI_toInt (by omega)]; omega)
theorem nI_slt {j : Nat} {n : Int32} (hj : j < 20) (h : ¬ n ≤ nI j) : j + 1 ≤ n.toNatClampNeg := by
  have h1 := ti_nle h
  rw [nI_toInt (by omega)] at h1
  show j + 1 ≤ n.toInt.toNat
  omega
theorem nI_eqe {j : Nat} {n : Int32} (h1 : nI j ≤ n) (h2 : n ≤ nI j) : nI j = n := Int32.le_antisymm h1 h2
theorem nI_eq8 {n : Int32} (h1 : nI 8 ≤ n) (h2 : inR n 0 8) : nI 8 = n := Int32.le_antisymm h1 (Int32.not_lt.mp h2.2)
theorem allL_end {p : Int64} {j : Nat} {n : Int32} (h : allL p j = true) (e : nI j = n) : allL p n.toNatClampNeg = true := by
  by_cases hj : j < 2 ^ 31
  · rw [← e, nI_clamp hj]; exact h
  · have hm : ∀ m : Nat, m ≤ j → allL p m = true := by
      intro m hm
      cases m with
      | zero => rfl
      | succ m =>
        cases hq : allL p (m + 1)
        · rw [allL_mono hq j hm] at h; cases h
        · rfl
    exact hm _ (by have : n.toNatClampNeg < 2 ^ 31 := by { have := ti_rng n; show n.toInt.toNat < 2 ^ 31; omega }; omega)
def E_X8_caption (σ : Sg) (c : Int32) (p : Int64) (n : Int32) : Sg := (uA (uB σ 10 (vp_updL (σ.2.2.2.1 10) (Int32.toNatClampNeg c) p)) 11 (upd (σ.2.2.1 11) (Int32.toNatClampNeg c) n))
