/-! methods on any state that keeps the invariant -/
def hasM (σ : Sg) (a b : Int32) : Bool := hasB (σ.2.2.1 142) (σ.2.2.1 143) a b (tm (σ.1 14000) (σ.1 14013) (σ.2.2.1 148))
def HM (σ : Sg) (p : Int32) : Nat → Bool := fun k => hasM σ p (nI k)
theorem hs_t1 {P N : Nat → Int32} {p n : Int32} {i : Nat} (h : hasB P N p n i = true) : hasB P N p n (i + 1) = true := has_t1 h
theorem hs_t2 {P N : Nat → Int32} {p n : Int32} {i : Nat} (hi : i < 20) (h1 : P (Int32.toNatClampNeg (nI i)) = p) (h2 : N (Int32.toNatClampNeg (nI i)) = n) : hasB P N p n (i + 1) = true := by
  rw [nI_clamp (by omega)] at h1 h2
  exact has_t2 h1 h2
theorem hs_f1 {P N : Nat → Int32} {p n : Int32} {i : Nat} (hi : i < 20) (h : hasB P N p n i = false) (h1 : ¬ P (Int32.toNatClampNeg (nI i)) = p) : hasB P N p n (i + 1) = false := by
  rw [nI_clamp (by omega)] at h1
  exact has_f1 h h1
theorem hs_f2 {P N : Nat → Int32} {p n : Int32} {i : Nat} (hi : i < 20) (h : hasB P N p n i = false) (h1 : ¬ N (Int32.toNatClampNeg (nI i)) = n) : hasB P N p n (i + 1) = false := by
  rw [nI_clamp (by omega)] at h1
  exact has_f2 h h1
theorem lo_n {H : Nat → Bool} {j : Nat} (hj : 1 ≤ j) (e : loR H (j - 1) = -1) (hH : H j = false) : loR H (j + 1 - 1) = -1 := by
  show loR H j = -1
  rw [lo_p hj, hH]; exact e
theorem lo_stay {H : Nat → Bool} {j : Nat} {v : Int32} (h : loR H j = v) (hv : ¬ v = -1) : ∀ k : Nat, j ≤ k → loR H k = v := by
  intro k
  induction k with
  | zero => intro h2; obtain rfl : j = 0 := by omega
            exact h
  | succ k ih =>
    intro h2
    by_cases e : j = k + 1
    · rw [← e]; exact h
    · unfold loR
      rw [ih (by omega), decide_eq_false hv]
      cases H (k + 1) <;> rfl
theorem lo_h {H : Nat → Bool} {j : Nat} (hj : 1 ≤ j) (hj2 : j ≤ 99) (e : loR H (j - 1) = -1) (hH : H j = true) : nI j = loR H 99 := by
  have h1 : loR H j = nI j := by rw [lo_p hj, hH, e, decide_eq_true (show (-1 : Int32) = -1 from rfl)]; rfl
  exact (lo_stay h1 (nI_nem (by omega)) 99 hj2).symm
theorem nI_m1 (q : Nat) : nI (q + 1) + (-1) = nI q := by rw [← Int32.sub_eq_add_neg]; exact nI_pred q
theorem hi_s1 {H : Nat → Bool} {q : Nat} (e : hiR H 99 = hiR H (q + 1)) (hH : H (q + 1) = true) : nI (q + 1) = hiR H 99 := by rw [e]; unfold hiR; rw [hH]; rfl
theorem hi_s0 {H : Nat → Bool} {q : Nat} (e : hiR H 99 = hiR H (q + 1)) (hH : H (q + 1) = false) : hiR H 99 = hiR H q := by
  rw [e]
  show (bif H (q + 1) then nI (q + 1) else hiR H q) = hiR H q
  rw [hH]; rfl
theorem mr_0 {H : Nat → Bool} {k : Nat} (hk : k ≤ 100) (e : loR H 99 = -1) : mB H k = false := by
  cases h : mB H k
  · rfl
  · have h2 := (m_iff hk).mp h
    have e1 := lo_nI H 99 (by omega)
    rw [decide_eq_false h2.1] at e1
    exact absurd (e1.symm.trans e) (nI_nem (by have := num_all H 99; omega))
theorem mr_1 {H : Nat → Bool} {n : Int32} {k : Nat} (hn : n = nI k) (h : n ≤ loR H 99) : mB H k = false := by
  unfold mB
  rw [← hn, decide_eq_false (Int32.not_lt.mpr h)]; rfl
theorem mr_2 {H : Nat → Bool} {n : Int32} {k : Nat} (hn : n = nI k) (h : hiR H 99 ≤ n) : mB H k = false := by
  unfold mB
  rw [← hn, decide_eq_false (Int32.not_lt.mpr h)]; simp
theorem mr_3 {H : Nat → Bool} {k : Nat} (h : H k = true) : mB H k = false := by unfold mB; rw [h]; simp
theorem mr_4 {H : Nat → Bool} {n : Int32} {k : Nat} (hn : n = nI k) (h1 : ¬ n ≤ loR H 99) (h2 : ¬ hiR H 99 ≤ n) (h : H k = false) : mB H k = true := by
  unfold mB
  rw [← hn, decide_eq_true (Int32.not_le.mp h1), decide_eq_true (Int32.not_le.mp h2), h]; rfl
theorem sr_t {H : Nat → Bool} {j : Nat} {x : Int32} (hj : 1 ≤ j) (hH : H j = true) (e : x = szR H (j - 1)) : x + 1 = szR H (j + 1 - 1) := sz_t hj hH e
theorem sr_f {H : Nat → Bool} {j : Nat} {x : Int32} (hj : 1 ≤ j) (hH : H j = false) (e : x = szR H (j - 1)) : x + 0 = szR H (j + 1 - 1) := (Int32.add_zero x).trans (sz_f hj hH e)
theorem mc_t {m : Nat → Bool} {j : Nat} {x : Int32} (hj : 1 ≤ j) (hm : m j = true) (e : x = mcR m (j - 1)) : x + 1 = mcR m (j + 1 - 1) := by
  obtain ⟨k, rfl⟩ : ∃ k, j = k + 1 := ⟨j - 1, by omega⟩
  show x + 1 = mcR m (k + 1)
  unfold mcR
  rw [hm, e]; rfl
theorem mc_f {m : Nat → Bool} {j : Nat} {x : Int32} (hj : 1 ≤ j) (hm : m j = false) (e : x = mcR m (j - 1)) : x + 0 = mcR m (j + 1 - 1) := by
  obtain ⟨k, rfl⟩ : ∃ k, j = k + 1 := ⟨j - 1, by omega⟩
  show x + 0 = mcR m (k + 1)
  unfold mcR
  rw [hm, e]; rfl
theorem gr_1 {m : Nat → Bool} {A l f : Int32} {q j : Nat} (h : A = gM m (q + 1) j l f) (hm : m j = true) (hf : f = 0) : A = gM m q (j + 1) l (nI j) := by rw [h, gM_s, hm, decide_eq_true hf]; rfl
theorem gr_2 {m : Nat → Bool} {A l f : Int32} {q j : Nat} (h : A = gM m (q + 1) j l f) (hm : m j = true) (hf : ¬ f = 0) : A = gM m q (j + 1) l f := by rw [h, gM_s, hm, decide_eq_false hf]; rfl
theorem gr_3 {m : Nat → Bool} {A l f : Int32} {q j : Nat} (h : A = gM m (q + 1) j l f) (hm : m j = false) (hf : f ≤ 0) : A = gM m q (j + 1) l f := by rw [h, gM_s, hm, decide_eq_false (Int32.not_lt.mpr hf)]; rfl
theorem gr_4 {m : Nat → Bool} {A l f : Int32} {q j : Nat} (h : A = gM m (q + 1) j l f) (hm : m j = false) (hf : ¬ f ≤ 0) (hl : ¬ l = 0) : A = gM m q (j + 1) (l + (-1)) 0 := by rw [h, gM_s, hm, decide_eq_true (Int32.not_le.mp hf), decide_eq_false hl]; rfl
theorem gr_5 {m : Nat → Bool} {A l f : Int32} {q j : Nat} (h : A = gM m (q + 1) j l f) (hm : m j = false) (hf : ¬ f ≤ 0) (hl : l = 0) : ((100 * f) + nI j) - 1 = A := by rw [h, gM_s, hm, decide_eq_true (Int32.not_le.mp hf), decide_eq_true hl]; rfl
set_option maxRecDepth 100000 in
set_option maxHeartbeats 40000000 in
theorem ge_X9_hasNumber {G : vG} {l : Launch} (σ : Sg) (a b : Int32) (hI : Inv σ) : Sp G l yX9_hasNumber cX9_hasNumber 5 (some .boolean) 1 0 0 [.ref 140, .int a, .int b] (WW σ) (QI (fun x w2 => w2 = WW σ ∧ (hasM σ a b = true ∧ x = 1 ∨ hasM σ a b = false ∧ x = 0))) := by
  refine Sp_of_R [(some (.ref 140)), (some (.int a)), (some (.int b)), none, none] [none, none] rfl (by simp) rfl (Nat.le_of_ble_eq_true rfl) ?_
  refine R_iconst (pc := 0) (v := 0) dX9_hasNumber_0 (by decide) ?_
  refine st_5_3_i_i (pc := 1) dX9_hasNumber_1 ?_
  refine R_iconst (pc := 2) (v := 0) dX9_hasNumber_2 (by decide) ?_
  refine st_5_4_i_i (pc := 3) dX9_hasNumber_3 ?_
  have HL5 : ∀ (q j5 : Nat) (g3_5 : Int32), j5 + q = 20 → 0 ≤ j5 → inR g3_5 0 1 → (g3_5 = 1 ∧ hasB (σ.2.2.1 142) (σ.2.2.1 143) a b j5 = true ∨ g3_5 = 0 ∧ hasB (σ.2.2.1 142) (σ.2.2.1 143) a b j5 = false) → j5 ≤ (tm (σ.1 14000) (σ.1 14013) (σ.2.2.1 148)) → R G l yX9_hasNumber cX9_hasNumber 5 (some .boolean) 1 0 0 (QI (fun x w2 => w2 = WW σ ∧ (hasM σ a b = true ∧ x = 1 ∨ hasM σ a b = false ∧ x = 0))) 5 [(some (.ref 140)), (some (.int a)), (some (.int b)), (some (.int g3_5)), (some (.int (nI j5)))] [] (WW σ) 0 0 := by
    intro q
    induction q with
    | zero =>
      intro j5 g3_5 hj hs5 hg3_5 hX5_0 hX5_1
      obtain rfl : j5 = 20 := by omega
      refine R_iload (pc := 5) dX9_hasNumber_5 rfl ?_
      refine R_aload_n (pc := 7) dX9_hasNumber_7 rfl rfl ?_
      refine k_X9_120 (pc := 8) (ge_X9_thereMany _ hI) rfl (c_140 _) (by decide) (Nat.le_refl _) (Nat.le_refl _) (Nat.le_of_ble_eq_true rfl) dX9_hasNumber_8 (fun x w2 h => ?_)
      obtain ⟨rfl, rfl⟩ := h
      refine R_icge (pc := 11) 52 dX9_hasNumber_11 (by decide) (fun _ => ?_) (fun h => absurd (Int32.not_lt.mp (inR_up (tm_in (σ.1 14000) (σ.1 14013) (σ.2.2.1 148)) (Int32.le_refl _) (by decide)).2) h)
      refine R_iload_n (pc := 52) dX9_hasNumber_52 rfl rfl ?_
      exact R_iret (pc := 53) dX9_hasNumber_53 rfl (nar01 hg3_5) (Nat.zero_le _) (Nat.zero_le _) ⟨_, rfl, rfl, hX5_0.imp (fun q => ⟨(by unfold hasM; rw [← (show 20 = (tm (σ.1 14000) (σ.1 14013) (σ.2.2.1 148)) from by first | exact tm_exit (by omega) hX5_1 (by assumption) | exact tm_ex20 hX5_1)]; exact q.2), q.1⟩) (fun q => ⟨(by unfold hasM; rw [← (show 20 = (tm (σ.1 14000) (σ.1 14013) (σ.2.2.1 148)) from by first | exact tm_exit (by omega) hX5_1 (by assumption) | exact tm_ex20 hX5_1)]; exact q.2), q.1⟩)⟩
    | succ q ih5 =>
      intro j5 g3_5 hj hs5 hg3_5 hX5_0 hX5_1
      have hrg5 : inR (nI j5) 0 19 := inR_ix hs5 (show j5 < 20 by omega) (by decide) (by decide) (by decide)
      have hlt5 : j5 < 20 := by omega
      refine R_iload (pc := 5) dX9_hasNumber_5 rfl ?_
      refine R_aload_n (pc := 7) dX9_hasNumber_7 rfl rfl ?_
      refine k_X9_120 (pc := 8) (ge_X9_thereMany _ hI) rfl (c_140 _) (by decide) (Nat.le_refl _) (Nat.le_refl _) (Nat.le_of_ble_eq_true rfl) dX9_hasNumber_8 (fun x w2 h => ?_)
      obtain ⟨rfl, rfl⟩ := h
      refine R_icge (pc := 11) 52 dX9_hasNumber_11 (by decide) (fun b11_2 => ?_) (fun b11_2 => ?_)
      · skip
        refine R_iload_n (pc := 52) dX9_hasNumber_52 rfl rfl ?_
        exact R_iret (pc := 53) dX9_hasNumber_53 rfl (nar01 hg3_5) (Nat.zero_le _) (Nat.zero_le _) ⟨_, rfl, rfl, hX5_0.imp (fun q => ⟨(by unfold hasM; rw [← (show j5 = (tm (σ.1 14000) (σ.1 14013) (σ.2.2.1 148)) from by first | exact tm_exit (by omega) hX5_1 (by assumption) | exact tm_ex20 hX5_1)]; exact q.2), q.1⟩) (fun q => ⟨(by unfold hasM; rw [← (show j5 = (tm (σ.1 14000) (σ.1 14013) (σ.2.2.1 148)) from by first | exact tm_exit (by omega) hX5_1 (by assumption) | exact tm_ex20 hX5_1)]; exact q.2), q.1⟩)⟩
      · skip
        refine R_iload_n (pc := 14) dX9_hasNumber_14 rfl rfl ?_
        refine R_ifne (pc := 15) 40 dX9_hasNumber_15 (by decide) (fun b15_3 => ?_) (fun b15_3 => ?_)
        · skip
          refine R_iconst (pc := 40) (v := 1) dX9_hasNumber_40 (by decide) ?_
          refine R_goto (pc := 41) 45 dX9_hasNumber_41 (by decide) ?_
          refine st_5_3_i_i (pc := 45) dX9_hasNumber_45 ?_
          refine inc_5_4_1_i (pc := 46) dX9_hasNumber_46 ?_
          have r4 : inR ((nI j5) + 1) 1 20 := inR_add (show inR (nI j5) 0 19 from hrg5) (show inR 1 1 1 from (inR_self _)) (by decide) (by decide)
          have e5 := ti_add (l := 1) (h := 20) (show inR (nI j5) 0 19 from hrg5) (show inR 1 1 1 from (inR_self _)) (by decide) (by decide)
          refine R_goto (pc := 49) 5 dX9_hasNumber_49 (by decide) ?_
          rw [nI_1]
          exact ih5 (j5 + 1) _ (by omega) (by omega) (show inR 1 0 1 from ⟨by decide, by decide⟩) (Or.inl ⟨rfl, hs_t1 (hX5_0.resolve_right (fun e => absurd e.1 b15_3)).2⟩) (tm_next (by omega) b11_2)
        · skip
          refine R_aload_n (pc := 18) dX9_hasNumber_18 rfl rfl ?_
          refine g_X9_13 (pc := 19) (v := .ref 142) rfl dX9_hasNumber_19 (c_140 _) rfl ?_
          refine R_iload (pc := 22) dX9_hasNumber_22 rfl ?_
          have hx6 : vp_in (nI j5) 20 := (vp_in_nI (by omega) (by decide))
          refine R_iaload (pc := 24) dX9_hasNumber_24 (c_142 _) hx6 ?_
          refine R_iload_n (pc := 25) dX9_hasNumber_25 rfl rfl ?_
          refine R_icne (pc := 26) 44 dX9_hasNumber_26 (by decide) (fun b26_7 => ?_) (fun b26_7 => ?_)
          · skip
            refine R_iconst (pc := 44) (v := 0) dX9_hasNumber_44 (by decide) ?_
            refine st_5_3_i_i (pc := 45) dX9_hasNumber_45 ?_
            refine inc_5_4_1_i (pc := 46) dX9_hasNumber_46 ?_
            have r8 : inR ((nI j5) + 1) 1 20 := inR_add (show inR (nI j5) 0 19 from hrg5) (show inR 1 1 1 from (inR_self _)) (by decide) (by decide)
            have e9 := ti_add (l := 1) (h := 20) (show inR (nI j5) 0 19 from hrg5) (show inR 1 1 1 from (inR_self _)) (by decide) (by decide)
            refine R_goto (pc := 49) 5 dX9_hasNumber_49 (by decide) ?_
            rw [nI_1]
            exact ih5 (j5 + 1) _ (by omega) (by omega) (show inR 0 0 1 from ⟨by decide, by decide⟩) (Or.inr ⟨rfl, hs_f1 (by omega) (hX5_0.resolve_left (fun e => absurd (e.1.symm.trans b15_3) (by decide))).2 b26_7⟩) (tm_next (by omega) b11_2)
          · skip
            refine R_aload_n (pc := 29) dX9_hasNumber_29 rfl rfl ?_
            refine g_X9_16 (pc := 30) (v := .ref 143) rfl dX9_hasNumber_30 (c_140 _) rfl ?_
            refine R_iload (pc := 33) dX9_hasNumber_33 rfl ?_
            have hx10 : vp_in (nI j5) 20 := (vp_in_nI (by omega) (by decide))
            refine R_iaload (pc := 35) dX9_hasNumber_35 (c_143 _) hx10 ?_
            refine R_iload_n (pc := 36) dX9_hasNumber_36 rfl rfl ?_
            refine R_icne (pc := 37) 44 dX9_hasNumber_37 (by decide) (fun b37_11 => ?_) (fun b37_11 => ?_)
            · skip
              refine R_iconst (pc := 44) (v := 0) dX9_hasNumber_44 (by decide) ?_
              refine st_5_3_i_i (pc := 45) dX9_hasNumber_45 ?_
              refine inc_5_4_1_i (pc := 46) dX9_hasNumber_46 ?_
              have r12 : inR ((nI j5) + 1) 1 20 := inR_add (show inR (nI j5) 0 19 from hrg5) (show inR 1 1 1 from (inR_self _)) (by decide) (by decide)
              have e13 := ti_add (l := 1) (h := 20) (show inR (nI j5) 0 19 from hrg5) (show inR 1 1 1 from (inR_self _)) (by decide) (by decide)
              refine R_goto (pc := 49) 5 dX9_hasNumber_49 (by decide) ?_
              rw [nI_1]
              exact ih5 (j5 + 1) _ (by omega) (by omega) (show inR 0 0 1 from ⟨by decide, by decide⟩) (Or.inr ⟨rfl, hs_f2 (by omega) (hX5_0.resolve_left (fun e => absurd (e.1.symm.trans b15_3) (by decide))).2 b37_11⟩) (tm_next (by omega) b11_2)
            · skip
              refine R_iconst (pc := 40) (v := 1) dX9_hasNumber_40 (by decide) ?_
              refine R_goto (pc := 41) 45 dX9_hasNumber_41 (by decide) ?_
              refine st_5_3_i_i (pc := 45) dX9_hasNumber_45 ?_
              refine inc_5_4_1_i (pc := 46) dX9_hasNumber_46 ?_
              have r14 : inR ((nI j5) + 1) 1 20 := inR_add (show inR (nI j5) 0 19 from hrg5) (show inR 1 1 1 from (inR_self _)) (by decide) (by decide)
              have e15 := ti_add (l := 1) (h := 20) (show inR (nI j5) 0 19 from hrg5) (show inR 1 1 1 from (inR_self _)) (by decide) (by decide)
              refine R_goto (pc := 49) 5 dX9_hasNumber_49 (by decide) ?_
              rw [nI_1]
              exact ih5 (j5 + 1) _ (by omega) (by omega) (show inR 1 0 1 from ⟨by decide, by decide⟩) (Or.inl ⟨rfl, hs_t2 (by omega) b26_7 b37_11⟩) (tm_next (by omega) b11_2)
  exact HL5 20 0 _ (by omega) (by omega) (show inR 0 0 1 from ⟨by decide, by decide⟩) (Or.inr ⟨rfl, rfl⟩) (Nat.zero_le _)
set_option maxRecDepth 100000 in
set_option maxHeartbeats 40000000 in
theorem ge_X9_endOf_u {G : vG} {l : Launch} (σ : Sg) (a : Int32) (hI : Inv σ) : Sp G l yX9_endOf cX9_endOf 4 (some .int) 2 0 0 [.ref 140, .int a, .int 1] (WW σ) (QI (fun x w2 => w2 = WW σ ∧ x = loR (HM σ a) 99)) := by
  refine Sp_of_R [(some (.ref 140)), (some (.int a)), (some (.int 1)), none] [none] rfl (by simp) rfl (Nat.le_of_ble_eq_true rfl) ?_
  refine R_iload_n (pc := 0) dX9_endOf_0 rfl rfl ?_
  refine R_iconst (pc := 1) (v := 1) dX9_endOf_1 (by decide) ?_
  refine R_icne (pc := 2) 9 dX9_endOf_2 (by decide) (fun h => absurd (by decide) h) (fun _ => ?_)
  refine R_iconst (pc := 5) (v := 1) dX9_endOf_5 (by decide) ?_
  refine R_goto (pc := 6) 11 dX9_endOf_6 (by decide) ?_
  refine st_4_3_i_i (pc := 11) dX9_endOf_11 ?_
  have HL12 : ∀ (q j12 : Nat), j12 + q = 100 → 1 ≤ j12 → loR (HM σ a) (j12 - 1) = -1 → R G l yX9_endOf cX9_endOf 4 (some .int) 2 0 0 (QI (fun x w2 => w2 = WW σ ∧ x = loR (HM σ a) 99)) 12 [(some (.ref 140)), (some (.int a)), (some (.int 1)), (some (.int (nI j12)))] [] (WW σ) 0 0 := by
    intro q
    induction q with
    | zero =>
      intro j12 hj hs12 hX12_0
      obtain rfl : j12 = 100 := by omega
      refine R_iload_n (pc := 12) dX9_endOf_12 rfl rfl ?_
      refine R_iconst (pc := 13) (v := 1) dX9_endOf_13 (by decide) ?_
      refine R_bipush (pc := 14) (v := 99) dX9_endOf_14 (by decide) ?_
      refine k_X9_124 (pc := 16) (sp_X9_in _ _ _ _) rfl (by decide) (Nat.le_refl _) (Nat.le_refl _) (Nat.le_of_ble_eq_true rfl) dX9_endOf_16 (fun x w2 h => ?_)
      obtain ⟨rfl, h⟩ := h
      rcases h with ⟨h, -⟩ | ⟨-, rfl⟩
      · exact absurd h (by unfold inR; decide)
      refine R_ifeq (pc := 19) 38 dX9_endOf_19 (by decide) (fun _ => ?_) (fun h => absurd (by decide) h)
      refine R_iload_n (pc := 38) dX9_endOf_38 rfl rfl ?_
      refine R_iconst (pc := 39) (v := 1) dX9_endOf_39 (by decide) ?_
      refine R_bipush (pc := 40) (v := 99) dX9_endOf_40 (by decide) ?_
      refine k_X9_124 (pc := 42) (sp_X9_in _ _ _ _) rfl (by decide) (Nat.le_refl _) (Nat.le_refl _) (Nat.le_of_ble_eq_true rfl) dX9_endOf_42 (fun x w2 h => ?_)
      obtain ⟨rfl, h⟩ := h
      rcases h with ⟨h, -⟩ | ⟨-, rfl⟩
      · exact absurd h (by unfold inR; decide)
      refine R_ifeq (pc := 45) 52 dX9_endOf_45 (by decide) (fun _ => ?_) (fun h => absurd (by decide) h)
      refine R_iconst (pc := 52) (v := (-1)) dX9_endOf_52 (by decide) ?_
      exact R_iret (pc := 53) dX9_endOf_53 rfl rfl (Nat.zero_le _) (Nat.zero_le _) ⟨_, rfl, rfl, hX12_0.symm⟩
    | succ q ih12 =>
      intro j12 hj hs12 hX12_0
      have hrg12 : inR (nI j12) 1 99 := inR_ix hs12 (show j12 < 100 by omega) (by decide) (by decide) (by decide)
      have hlt12 : j12 < 100 := by omega
      refine R_iload_n (pc := 12) dX9_endOf_12 rfl rfl ?_
      refine R_iconst (pc := 13) (v := 1) dX9_endOf_13 (by decide) ?_
      refine R_bipush (pc := 14) (v := 99) dX9_endOf_14 (by decide) ?_
      refine k_X9_124 (pc := 16) (sp_X9_in _ _ _ _) rfl (by decide) (Nat.le_refl _) (Nat.le_refl _) (Nat.le_of_ble_eq_true rfl) dX9_endOf_16 (fun x w2 h => ?_)
      rcases h with ⟨rfl, ⟨h4, rfl⟩ | ⟨h4, -⟩⟩
      · skip
        refine R_ifeq (pc := 19) 38 dX9_endOf_19 (by decide) (fun h => absurd h (by decide)) (fun _ => ?_)
        refine R_aload_n (pc := 22) dX9_endOf_22 rfl rfl ?_
        refine R_iload_n (pc := 23) dX9_endOf_23 rfl rfl ?_
        refine R_iload_n (pc := 24) dX9_endOf_24 rfl rfl ?_
        refine k_X9_185 (pc := 25) (ge_X9_hasNumber _ _ _ hI) rfl (c_140 _) (by decide) (Nat.le_refl _) (Nat.le_refl _) (Nat.le_of_ble_eq_true rfl) dX9_endOf_25 (fun x w2 h => ?_)
        rcases h with ⟨rfl, ⟨h6, rfl⟩ | ⟨h6, rfl⟩⟩
        · skip
          refine R_ifne (pc := 28) 38 dX9_endOf_28 (by decide) (fun _ => ?_) (fun h => absurd h (by decide))
          refine R_iload_n (pc := 38) dX9_endOf_38 rfl rfl ?_
          refine R_iconst (pc := 39) (v := 1) dX9_endOf_39 (by decide) ?_
          refine R_bipush (pc := 40) (v := 99) dX9_endOf_40 (by decide) ?_
          refine k_X9_124 (pc := 42) (sp_X9_in _ _ _ _) rfl (by decide) (Nat.le_refl _) (Nat.le_refl _) (Nat.le_of_ble_eq_true rfl) dX9_endOf_42 (fun x w2 h => ?_)
          rcases h with ⟨rfl, ⟨h8, rfl⟩ | ⟨h8, -⟩⟩
          · skip
            refine R_ifeq (pc := 45) 52 dX9_endOf_45 (by decide) (fun h => absurd h (by decide)) (fun _ => ?_)
            refine R_iload_n (pc := 48) dX9_endOf_48 rfl rfl ?_
            refine R_goto (pc := 49) 53 dX9_endOf_49 (by decide) ?_
            exact R_iret (pc := 53) dX9_endOf_53 rfl rfl (Nat.zero_le _) (Nat.zero_le _) ⟨_, rfl, rfl, (lo_h (by omega) (by omega) hX12_0 (show HM σ a j12 = true from h6))⟩
          · exact absurd hrg12 h8
        · skip
          refine R_ifne (pc := 28) 38 dX9_endOf_28 (by decide) (fun h => absurd (by decide) h) (fun _ => ?_)
          refine R_iload_n (pc := 31) dX9_endOf_31 rfl rfl ?_
          refine R_iload_n (pc := 32) dX9_endOf_32 rfl rfl ?_
          refine R_iadd (pc := 33) dX9_endOf_33 ?_
          have r11 : inR ((nI j12) + 1) 2 100 := inR_add (show inR (nI j12) 1 99 from hrg12) (show inR 1 1 1 from (inR_self _)) (by decide) (by decide)
          have e12 := ti_add (l := 2) (h := 100) (show inR (nI j12) 1 99 from hrg12) (show inR 1 1 1 from (inR_self _)) (by decide) (by decide)
          refine st_4_3_i_i (pc := 34) dX9_endOf_34 ?_
          refine R_goto (pc := 35) 12 dX9_endOf_35 (by decide) ?_
          rw [nI_1]
          exact ih12 (j12 + 1) (by omega) (by omega) (lo_n (by omega) hX12_0 (show HM σ a j12 = false from h6))
      · exact absurd hrg12 h4
  exact HL12 99 1 (by omega) (by omega) rfl
set_option maxRecDepth 100000 in
set_option maxHeartbeats 40000000 in
theorem ge_X9_endOf_d {G : vG} {l : Launch} (σ : Sg) (a : Int32) (hI : Inv σ) : Sp G l yX9_endOf cX9_endOf 4 (some .int) 2 0 0 [.ref 140, .int a, .int (-1)] (WW σ) (QI (fun x w2 => w2 = WW σ ∧ x = hiR (HM σ a) 99)) := by
  refine Sp_of_R [(some (.ref 140)), (some (.int a)), (some (.int (-1))), none] [none] rfl (by simp) rfl (Nat.le_of_ble_eq_true rfl) ?_
  refine R_iload_n (pc := 0) dX9_endOf_0 rfl rfl ?_
  refine R_iconst (pc := 1) (v := 1) dX9_endOf_1 (by decide) ?_
  refine R_icne (pc := 2) 9 dX9_endOf_2 (by decide) (fun _ => ?_) (fun h => absurd h (by decide))
  refine R_bipush (pc := 9) (v := 99) dX9_endOf_9 (by decide) ?_
  refine st_4_3_i_i (pc := 11) dX9_endOf_11 ?_
  have HL : ∀ q : Nat, q ≤ 99 → hiR (HM σ a) 99 = hiR (HM σ a) q → R G l yX9_endOf cX9_endOf 4 (some .int) 2 0 0 (QI (fun x w2 => w2 = WW σ ∧ x = hiR (HM σ a) 99)) 12 [(some (.ref 140)), (some (.int a)), (some (.int (-1))), (some (.int (nI q)))] [] (WW σ) 0 0 := by
    intro q
    induction q with
    | zero =>
      intro hq he
      refine R_iload_n (pc := 12) dX9_endOf_12 rfl rfl ?_
      refine R_iconst (pc := 13) (v := 1) dX9_endOf_13 (by decide) ?_
      refine R_bipush (pc := 14) (v := 99) dX9_endOf_14 (by decide) ?_
      refine k_X9_124 (pc := 16) (sp_X9_in _ _ _ _) rfl (by decide) (Nat.le_refl _) (Nat.le_refl _) (Nat.le_of_ble_eq_true rfl) dX9_endOf_16 (fun x w2 h => ?_)
      obtain ⟨rfl, h⟩ := h
      rcases h with ⟨h, -⟩ | ⟨-, rfl⟩
      · exact absurd h (by unfold inR; decide)
      refine R_ifeq (pc := 19) 38 dX9_endOf_19 (by decide) (fun _ => ?_) (fun h => absurd (by decide) h)
      refine R_iload_n (pc := 38) dX9_endOf_38 rfl rfl ?_
      refine R_iconst (pc := 39) (v := 1) dX9_endOf_39 (by decide) ?_
      refine R_bipush (pc := 40) (v := 99) dX9_endOf_40 (by decide) ?_
      refine k_X9_124 (pc := 42) (sp_X9_in _ _ _ _) rfl (by decide) (Nat.le_refl _) (Nat.le_refl _) (Nat.le_of_ble_eq_true rfl) dX9_endOf_42 (fun x w2 h => ?_)
      obtain ⟨rfl, h⟩ := h
      rcases h with ⟨h, -⟩ | ⟨-, rfl⟩
      · exact absurd h (by unfold inR; decide)
      refine R_ifeq (pc := 45) 52 dX9_endOf_45 (by decide) (fun _ => ?_) (fun h => absurd (by decide) h)
      refine R_iconst (pc := 52) (v := (-1)) dX9_endOf_52 (by decide) ?_
      exact R_iret (pc := 53) dX9_endOf_53 rfl rfl (Nat.zero_le _) (Nat.zero_le _) ⟨_, rfl, rfl, (show (-1 : Int32) = _ from he.symm)⟩
    | succ q ih =>
      intro hq he
      have hrg : inR (nI (q + 1)) 1 99 := inR_ix (s := 1) (j := q + 1) (N := 100) (by omega) (by omega) (by decide) (by decide) (by decide)
      refine R_iload_n (pc := 12) dX9_endOf_12 rfl rfl ?_
      refine R_iconst (pc := 13) (v := 1) dX9_endOf_13 (by decide) ?_
      refine R_bipush (pc := 14) (v := 99) dX9_endOf_14 (by decide) ?_
      refine k_X9_124 (pc := 16) (sp_X9_in _ _ _ _) rfl (by decide) (Nat.le_refl _) (Nat.le_refl _) (Nat.le_of_ble_eq_true rfl) dX9_endOf_16 (fun x w2 h => ?_)
      rcases h with ⟨rfl, ⟨h4, rfl⟩ | ⟨h4, -⟩⟩
      · skip
        refine R_ifeq (pc := 19) 38 dX9_endOf_19 (by decide) (fun h => absurd h (by decide)) (fun _ => ?_)
        refine R_aload_n (pc := 22) dX9_endOf_22 rfl rfl ?_
        refine R_iload_n (pc := 23) dX9_endOf_23 rfl rfl ?_
        refine R_iload_n (pc := 24) dX9_endOf_24 rfl rfl ?_
        refine k_X9_185 (pc := 25) (ge_X9_hasNumber _ _ _ hI) rfl (c_140 _) (by decide) (Nat.le_refl _) (Nat.le_refl _) (Nat.le_of_ble_eq_true rfl) dX9_endOf_25 (fun x w2 h => ?_)
        rcases h with ⟨rfl, ⟨h6, rfl⟩ | ⟨h6, rfl⟩⟩
        · skip
          refine R_ifne (pc := 28) 38 dX9_endOf_28 (by decide) (fun _ => ?_) (fun h => absurd h (by decide))
          refine R_iload_n (pc := 38) dX9_endOf_38 rfl rfl ?_
          refine R_iconst (pc := 39) (v := 1) dX9_endOf_39 (by decide) ?_
          refine R_bipush (pc := 40) (v := 99) dX9_endOf_40 (by decide) ?_
          refine k_X9_124 (pc := 42) (sp_X9_in _ _ _ _) rfl (by decide) (Nat.le_refl _) (Nat.le_refl _) (Nat.le_of_ble_eq_true rfl) dX9_endOf_42 (fun x w2 h => ?_)
          rcases h with ⟨rfl, ⟨h8, rfl⟩ | ⟨h8, -⟩⟩
          · skip
            refine R_ifeq (pc := 45) 52 dX9_endOf_45 (by decide) (fun h => absurd h (by decide)) (fun _ => ?_)
            refine R_iload_n (pc := 48) dX9_endOf_48 rfl rfl ?_
            refine R_goto (pc := 49) 53 dX9_endOf_49 (by decide) ?_
            exact R_iret (pc := 53) dX9_endOf_53 rfl rfl (Nat.zero_le _) (Nat.zero_le _) ⟨_, rfl, rfl, (hi_s1 he (show HM σ a (q + 1) = true from h6))⟩
          · exact absurd hrg h8
        · skip
          refine R_ifne (pc := 28) 38 dX9_endOf_28 (by decide) (fun h => absurd (by decide) h) (fun _ => ?_)
          refine R_iload_n (pc := 31) dX9_endOf_31 rfl rfl ?_
          refine R_iload_n (pc := 32) dX9_endOf_32 rfl rfl ?_
          refine R_iadd (pc := 33) dX9_endOf_33 ?_
          have r11 : inR ((nI (q + 1)) + (-1)) 0 98 := inR_add (show inR (nI (q + 1)) 1 99 from hrg) (show inR (-1) (-1) (-1) from (inR_self _)) (by decide) (by decide)
          have e12 := ti_add (l := 0) (h := 98) (show inR (nI (q + 1)) 1 99 from hrg) (show inR (-1) (-1) (-1) from (inR_self _)) (by decide) (by decide)
          refine st_4_3_i_i (pc := 34) dX9_endOf_34 ?_
          refine R_goto (pc := 35) 12 dX9_endOf_35 (by decide) ?_
          rw [nI_m1]
          exact ih (by omega) (hi_s0 he (show HM σ a (q + 1) = false from h6))
      · exact absurd hrg h4
  exact HL 99 (Nat.le_refl _) rfl
set_option maxRecDepth 100000 in
set_option maxHeartbeats 40000000 in
theorem ge_X9_isMissing {G : vG} {l : Launch} (σ : Sg) (a n : Int32) (k : Nat) (hI : Inv σ) (hn : n = nI k) (hk : k ≤ 100) : Sp G l yX9_isMissing cX9_isMissing 3 (some .boolean) 3 0 0 [.ref 140, .int a, .int n] (WW σ) (QI (fun x w2 => w2 = WW σ ∧ (mB (HM σ a) k = true ∧ x = 1 ∨ mB (HM σ a) k = false ∧ x = 0))) := by
  refine Sp_of_R [(some (.ref 140)), (some (.int a)), (some (.int n))] [] rfl (by simp) rfl (Nat.le_of_ble_eq_true rfl) ?_
  refine R_aload_n (pc := 0) dX9_isMissing_0 rfl rfl ?_
  refine R_iload_n (pc := 1) dX9_isMissing_1 rfl rfl ?_
  refine R_iconst (pc := 2) (v := 1) dX9_isMissing_2 (by decide) ?_
  refine k_X9_188 (pc := 3) (ge_X9_endOf_u _ _ hI) rfl (c_140 _) (by decide) (Nat.le_refl _) (Nat.le_refl _) (Nat.le_of_ble_eq_true rfl) dX9_isMissing_3 (fun x w2 h => ?_)
  obtain ⟨rfl, rfl⟩ := h
  refine R_iconst (pc := 6) (v := (-1)) dX9_isMissing_6 (by decide) ?_
  refine R_iceq (pc := 7) 43 dX9_isMissing_7 (by decide) (fun b7_1 => ?_) (fun b7_1 => ?_)
  · skip
    refine R_iconst (pc := 43) (v := 0) dX9_isMissing_43 (by decide) ?_
    exact R_iret (pc := 44) dX9_isMissing_44 rfl rfl (Nat.zero_le _) (Nat.zero_le _) ⟨_, rfl, rfl, Or.inr ⟨(mr_0 hk b7_1), rfl⟩⟩
  · skip
    refine R_iload_n (pc := 10) dX9_isMissing_10 rfl rfl ?_
    refine R_aload_n (pc := 11) dX9_isMissing_11 rfl rfl ?_
    refine R_iload_n (pc := 12) dX9_isMissing_12 rfl rfl ?_
    refine R_iconst (pc := 13) (v := 1) dX9_isMissing_13 (by decide) ?_
    refine k_X9_188 (pc := 14) (ge_X9_endOf_u _ _ hI) rfl (c_140 _) (by decide) (Nat.le_refl _) (Nat.le_refl _) (Nat.le_of_ble_eq_true rfl) dX9_isMissing_14 (fun x w2 h => ?_)
    obtain ⟨rfl, rfl⟩ := h
    refine R_icle (pc := 17) 43 dX9_isMissing_17 (by decide) (fun b17_2 => ?_) (fun b17_2 => ?_)
    · skip
      refine R_iconst (pc := 43) (v := 0) dX9_isMissing_43 (by decide) ?_
      exact R_iret (pc := 44) dX9_isMissing_44 rfl rfl (Nat.zero_le _) (Nat.zero_le _) ⟨_, rfl, rfl, Or.inr ⟨(mr_1 hn b17_2), rfl⟩⟩
    · skip
      refine R_iload_n (pc := 20) dX9_isMissing_20 rfl rfl ?_
      refine R_aload_n (pc := 21) dX9_isMissing_21 rfl rfl ?_
      refine R_iload_n (pc := 22) dX9_isMissing_22 rfl rfl ?_
      refine R_iconst (pc := 23) (v := (-1)) dX9_isMissing_23 (by decide) ?_
      refine k_X9_188 (pc := 24) (ge_X9_endOf_d _ _ hI) rfl (c_140 _) (by decide) (Nat.le_refl _) (Nat.le_refl _) (Nat.le_of_ble_eq_true rfl) dX9_isMissing_24 (fun x w2 h => ?_)
      obtain ⟨rfl, rfl⟩ := h
      refine R_icge (pc := 27) 43 dX9_isMissing_27 (by decide) (fun b27_3 => ?_) (fun b27_3 => ?_)
      · skip
        refine R_iconst (pc := 43) (v := 0) dX9_isMissing_43 (by decide) ?_
        exact R_iret (pc := 44) dX9_isMissing_44 rfl rfl (Nat.zero_le _) (Nat.zero_le _) ⟨_, rfl, rfl, Or.inr ⟨(mr_2 hn b27_3), rfl⟩⟩
      · skip
        refine R_aload_n (pc := 30) dX9_isMissing_30 rfl rfl ?_
        refine R_iload_n (pc := 31) dX9_isMissing_31 rfl rfl ?_
        refine R_iload_n (pc := 32) dX9_isMissing_32 rfl rfl ?_
        refine k_X9_185 (pc := 33) (ge_X9_hasNumber _ _ _ hI) rfl (c_140 _) (by decide) (Nat.le_refl _) (Nat.le_refl _) (Nat.le_of_ble_eq_true rfl) dX9_isMissing_33 (fun x w2 h => ?_)
        rcases h with ⟨rfl, ⟨h4, rfl⟩ | ⟨h4, rfl⟩⟩
        · skip
          refine R_ifne (pc := 36) 43 dX9_isMissing_36 (by decide) (fun _ => ?_) (fun h => absurd h (by decide))
          refine R_iconst (pc := 43) (v := 0) dX9_isMissing_43 (by decide) ?_
          exact R_iret (pc := 44) dX9_isMissing_44 rfl rfl (Nat.zero_le _) (Nat.zero_le _) ⟨_, rfl, rfl, Or.inr ⟨(mr_3 (show HM σ a k = true from (show hasM σ a (nI k) = true from hn ▸ h4))), rfl⟩⟩
        · skip
          refine R_ifne (pc := 36) 43 dX9_isMissing_36 (by decide) (fun h => absurd (by decide) h) (fun _ => ?_)
          refine R_iconst (pc := 39) (v := 1) dX9_isMissing_39 (by decide) ?_
          refine R_goto (pc := 40) 44 dX9_isMissing_40 (by decide) ?_
          exact R_iret (pc := 44) dX9_isMissing_44 rfl rfl (Nat.zero_le _) (Nat.zero_le _) ⟨_, rfl, rfl, Or.inl ⟨(mr_4 hn b17_2 b27_3 (show HM σ a k = false from (show hasM σ a (nI k) = false from hn ▸ h4))), rfl⟩⟩
set_option maxRecDepth 100000 in
set_option maxHeartbeats 40000000 in
theorem gq_X9_series {G : vG} {l : Launch} (σ : Sg) (p a : Int32) (hI : Inv σ) : Sp G l yX9_series cX9_series 9 (some .int) 4 0 0 [.ref 140, .int p, .int a] (WW σ) (QI (fun x w2 => x = A_ser p a (HM σ p) ∧ ∃ σ2, w2 = WW σ2 ∧ Inv σ2 ∧ Cor σ σ2)) := by
  refine Sp_of_R [(some (.ref 140)), (some (.int p)), (some (.int a)), none, none, none, none, none, none] [none, none, none, none, none, none] rfl (by simp) rfl (Nat.le_of_ble_eq_true rfl) ?_
  refine R_iload_n (pc := 0) dX9_series_0 rfl rfl ?_
  refine k_X9_128 (pc := 1) (fx_X9_isPublisher _ _) rfl (by decide) (Nat.le_refl _) (Nat.le_refl _) (Nat.le_of_ble_eq_true rfl) dX9_series_1 (fun x w2 h => ?_)
  rcases h with ⟨rfl, ⟨h1, rfl⟩ | ⟨h1, rfl⟩⟩
  · skip
    refine R_ifne (pc := 4) 10 dX9_series_4 (by decide) (fun _ => ?_) (fun h => absurd h (by decide))
    refine R_iload_n (pc := 10) dX9_series_10 rfl rfl ?_
    refine R_iconst (pc := 11) (v := 0) dX9_series_11 (by decide) ?_
    refine R_iconst (pc := 12) (v := 4) dX9_series_12 (by decide) ?_
    refine k_X9_124 (pc := 13) (sp_X9_in _ _ _ _) rfl (by decide) (Nat.le_refl _) (Nat.le_refl _) (Nat.le_of_ble_eq_true rfl) dX9_series_13 (fun x w2 h => ?_)
    rcases h with ⟨rfl, ⟨h3, rfl⟩ | ⟨h3, rfl⟩⟩
    · skip
      refine R_ifne (pc := 16) 22 dX9_series_16 (by decide) (fun _ => ?_) (fun h => absurd h (by decide))
      refine R_iconst (pc := 22) (v := 0) dX9_series_22 (by decide) ?_
      refine st_9_3_i_i (pc := 23) dX9_series_23 ?_
      refine R_iconst (pc := 24) (v := 0) dX9_series_24 (by decide) ?_
      refine st_9_4_i_i (pc := 25) dX9_series_25 ?_
      refine R_iconst (pc := 27) (v := 0) dX9_series_27 (by decide) ?_
      refine st_9_5_i_i (pc := 28) dX9_series_28 ?_
      refine R_iconst (pc := 30) (v := 0) dX9_series_30 (by decide) ?_
      refine st_9_6_i_i (pc := 31) dX9_series_31 ?_
      refine R_iconst (pc := 33) (v := 1) dX9_series_33 (by decide) ?_
      refine st_9_7_i_i (pc := 34) dX9_series_34 ?_
      have HL36 : ∀ (q j36 : Nat) (g3_36 : Int32) (g4_36 : Int32) (g5_36 : Int32) (g6_36 : Int32) (g8_36 : Option Value), j36 + q = 100 → 1 ≤ j36 → g3_36 = szR (HM σ p) (j36 - 1) → g4_36 = mcR (mB (HM σ p)) (j36 - 1) → g5_36 = gcR (mB (HM σ p)) (j36 - 1) → ((mB (HM σ p)) (j36 - 1) = true ∧ g6_36 = 1 ∨ (mB (HM σ p)) (j36 - 1) = false ∧ g6_36 = 0) → R G l yX9_series cX9_series 9 (some .int) 4 0 0 (QI (fun x w2 => x = A_ser p a (HM σ p) ∧ ∃ σ2, w2 = WW σ2 ∧ Inv σ2 ∧ Cor σ σ2)) 36 [(some (.ref 140)), (some (.int p)), (some (.int a)), (some (.int g3_36)), (some (.int g4_36)), (some (.int g5_36)), (some (.int g6_36)), (some (.int (nI j36))), g8_36] [] (WW σ) 0 0 := by
        intro q
        induction q with
        | zero =>
          intro j36 g3_36 g4_36 g5_36 g6_36 g8_36 hj hs36 hX36_0 hX36_1 hX36_2 hX36_3
          obtain rfl : j36 = 100 := by omega
          refine R_iload (pc := 36) dX9_series_36 rfl ?_
          refine R_bipush (pc := 38) (v := 100) dX9_series_38 (by decide) ?_
          refine R_icge (pc := 40) 115 dX9_series_40 (by decide) (fun _ => ?_) (fun h => absurd (by decide) h)
          refine R_iload_n (pc := 115) dX9_series_115 rfl rfl ?_
          refine R_ifne (pc := 116) 123 dX9_series_116 (by decide) (fun b116_6 => ?_) (fun b116_6 => ?_)
          · skip
            refine R_iload_n (pc := 123) dX9_series_123 rfl rfl ?_
            refine R_iconst (pc := 124) (v := 1) dX9_series_124 (by decide) ?_
            refine R_icne (pc := 125) 137 dX9_series_125 (by decide) (fun b125_7 => ?_) (fun b125_7 => ?_)
            · skip
              refine R_iload_n (pc := 137) dX9_series_137 rfl rfl ?_
              refine R_iconst (pc := 138) (v := 2) dX9_series_138 (by decide) ?_
              refine R_icne (pc := 139) 151 dX9_series_139 (by decide) (fun b139_8 => ?_) (fun b139_8 => ?_)
              · skip
                refine R_iload_n (pc := 151) dX9_series_151 rfl rfl ?_
                refine R_iconst (pc := 152) (v := 3) dX9_series_152 (by decide) ?_
                refine R_icne (pc := 153) 161 dX9_series_153 (by decide) (fun b153_9 => ?_) (fun b153_9 => ?_)
                · skip
                  refine R_iload (pc := 161) dX9_series_161 rfl ?_
                  exact R_iret (pc := 163) dX9_series_163 rfl rfl (Nat.zero_le _) (Nat.zero_le _) ⟨_, rfl, (by unfold A_ser; rw [(inB_t h1), (inB_t h3), decide_eq_false b116_6, decide_eq_false b125_7, decide_eq_false b139_8, decide_eq_false b153_9]; exact hX36_2), _, rfl, hI, (show Cor σ σ from Cor.rfl' σ)⟩
                · skip
                  refine R_iload (pc := 156) dX9_series_156 rfl ?_
                  refine R_goto (pc := 158) 163 dX9_series_158 (by decide) ?_
                  exact R_iret (pc := 163) dX9_series_163 rfl rfl (Nat.zero_le _) (Nat.zero_le _) ⟨_, rfl, (by unfold A_ser; rw [(inB_t h1), (inB_t h3), decide_eq_false b116_6, decide_eq_false b125_7, decide_eq_false b139_8, decide_eq_true b153_9]; exact hX36_1), _, rfl, hI, (show Cor σ σ from Cor.rfl' σ)⟩
              · skip
                refine R_aload_n (pc := 142) dX9_series_142 rfl rfl ?_
                refine R_iload_n (pc := 143) dX9_series_143 rfl rfl ?_
                refine R_iconst (pc := 144) (v := (-1)) dX9_series_144 (by decide) ?_
                refine k_X9_188 (pc := 145) (ge_X9_endOf_d _ _ hI) rfl (c_140 _) (by decide) (Nat.le_refl _) (Nat.le_refl _) (Nat.le_of_ble_eq_true rfl) dX9_series_145 (fun x w2 h => ?_)
                obtain ⟨rfl, rfl⟩ := h
                refine R_goto (pc := 148) 163 dX9_series_148 (by decide) ?_
                exact R_iret (pc := 163) dX9_series_163 rfl rfl (Nat.zero_le _) (Nat.zero_le _) ⟨_, rfl, (by unfold A_ser; rw [(inB_t h1), (inB_t h3), decide_eq_false b116_6, decide_eq_false b125_7, decide_eq_true b139_8]; exact rfl), _, rfl, hI, (show Cor σ σ from Cor.rfl' σ)⟩
            · skip
              refine R_aload_n (pc := 128) dX9_series_128 rfl rfl ?_
              refine R_iload_n (pc := 129) dX9_series_129 rfl rfl ?_
              refine R_iconst (pc := 130) (v := 1) dX9_series_130 (by decide) ?_
              refine k_X9_188 (pc := 131) (ge_X9_endOf_u _ _ hI) rfl (c_140 _) (by decide) (Nat.le_refl _) (Nat.le_refl _) (Nat.le_of_ble_eq_true rfl) dX9_series_131 (fun x w2 h => ?_)
              obtain ⟨rfl, rfl⟩ := h
              refine R_goto (pc := 134) 163 dX9_series_134 (by decide) ?_
              exact R_iret (pc := 163) dX9_series_163 rfl rfl (Nat.zero_le _) (Nat.zero_le _) ⟨_, rfl, (by unfold A_ser; rw [(inB_t h1), (inB_t h3), decide_eq_false b116_6, decide_eq_true b125_7]; exact rfl), _, rfl, hI, (show Cor σ σ from Cor.rfl' σ)⟩
          · skip
            refine R_iload_n (pc := 119) dX9_series_119 rfl rfl ?_
            refine R_goto (pc := 120) 163 dX9_series_120 (by decide) ?_
            exact R_iret (pc := 163) dX9_series_163 rfl rfl (Nat.zero_le _) (Nat.zero_le _) ⟨_, rfl, (by unfold A_ser; rw [(inB_t h1), (inB_t h3), decide_eq_true b116_6]; exact hX36_0), _, rfl, hI, (show Cor σ σ from Cor.rfl' σ)⟩
        | succ q ih36 =>
          intro j36 g3_36 g4_36 g5_36 g6_36 g8_36 hj hs36 hX36_0 hX36_1 hX36_2 hX36_3
          have hrg36 : inR (nI j36) 1 99 := inR_ix hs36 (show j36 < 100 by omega) (by decide) (by decide) (by decide)
          have hlt36 : j36 < 100 := by omega
          refine R_iload (pc := 36) dX9_series_36 rfl ?_
          refine R_bipush (pc := 38) (v := 100) dX9_series_38 (by decide) ?_
          refine R_icge (pc := 40) 115 dX9_series_40 (by decide) (fun h => False.elim (by have q1 := ti_le h; have q2 := ti_in (show inR (nI j36) 1 99 from hrg36); have q3 := ti_in (show inR 100 100 100 from (inR_self _)); have z0 : (1 : Int32).toInt = 1 := (by decide);  have z1 : (100 : Int32).toInt = 100 := (by decide);  have z2 : (99 : Int32).toInt = 99 := (by decide); omega)) (fun _ => ?_)
          refine R_aload_n (pc := 43) dX9_series_43 rfl rfl ?_
          refine R_iload_n (pc := 44) dX9_series_44 rfl rfl ?_
          refine R_iload (pc := 45) dX9_series_45 rfl ?_
          refine k_X9_176 (pc := 47) (ge_X9_isMissing _ _ _ j36 hI rfl (by omega)) rfl (c_140 _) (by decide) (Nat.le_refl _) (Nat.le_refl _) (Nat.le_of_ble_eq_true rfl) dX9_series_47 (fun x w2 h => ?_)
          rcases h with ⟨rfl, ⟨h11, rfl⟩ | ⟨h11, rfl⟩⟩
          · skip
            refine st_9_8_i_i (pc := 50) dX9_series_50 ?_
            refine R_iload_n (pc := 52) dX9_series_52 rfl rfl ?_
            refine R_aload_n (pc := 53) dX9_series_53 rfl rfl ?_
            refine R_iload_n (pc := 54) dX9_series_54 rfl rfl ?_
            refine R_iload (pc := 55) dX9_series_55 rfl ?_
            refine k_X9_185 (pc := 57) (ge_X9_hasNumber _ _ _ hI) rfl (c_140 _) (by decide) (Nat.le_refl _) (Nat.le_refl _) (Nat.le_of_ble_eq_true rfl) dX9_series_57 (fun x w2 h => ?_)
            rcases h with ⟨rfl, ⟨h12, rfl⟩ | ⟨h12, rfl⟩⟩
            · skip
              refine R_ifeq (pc := 60) 67 dX9_series_60 (by decide) (fun h => absurd h (by decide)) (fun _ => ?_)
              refine R_iconst (pc := 63) (v := 1) dX9_series_63 (by decide) ?_
              refine R_goto (pc := 64) 68 dX9_series_64 (by decide) ?_
              refine R_iadd (pc := 68) dX9_series_68 ?_
              refine st_9_3_i_i (pc := 69) dX9_series_69 ?_
              refine R_iload (pc := 70) dX9_series_70 rfl ?_
              refine R_iload (pc := 72) dX9_series_72 rfl ?_
              refine R_ifeq (pc := 74) 81 dX9_series_74 (by decide) (fun h => absurd h (by decide)) (fun _ => ?_)
              refine R_iconst (pc := 77) (v := 1) dX9_series_77 (by decide) ?_
              refine R_goto (pc := 78) 82 dX9_series_78 (by decide) ?_
              refine R_iadd (pc := 82) dX9_series_82 ?_
              refine st_9_4_i_i (pc := 83) dX9_series_83 ?_
              refine R_iload (pc := 85) dX9_series_85 rfl ?_
              refine R_iload (pc := 87) dX9_series_87 rfl ?_
              refine R_ifeq (pc := 89) 101 dX9_series_89 (by decide) (fun h => absurd h (by decide)) (fun _ => ?_)
              refine R_iload (pc := 92) dX9_series_92 rfl ?_
              refine R_ifne (pc := 94) 101 dX9_series_94 (by decide) (fun b94_16 => ?_) (fun b94_16 => ?_)
              · skip
                refine R_iconst (pc := 101) (v := 0) dX9_series_101 (by decide) ?_
                refine R_iadd (pc := 102) dX9_series_102 ?_
                refine st_9_5_i_i (pc := 103) dX9_series_103 ?_
                refine R_iload (pc := 105) dX9_series_105 rfl ?_
                refine st_9_6_i_i (pc := 107) dX9_series_107 ?_
                refine inc_9_7_1_i (pc := 109) dX9_series_109 ?_
                have r17 : inR ((nI j36) + 1) 2 100 := inR_add (show inR (nI j36) 1 99 from hrg36) (show inR 1 1 1 from (inR_self _)) (by decide) (by decide)
                have e18 := ti_add (l := 2) (h := 100) (show inR (nI j36) 1 99 from hrg36) (show inR 1 1 1 from (inR_self _)) (by decide) (by decide)
                refine R_goto (pc := 112) 36 dX9_series_112 (by decide) ?_
                rw [nI_1]
                exact ih36 (j36 + 1) _ _ _ _ _ (by omega) (by omega) (sr_t (H := (HM σ p)) (by omega) (show HM σ p j36 = true from h12) hX36_0) (mc_t (m := (mB (HM σ p))) (by omega) h11 hX36_1) ((Int32.add_zero _).trans (gc_f2 (m := (mB (HM σ p))) (by omega) (hX36_3.resolve_right (fun e => absurd e.2 b94_16)).1 hX36_2)) (Or.inl ⟨h11, rfl⟩)
              · skip
                refine R_iconst (pc := 97) (v := 1) dX9_series_97 (by decide) ?_
                refine R_goto (pc := 98) 102 dX9_series_98 (by decide) ?_
                refine R_iadd (pc := 102) dX9_series_102 ?_
                refine st_9_5_i_i (pc := 103) dX9_series_103 ?_
                refine R_iload (pc := 105) dX9_series_105 rfl ?_
                refine st_9_6_i_i (pc := 107) dX9_series_107 ?_
                refine inc_9_7_1_i (pc := 109) dX9_series_109 ?_
                have r19 : inR ((nI j36) + 1) 2 100 := inR_add (show inR (nI j36) 1 99 from hrg36) (show inR 1 1 1 from (inR_self _)) (by decide) (by decide)
                have e20 := ti_add (l := 2) (h := 100) (show inR (nI j36) 1 99 from hrg36) (show inR 1 1 1 from (inR_self _)) (by decide) (by decide)
                refine R_goto (pc := 112) 36 dX9_series_112 (by decide) ?_
                rw [nI_1]
                exact ih36 (j36 + 1) _ _ _ _ _ (by omega) (by omega) (sr_t (H := (HM σ p)) (by omega) (show HM σ p j36 = true from h12) hX36_0) (mc_t (m := (mB (HM σ p))) (by omega) h11 hX36_1) (gc_t (m := (mB (HM σ p))) (by omega) h11 (hX36_3.resolve_left (fun e => absurd (e.2.symm.trans b94_16) (by decide))).1 hX36_2) (Or.inl ⟨h11, rfl⟩)
            · skip
              refine R_ifeq (pc := 60) 67 dX9_series_60 (by decide) (fun _ => ?_) (fun h => absurd (by decide) h)
              refine R_iconst (pc := 67) (v := 0) dX9_series_67 (by decide) ?_
              refine R_iadd (pc := 68) dX9_series_68 ?_
              refine st_9_3_i_i (pc := 69) dX9_series_69 ?_
              refine R_iload (pc := 70) dX9_series_70 rfl ?_
              refine R_iload (pc := 72) dX9_series_72 rfl ?_
              refine R_ifeq (pc := 74) 81 dX9_series_74 (by decide) (fun h => absurd h (by decide)) (fun _ => ?_)
              refine R_iconst (pc := 77) (v := 1) dX9_series_77 (by decide) ?_
              refine R_goto (pc := 78) 82 dX9_series_78 (by decide) ?_
              refine R_iadd (pc := 82) dX9_series_82 ?_
              refine st_9_4_i_i (pc := 83) dX9_series_83 ?_
              refine R_iload (pc := 85) dX9_series_85 rfl ?_
              refine R_iload (pc := 87) dX9_series_87 rfl ?_
              refine R_ifeq (pc := 89) 101 dX9_series_89 (by decide) (fun h => absurd h (by decide)) (fun _ => ?_)
              refine R_iload (pc := 92) dX9_series_92 rfl ?_
              refine R_ifne (pc := 94) 101 dX9_series_94 (by decide) (fun b94_24 => ?_) (fun b94_24 => ?_)
              · skip
                refine R_iconst (pc := 101) (v := 0) dX9_series_101 (by decide) ?_
                refine R_iadd (pc := 102) dX9_series_102 ?_
                refine st_9_5_i_i (pc := 103) dX9_series_103 ?_
                refine R_iload (pc := 105) dX9_series_105 rfl ?_
                refine st_9_6_i_i (pc := 107) dX9_series_107 ?_
                refine inc_9_7_1_i (pc := 109) dX9_series_109 ?_
                have r25 : inR ((nI j36) + 1) 2 100 := inR_add (show inR (nI j36) 1 99 from hrg36) (show inR 1 1 1 from (inR_self _)) (by decide) (by decide)
                have e26 := ti_add (l := 2) (h := 100) (show inR (nI j36) 1 99 from hrg36) (show inR 1 1 1 from (inR_self _)) (by decide) (by decide)
                refine R_goto (pc := 112) 36 dX9_series_112 (by decide) ?_
                rw [nI_1]
                exact ih36 (j36 + 1) _ _ _ _ _ (by omega) (by omega) (sr_f (H := (HM σ p)) (by omega) (show HM σ p j36 = false from h12) hX36_0) (mc_t (m := (mB (HM σ p))) (by omega) h11 hX36_1) ((Int32.add_zero _).trans (gc_f2 (m := (mB (HM σ p))) (by omega) (hX36_3.resolve_right (fun e => absurd e.2 b94_24)).1 hX36_2)) (Or.inl ⟨h11, rfl⟩)
              · skip
                refine R_iconst (pc := 97) (v := 1) dX9_series_97 (by decide) ?_
                refine R_goto (pc := 98) 102 dX9_series_98 (by decide) ?_
                refine R_iadd (pc := 102) dX9_series_102 ?_
                refine st_9_5_i_i (pc := 103) dX9_series_103 ?_
                refine R_iload (pc := 105) dX9_series_105 rfl ?_
                refine st_9_6_i_i (pc := 107) dX9_series_107 ?_
                refine inc_9_7_1_i (pc := 109) dX9_series_109 ?_
                have r27 : inR ((nI j36) + 1) 2 100 := inR_add (show inR (nI j36) 1 99 from hrg36) (show inR 1 1 1 from (inR_self _)) (by decide) (by decide)
                have e28 := ti_add (l := 2) (h := 100) (show inR (nI j36) 1 99 from hrg36) (show inR 1 1 1 from (inR_self _)) (by decide) (by decide)
                refine R_goto (pc := 112) 36 dX9_series_112 (by decide) ?_
                rw [nI_1]
                exact ih36 (j36 + 1) _ _ _ _ _ (by omega) (by omega) (sr_f (H := (HM σ p)) (by omega) (show HM σ p j36 = false from h12) hX36_0) (mc_t (m := (mB (HM σ p))) (by omega) h11 hX36_1) (gc_t (m := (mB (HM σ p))) (by omega) h11 (hX36_3.resolve_left (fun e => absurd (e.2.symm.trans b94_24) (by decide))).1 hX36_2) (Or.inl ⟨h11, rfl⟩)
          · skip
            refine st_9_8_i_i (pc := 50) dX9_series_50 ?_
            refine R_iload_n (pc := 52) dX9_series_52 rfl rfl ?_
            refine R_aload_n (pc := 53) dX9_series_53 rfl rfl ?_
            refine R_iload_n (pc := 54) dX9_series_54 rfl rfl ?_
            refine R_iload (pc := 55) dX9_series_55 rfl ?_
            refine k_X9_185 (pc := 57) (ge_X9_hasNumber _ _ _ hI) rfl (c_140 _) (by decide) (Nat.le_refl _) (Nat.le_refl _) (Nat.le_of_ble_eq_true rfl) dX9_series_57 (fun x w2 h => ?_)
            rcases h with ⟨rfl, ⟨h29, rfl⟩ | ⟨h29, rfl⟩⟩
            · skip
              refine R_ifeq (pc := 60) 67 dX9_series_60 (by decide) (fun h => absurd h (by decide)) (fun _ => ?_)
              refine R_iconst (pc := 63) (v := 1) dX9_series_63 (by decide) ?_
              refine R_goto (pc := 64) 68 dX9_series_64 (by decide) ?_
              refine R_iadd (pc := 68) dX9_series_68 ?_
              refine st_9_3_i_i (pc := 69) dX9_series_69 ?_
              refine R_iload (pc := 70) dX9_series_70 rfl ?_
              refine R_iload (pc := 72) dX9_series_72 rfl ?_
              refine R_ifeq (pc := 74) 81 dX9_series_74 (by decide) (fun _ => ?_) (fun h => absurd (by decide) h)
              refine R_iconst (pc := 81) (v := 0) dX9_series_81 (by decide) ?_
              refine R_iadd (pc := 82) dX9_series_82 ?_
              refine st_9_4_i_i (pc := 83) dX9_series_83 ?_
              refine R_iload (pc := 85) dX9_series_85 rfl ?_
              refine R_iload (pc := 87) dX9_series_87 rfl ?_
              refine R_ifeq (pc := 89) 101 dX9_series_89 (by decide) (fun _ => ?_) (fun h => absurd (by decide) h)
              refine R_iconst (pc := 101) (v := 0) dX9_series_101 (by decide) ?_
              refine R_iadd (pc := 102) dX9_series_102 ?_
              refine st_9_5_i_i (pc := 103) dX9_series_103 ?_
              refine R_iload (pc := 105) dX9_series_105 rfl ?_
              refine st_9_6_i_i (pc := 107) dX9_series_107 ?_
              refine inc_9_7_1_i (pc := 109) dX9_series_109 ?_
              have r33 : inR ((nI j36) + 1) 2 100 := inR_add (show inR (nI j36) 1 99 from hrg36) (show inR 1 1 1 from (inR_self _)) (by decide) (by decide)
              have e34 := ti_add (l := 2) (h := 100) (show inR (nI j36) 1 99 from hrg36) (show inR 1 1 1 from (inR_self _)) (by decide) (by decide)
              refine R_goto (pc := 112) 36 dX9_series_112 (by decide) ?_
              rw [nI_1]
              exact ih36 (j36 + 1) _ _ _ _ _ (by omega) (by omega) (sr_t (H := (HM σ p)) (by omega) (show HM σ p j36 = true from h29) hX36_0) (mc_f (m := (mB (HM σ p))) (by omega) h11 hX36_1) ((Int32.add_zero _).trans (gc_f1 (m := (mB (HM σ p))) (by omega) h11 hX36_2)) (Or.inr ⟨h11, rfl⟩)
            · skip
              refine R_ifeq (pc := 60) 67 dX9_series_60 (by decide) (fun _ => ?_) (fun h => absurd (by decide) h)
              refine R_iconst (pc := 67) (v := 0) dX9_series_67 (by decide) ?_
              refine R_iadd (pc := 68) dX9_series_68 ?_
              refine st_9_3_i_i (pc := 69) dX9_series_69 ?_
              refine R_iload (pc := 70) dX9_series_70 rfl ?_
              refine R_iload (pc := 72) dX9_series_72 rfl ?_
              refine R_ifeq (pc := 74) 81 dX9_series_74 (by decide) (fun _ => ?_) (fun h => absurd (by decide) h)
              refine R_iconst (pc := 81) (v := 0) dX9_series_81 (by decide) ?_
              refine R_iadd (pc := 82) dX9_series_82 ?_
              refine st_9_4_i_i (pc := 83) dX9_series_83 ?_
              refine R_iload (pc := 85) dX9_series_85 rfl ?_
              refine R_iload (pc := 87) dX9_series_87 rfl ?_
              refine R_ifeq (pc := 89) 101 dX9_series_89 (by decide) (fun _ => ?_) (fun h => absurd (by decide) h)
              refine R_iconst (pc := 101) (v := 0) dX9_series_101 (by decide) ?_
              refine R_iadd (pc := 102) dX9_series_102 ?_
              refine st_9_5_i_i (pc := 103) dX9_series_103 ?_
              refine R_iload (pc := 105) dX9_series_105 rfl ?_
              refine st_9_6_i_i (pc := 107) dX9_series_107 ?_
              refine inc_9_7_1_i (pc := 109) dX9_series_109 ?_
              have r38 : inR ((nI j36) + 1) 2 100 := inR_add (show inR (nI j36) 1 99 from hrg36) (show inR 1 1 1 from (inR_self _)) (by decide) (by decide)
              have e39 := ti_add (l := 2) (h := 100) (show inR (nI j36) 1 99 from hrg36) (show inR 1 1 1 from (inR_self _)) (by decide) (by decide)
              refine R_goto (pc := 112) 36 dX9_series_112 (by decide) ?_
              rw [nI_1]
              exact ih36 (j36 + 1) _ _ _ _ _ (by omega) (by omega) (sr_f (H := (HM σ p)) (by omega) (show HM σ p j36 = false from h29) hX36_0) (mc_f (m := (mB (HM σ p))) (by omega) h11 hX36_1) ((Int32.add_zero _).trans (gc_f1 (m := (mB (HM σ p))) (by omega) h11 hX36_2)) (Or.inr ⟨h11, rfl⟩)
      exact HL36 99 1 _ _ _ _ _ (by omega) (by omega) rfl rfl rfl (Or.inr ⟨m_zero _, rfl⟩)
    · skip
      refine R_ifne (pc := 16) 22 dX9_series_16 (by decide) (fun h => absurd (by decide) h) (fun _ => ?_)
      refine R_bipush (pc := 19) (v := (-3)) dX9_series_19 (by decide) ?_
      exact R_iret (pc := 21) dX9_series_21 rfl rfl (Nat.zero_le _) (Nat.zero_le _) ⟨_, rfl, (by unfold A_ser; rw [(inB_t h1), (inB_f h3)]; rfl), _, rfl, hI, (show Cor σ σ from Cor.rfl' σ)⟩
  · skip
    refine R_ifne (pc := 4) 10 dX9_series_4 (by decide) (fun h => absurd (by decide) h) (fun _ => ?_)
    refine R_bipush (pc := 7) (v := (-2)) dX9_series_7 (by decide) ?_
    exact R_iret (pc := 9) dX9_series_9 rfl rfl (Nat.zero_le _) (Nat.zero_le _) ⟨_, rfl, (by unfold A_ser; rw [(inB_f h1)]; rfl), _, rfl, hI, (show Cor σ σ from Cor.rfl' σ)⟩
set_option maxRecDepth 100000 in
set_option maxHeartbeats 40000000 in
theorem gq_X9_gap {G : vG} {l : Launch} (σ : Sg) (p i : Int32) (hI : Inv σ) : Sp G l yX9_gap cX9_gap 6 (some .int) 4 0 0 [.ref 140, .int p, .int i] (WW σ) (QI (fun x w2 => x = A_gap p i (HM σ p) ∧ ∃ σ2, w2 = WW σ2 ∧ Inv σ2 ∧ Cor σ σ2)) := by
  refine Sp_of_R [(some (.ref 140)), (some (.int p)), (some (.int i)), none, none, none] [none, none, none] rfl (by simp) rfl (Nat.le_of_ble_eq_true rfl) ?_
  refine R_iload_n (pc := 0) dX9_gap_0 rfl rfl ?_
  refine k_X9_128 (pc := 1) (fx_X9_isPublisher _ _) rfl (by decide) (Nat.le_refl _) (Nat.le_refl _) (Nat.le_of_ble_eq_true rfl) dX9_gap_1 (fun x w2 h => ?_)
  rcases h with ⟨rfl, ⟨h1, rfl⟩ | ⟨h1, rfl⟩⟩
  · skip
    refine R_ifne (pc := 4) 10 dX9_gap_4 (by decide) (fun _ => ?_) (fun h => absurd h (by decide))
    refine R_iload_n (pc := 10) dX9_gap_10 rfl rfl ?_
    refine R_ifge (pc := 11) 17 dX9_gap_11 (by decide) (fun b11_3 => ?_) (fun b11_3 => ?_)
    · skip
      refine R_iload_n (pc := 17) dX9_gap_17 rfl rfl ?_
      refine st_6_3_i_i (pc := 18) dX9_gap_18 ?_
      refine R_iconst (pc := 19) (v := 0) dX9_gap_19 (by decide) ?_
      refine st_6_4_i_i (pc := 20) dX9_gap_20 ?_
      refine R_iconst (pc := 22) (v := 1) dX9_gap_22 (by decide) ?_
      refine st_6_5_i_i (pc := 23) dX9_gap_23 ?_
      have HL25 : ∀ (q j25 : Nat) (g3_25 : Int32) (g4_25 : Int32), j25 + q = 100 → 1 ≤ j25 → gM (mB (HM σ p)) 99 1 i 0 = gM (mB (HM σ p)) q j25 g3_25 g4_25 → R G l yX9_gap cX9_gap 6 (some .int) 4 0 0 (QI (fun x w2 => x = A_gap p i (HM σ p) ∧ ∃ σ2, w2 = WW σ2 ∧ Inv σ2 ∧ Cor σ σ2)) 25 [(some (.ref 140)), (some (.int p)), (some (.int i)), (some (.int g3_25)), (some (.int g4_25)), (some (.int (nI j25)))] [] (WW σ) 0 0 := by
        intro q
        induction q with
        | zero =>
          intro j25 g3_25 g4_25 hj hs25 hX25_0
          obtain rfl : j25 = 100 := by omega
          refine R_iload (pc := 25) dX9_gap_25 rfl ?_
          refine R_bipush (pc := 27) (v := 100) dX9_gap_27 (by decide) ?_
          refine R_icge (pc := 29) 91 dX9_gap_29 (by decide) (fun _ => ?_) (fun h => absurd (by decide) h)
          refine R_iconst (pc := 91) (v := (-1)) dX9_gap_91 (by decide) ?_
          exact R_iret (pc := 92) dX9_gap_92 rfl rfl (Nat.zero_le _) (Nat.zero_le _) ⟨_, rfl, (by unfold A_gap; rw [(inB_t h1), decide_eq_false (Int32.not_lt.mpr b11_3)]; exact (show (-1 : Int32) = _ from (hX25_0.symm.trans (gap_eq _ _).symm))), _, rfl, hI, (show Cor σ σ from Cor.rfl' σ)⟩
        | succ q ih25 =>
          intro j25 g3_25 g4_25 hj hs25 hX25_0
          have hrg25 : inR (nI j25) 1 99 := inR_ix hs25 (show j25 < 100 by omega) (by decide) (by decide) (by decide)
          have hlt25 : j25 < 100 := by omega
          refine R_iload (pc := 25) dX9_gap_25 rfl ?_
          refine R_bipush (pc := 27) (v := 100) dX9_gap_27 (by decide) ?_
          refine R_icge (pc := 29) 91 dX9_gap_29 (by decide) (fun h => False.elim (by have q1 := ti_le h; have q2 := ti_in (show inR (nI j25) 1 99 from hrg25); have q3 := ti_in (show inR 100 100 100 from (inR_self _)); have z0 : (1 : Int32).toInt = 1 := (by decide);  have z1 : (100 : Int32).toInt = 100 := (by decide);  have z2 : (99 : Int32).toInt = 99 := (by decide); omega)) (fun _ => ?_)
          refine R_aload_n (pc := 32) dX9_gap_32 rfl rfl ?_
          refine R_iload_n (pc := 33) dX9_gap_33 rfl rfl ?_
          refine R_iload (pc := 34) dX9_gap_34 rfl ?_
          refine k_X9_176 (pc := 36) (ge_X9_isMissing _ _ _ j25 hI rfl (by omega)) rfl (c_140 _) (by decide) (Nat.le_refl _) (Nat.le_refl _) (Nat.le_of_ble_eq_true rfl) dX9_gap_36 (fun x w2 h => ?_)
          rcases h with ⟨rfl, ⟨h6, rfl⟩ | ⟨h6, rfl⟩⟩
          · skip
            refine R_ifeq (pc := 39) 59 dX9_gap_39 (by decide) (fun h => absurd h (by decide)) (fun _ => ?_)
            refine R_iload (pc := 42) dX9_gap_42 rfl ?_
            refine R_ifne (pc := 44) 52 dX9_gap_44 (by decide) (fun b44_8 => ?_) (fun b44_8 => ?_)
            · skip
              refine R_iload (pc := 52) dX9_gap_52 rfl ?_
              refine st_6_4_i_i (pc := 54) dX9_gap_54 ?_
              refine R_goto (pc := 56) 85 dX9_gap_56 (by decide) ?_
              refine inc_6_5_1_i (pc := 85) dX9_gap_85 ?_
              have r9 : inR ((nI j25) + 1) 2 100 := inR_add (show inR (nI j25) 1 99 from hrg25) (show inR 1 1 1 from (inR_self _)) (by decide) (by decide)
              have e10 := ti_add (l := 2) (h := 100) (show inR (nI j25) 1 99 from hrg25) (show inR 1 1 1 from (inR_self _)) (by decide) (by decide)
              refine R_goto (pc := 88) 25 dX9_gap_88 (by decide) ?_
              rw [nI_1]
              exact ih25 (j25 + 1) _ _ (by omega) (by omega) (gr_2 (m := (mB (HM σ p))) hX25_0 h6 b44_8)
            · skip
              refine R_iload (pc := 47) dX9_gap_47 rfl ?_
              refine R_goto (pc := 49) 54 dX9_gap_49 (by decide) ?_
              refine st_6_4_i_i (pc := 54) dX9_gap_54 ?_
              refine R_goto (pc := 56) 85 dX9_gap_56 (by decide) ?_
              refine inc_6_5_1_i (pc := 85) dX9_gap_85 ?_
              have r11 : inR ((nI j25) + 1) 2 100 := inR_add (show inR (nI j25) 1 99 from hrg25) (show inR 1 1 1 from (inR_self _)) (by decide) (by decide)
              have e12 := ti_add (l := 2) (h := 100) (show inR (nI j25) 1 99 from hrg25) (show inR 1 1 1 from (inR_self _)) (by decide) (by decide)
              refine R_goto (pc := 88) 25 dX9_gap_88 (by decide) ?_
              rw [nI_1]
              exact ih25 (j25 + 1) _ _ (by omega) (by omega) (gr_1 (m := (mB (HM σ p))) hX25_0 h6 b44_8)
          · skip
            refine R_ifeq (pc := 39) 59 dX9_gap_39 (by decide) (fun _ => ?_) (fun h => absurd (by decide) h)
            refine R_iload (pc := 59) dX9_gap_59 rfl ?_
            refine R_ifle (pc := 61) 85 dX9_gap_61 (by decide) (fun b61_14 => ?_) (fun b61_14 => ?_)
            · skip
              refine inc_6_5_1_i (pc := 85) dX9_gap_85 ?_
              have r15 : inR ((nI j25) + 1) 2 100 := inR_add (show inR (nI j25) 1 99 from hrg25) (show inR 1 1 1 from (inR_self _)) (by decide) (by decide)
              have e16 := ti_add (l := 2) (h := 100) (show inR (nI j25) 1 99 from hrg25) (show inR 1 1 1 from (inR_self _)) (by decide) (by decide)
              refine R_goto (pc := 88) 25 dX9_gap_88 (by decide) ?_
              rw [nI_1]
              exact ih25 (j25 + 1) _ _ (by omega) (by omega) (gr_3 (m := (mB (HM σ p))) hX25_0 h6 b61_14)
            · skip
              refine R_iload_n (pc := 64) dX9_gap_64 rfl rfl ?_
              refine R_ifne (pc := 65) 79 dX9_gap_65 (by decide) (fun b65_17 => ?_) (fun b65_17 => ?_)
              · skip
                refine inc_6_3_m1_i (pc := 79) dX9_gap_79 ?_
                refine R_iconst (pc := 82) (v := 0) dX9_gap_82 (by decide) ?_
                refine st_6_4_i_i (pc := 83) dX9_gap_83 ?_
                refine inc_6_5_1_i (pc := 85) dX9_gap_85 ?_
                have r18 : inR ((nI j25) + 1) 2 100 := inR_add (show inR (nI j25) 1 99 from hrg25) (show inR 1 1 1 from (inR_self _)) (by decide) (by decide)
                have e19 := ti_add (l := 2) (h := 100) (show inR (nI j25) 1 99 from hrg25) (show inR 1 1 1 from (inR_self _)) (by decide) (by decide)
                refine R_goto (pc := 88) 25 dX9_gap_88 (by decide) ?_
                rw [nI_1]
                exact ih25 (j25 + 1) _ _ (by omega) (by omega) (gr_4 (m := (mB (HM σ p))) hX25_0 h6 b61_14 b65_17)
              · skip
                refine R_bipush (pc := 68) (v := 100) dX9_gap_68 (by decide) ?_
                refine R_iload (pc := 70) dX9_gap_70 rfl ?_
                refine R_imul (pc := 72) dX9_gap_72 ?_
                refine R_iload (pc := 73) dX9_gap_73 rfl ?_
                refine R_iadd (pc := 75) dX9_gap_75 ?_
                refine R_iconst (pc := 76) (v := 1) dX9_gap_76 (by decide) ?_
                refine R_isub (pc := 77) dX9_gap_77 ?_
                exact R_iret (pc := 78) dX9_gap_78 rfl rfl (Nat.zero_le _) (Nat.zero_le _) ⟨_, rfl, (by unfold A_gap; rw [(inB_t h1), decide_eq_false (Int32.not_lt.mpr b11_3)]; exact (gr_5 (m := (mB (HM σ p))) hX25_0 h6 b61_14 b65_17).trans (gap_eq _ _).symm), _, rfl, hI, (show Cor σ σ from Cor.rfl' σ)⟩
      exact HL25 99 1 _ _ (by omega) (by omega) rfl
    · skip
      refine R_bipush (pc := 14) (v := (-3)) dX9_gap_14 (by decide) ?_
      exact R_iret (pc := 16) dX9_gap_16 rfl rfl (Nat.zero_le _) (Nat.zero_le _) ⟨_, rfl, (by unfold A_gap; rw [(inB_t h1), decide_eq_true (Int32.not_le.mp b11_3)]; rfl), _, rfl, hI, (show Cor σ σ from Cor.rfl' σ)⟩
  · skip
    refine R_ifne (pc := 4) 10 dX9_gap_4 (by decide) (fun h => absurd (by decide) h) (fun _ => ?_)
    refine R_bipush (pc := 7) (v := (-2)) dX9_gap_7 (by decide) ?_
    exact R_iret (pc := 9) dX9_gap_9 rfl rfl (Nat.zero_le _) (Nat.zero_le _) ⟨_, rfl, (by unfold A_gap; rw [(inB_f h1)]; rfl), _, rfl, hI, (show Cor σ σ from Cor.rfl' σ)⟩
theorem th_tm {σ : Sg} (hI : Inv σ) (hT : Tie σ) : ∀ i : Nat, i < 20 → thC σ (nI i) = decide (i < tm (σ.1 14000) (σ.1 14013) (σ.2.2.1 148)) := by
  intro i hi
  rw [Bool.eq_iff_iff, decide_eq_true_eq]
  constructor
  · intro h
    rw [← th_eq hI hT] at h
    have := thM_l h
    rw [nI_clamp (by omega)] at this
    exact this
  · intro h
    rw [t_size hT, t_asof hT, t_told hT] at h
    obtain ⟨h1, h2⟩ := (tm_iff (fun i j a b d => t_mono hT i j a b d) hi).mp h
    unfold thC
    rw [nI_clamp (by omega), decide_eq_false (nI_pos (by omega)), decide_eq_false (Int32.not_le.mpr h1), decide_eq_false (Int32.not_lt.mpr h2)]
    rfl
theorem tm_sz {σ : Sg} (hI : Inv σ) (hT : Tie σ) : tm (σ.1 14000) (σ.1 14013) (σ.2.2.1 148) ≤ Int32.toNatClampNeg (σ.1 110) := by
  have ht := tm_le (σ.1 14000) (σ.1 14013) (σ.2.2.1 148)
  by_cases h : tm (σ.1 14000) (σ.1 14013) (σ.2.2.1 148) = 0
  · omega
  · have h1 : tm (σ.1 14000) (σ.1 14013) (σ.2.2.1 148) - 1 < tm (σ.1 14000) (σ.1 14013) (σ.2.2.1 148) := by omega
    have h2 : tm (σ.1 14000) (σ.1 14013) (σ.2.2.1 148) - 1 < 20 := by omega
    have h3 := h1
    rw [t_size hT, t_asof hT, t_told hT] at h3 h2 ht ⊢
    have h4 := ti_lt ((tm_iff (fun i j a b d => t_mono hT i j a b d) h2).mp h3).1
    rw [nI_toInt (by omega)] at h4
    show _ ≤ (σ.1 110).toInt.toNat
    omega
theorem hm_eq {σ σ2 : Sg} (hI : Inv σ) (hT : Tie σ) (h1 : Cor σ σ2) (p : Int32) : HC σ p = HM σ2 p := by
  funext k
  unfold HC HM hasM
  rw [h1.1 14000 rfl, h1.1 14013 rfl, h1.2.2.1 148 rfl, h1.2.2.1 142 rfl, h1.2.2.1 143 rfl, t_publ hT, t_numb hT]
  exact bor_has (tm_le _ _ _) (th_tm hI hT) _ (tm_sz hI hT) (by have := ti_in (iv_110 hI); have z : (20 : Int32).toInt = 20 := by decide
                                                                show (σ.1 110).toInt.toNat ≤ 20; omega)
theorem ans_series {σ σ2 : Sg} {p a : Int32} (hI : Inv σ) (hT : Tie σ) (h1 : Cor σ σ2) : A_ser p a (HC σ p) = A_ser p a (HM σ2 p) := by rw [hm_eq hI hT h1]
theorem ans_gap {σ σ2 : Sg} {p i : Int32} (hI : Inv σ) (hT : Tie σ) (h1 : Cor σ σ2) : A_gap p i (HC σ p) = A_gap p i (HM σ2 p) := by rw [hm_eq hI hT h1]
