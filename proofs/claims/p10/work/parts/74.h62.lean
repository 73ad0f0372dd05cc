/-! methods on any state that keeps the invariant -/
def hasM (σ : Sg) (a b : Int32) : Bool := hasB (σ.2.2.1 142) (σ.2.2.1 143) a b (tm (σ.1 14000) (σ.1 14013) (σ.2.2.1 148))
def HM (σ : Sg) (p : Int32) : Nat → Bool := fun k => hasM σ p (nI k)
theorem hs_t1 {P N : Nat → Int32} {p n : Int32} {i : Nat} (h : hasB P N p n i = true) : hasB P N p n (i + 1) = true := has_t1 h
theorem hs_t2 {P N : Nat → Int32} {p n : Int32} {i : Nat} (hi : i < 20) (h1 : P (Int32.toNatClampNeg (nI i)) = p) (h2 : N (Int32.toNatClampNeg (nI i)) = n) : hasB P N p n (i + 1) = true := by
  rw [nI_clamp (by omega)] at h1 h2
  exact has_t2 h1 h2
theorem hs_f1 {P N : Nat → Int32} {p n : Int32} {i : Nat} (hi : i < 20) (h : hasB P N p n i = false) (h1 : ¬ P (Int32.toNatClampNeg (nI i)) = p) : hasB P N p n (i + 1) = false := by
  rw [nI_clamp (by omega)] at h1
  exact has_f1 h h1
theorem hs_f2 {P N : Nat → Int32} {p n : Int32} {i : Nat} (hi : i < 20) (h : hasB P N p n i = false) (h1 : ¬ N (Int32.toNatClampNeg (nI i)) = n) : hasB P N p n (i + 1) = false := by
  rw [nI_clamp (by omega)] at h1
  exact has_f2 h h1
theorem lo_n {H : Nat → Bool} {j : Nat} (hj : 1 ≤ j) (e : loR H (j - 1) = -1) (hH : H j = false) : loR H (j + 1 - 1) = -1 := by
  show loR H j = -1
  rw [lo_p hj, hH]; exact e
theorem lo_stay {H : Nat → Bool} {j : Nat} {v : Int32} (h : loR H j = v) (hv : ¬ v = -1) : ∀ k : Nat, j ≤ k → loR H k = v := by
  intro k
  induction k with
  | zero => intro h2; obtain rfl : j = 0 := by omega
            exact h
  | succ k ih =>
    intro h2
    by_cases e : j = k + 1
    · rw [← e]; exact h
    · unfold loR
      rw [ih (by omega), decide_eq_false hv]
      cases H (k + 1) <;> rfl
theorem lo_h {H : Nat → Bool} {j : Nat} (hj : 1 ≤ j) (hj2 : j ≤ 99) (e : loR H (j - 1) = -1) (hH : H j = true) : nI j = loR H 99 := by
  have h1 : loR H j = nI j := by rw [lo_p hj, hH, e, decide_eq_true (show (-1 : Int32) = -1 from rfl)]; rfl
  exact (lo_stay h1 (nI_nem (by omega)) 99 hj2).symm
theorem nI_m1 (q : Nat) : nI (q + 1) + (-1) = nI q := by rw [← Int32.sub_eq_add_neg]; exact nI_pred q
theorem hi_s1 {H : Nat → Bool} {q : Nat} (e : hiR H 99 = hiR H (q + 1)) (hH : H (q + 1) = true) : nI (q + 1) = hiR H 99 := by rw [e]; unfold hiR; rw [hH]; rfl
theorem hi_s0 {H : Nat → Bool} {q : Nat} (e : hiR H 99 = hiR H (q + 1)) (hH : H (q + 1) = false) : hiR H 99 = hiR H q := by
  rw [e]
  show (bif H (q + 1) then nI (q + 1) else hiR H q) = hiR H q
  rw [hH]; rfl
theorem mr_0 {H : Nat → Bool} {k : Nat} (hk : k ≤ 100) (e : loR H 99 = -1) : mB H k = false := by
  cases h : mB H k
  · rfl
  · have h2 := (m_iff hk).mp h
    have e1 := lo_nI H 99 (by omega)
    rw [decide_eq_false h2.1] at e1
    exact absurd (e1.symm.trans e) (nI_nem (by have := num_all H 99; omega))
theorem mr_1 {H : Nat → Bool} {n : Int32} {k : Nat} (hn : n = nI k) (h : n ≤ loR H 99) : mB H k = false := by
  unfold mB
  rw [← hn, decide_eq_false (Int32.not_lt.mpr h)]; rfl
theorem mr_2 {H : Nat → Bool} {n : Int32} {k : Nat} (hn : n = nI k) (h : hiR H 99 ≤ n) : mB H k = false := by
  unfold mB
  rw [← hn, decide_eq_false (Int32.not_lt.mpr h)]; simp
theorem mr_3 {H : Nat → Bool} {k : Nat} (h : H k = true) : mB H k = false := by unfold mB; rw [h]; simp
theorem mr_4 {H : Nat → Bool} {n : Int32} {k : Nat} (hn : n = nI k) (h1 : ¬ n ≤ loR H 99) (h2 : ¬ hiR H 99 ≤ n) (h : H k = false) : mB H k = true := by
  unfold mB
  rw [← hn, decide_eq_true (Int32.not_le.mp h1), decide_eq_true (Int32.not_le.mp h2), h]; rfl
set_option maxRecDepth 100000 in
set_option maxHeartbeats 40000000 in
theorem ge_X9_hasNumber {G : vG} {l : Launch} (σ : Sg) (a b : Int32) (hI : Inv σ) : Sp G l yX9_hasNumber cX9_hasNumber 5 (some .boolean) 1 0 0 [.ref 140, .int a, .int b] (WW σ) (QI (fun x w2 => w2 = WW σ ∧ (hasM σ a b = true ∧ x = 1 ∨ hasM σ a b = false ∧ x = 0))) := by
  refine Sp_of_R [(some (.ref 140)), (some (.int a)), (some (.int b)), none, none] [none, none] rfl (by simp) rfl (Nat.le_of_ble_eq_true rfl) ?_
  refine R_iconst (pc := 0) (v := 0) dX9_hasNumber_0 (by decide) ?_
  refine st_5_3_i_i (pc := 1) dX9_hasNumber_1 ?_
  refine R_iconst (pc := 2) (v := 0) dX9_hasNumber_2 (by decide) ?_
  refine st_5_4_i_i (pc := 3) dX9_hasNumber_3 ?_
  have HL5 : ∀ (q j5 : Nat) (g3_5 : Int32), j5 + q = 20 → 0 ≤ j5 → inR g3_5 0 1 → (g3_5 = 1 ∧ hasB (σ.2.2.1 142) (σ.2.2.1 143) a b j5 = true ∨ g3_5 = 0 ∧ hasB (σ.2.2.1 142) (σ.2.2.1 143) a b j5 = false) → j5 ≤ (tm (σ.1 14000) (σ.1 14013) (σ.2.2.1 148)) → R G l yX9_hasNumber cX9_hasNumber 5 (some .boolean) 1 0 0 (QI (fun x w2 => w2 = WW σ ∧ (hasM σ a b = true ∧ x = 1 ∨ hasM σ a b = false ∧ x = 0))) 5 [(some (.ref 140)), (some (.int a)), (some (.int b)), (some (.int g3_5)), (some (.int (nI j5)))] [] (WW σ) 0 0 := by
    intro q
    induction q with
    | zero =>
      intro j5 g3_5 hj hs5 hg3_5 hX5_0 hX5_1
      obtain rfl : j5 = 20 := by omega
      refine R_iload (pc := 5) dX9_hasNumber_5 rfl ?_
      refine R_aload_n (pc := 7) dX9_hasNumber_7 rfl rfl ?_
      refine k_X9_120 (pc := 8) (ge_X9_thereMany _ hI) rfl (c_140 _) (by decide) (Nat.le_refl _) (Nat.le_refl _) (Nat.le_of_ble_eq_true rfl) dX9_hasNumber_8 (fun x w2 h => ?_)
      obtain ⟨rfl, rfl⟩ := h
      refine R_icge (pc := 11) 52 dX9_hasNumber_11 (by decide) (fun _ => ?_) (fun h => absurd (Int32.not_lt.mp (inR_up (tm_in (σ.1 14000) (σ.1 14013) (σ.2.2.1 148)) (Int32.le_refl _) (by decide)).2) h)
      refine R_iload_n (pc := 52) dX9_hasNumber_52 rfl rfl ?_
      exact R_iret (pc := 53) dX9_hasNumber_53 rfl (nar01 hg3_5) (Nat.zero_le _) (Nat.zero_le _) ⟨_, rfl, rfl, hX5_0.imp (fun q => ⟨(by unfold hasM; rw [← (show 20 = (tm (σ.1 14000) (σ.1 14013) (σ.2.2.1 148)) from by first | exact tm_exit (by omega) hX5_1 (by assumption) | exact tm_ex20 hX5_1)]; exact q.2), q.1⟩) (fun q => ⟨(by unfold hasM; rw [← (show 20 = (tm (σ.1 14000) (σ.1 14013) (σ.2.2.1 148)) from by first | exact tm_exit (by omega) hX5_1 (by assumption) | exact tm_ex20 hX5_1)]; exact q.2), q.1⟩)⟩
    | succ q ih5 =>
      intro j5 g3_5 hj hs5 hg3_5 hX5_0 hX5_1
      have hrg5 : inR (nI j5) 0 19 := inR_ix hs5 (show j5 < 20 by omega) (by decide) (by decide) (by decide)
      have hlt5 : j5 < 20 := by omega
      refine R_iload (pc := 5) dX9_hasNumber_5 rfl ?_
      refine R_aload_n (pc := 7) dX9_hasNumber_7 rfl rfl ?_
      refine k_X9_120 (pc := 8) (ge_X9_thereMany _ hI) rfl (c_140 _) (by decide) (Nat.le_refl _) (Nat.le_refl _) (Nat.le_of_ble_eq_true rfl) dX9_hasNumber_8 (fun x w2 h => ?_)
      obtain ⟨rfl, rfl⟩ := h
      refine R_icge (pc := 11) 52 dX9_hasNumber_11 (by decide) (fun b11_2 => ?_) (fun b11_2 => ?_)
      · skip
        refine R_iload_n (pc := 52) dX9_hasNumber_52 rfl rfl ?_
        exact R_iret (pc := 53) dX9_hasNumber_53 rfl (nar01 hg3_5) (Nat.zero_le _) (Nat.zero_le _) ⟨_, rfl, rfl, hX5_0.imp (fun q => ⟨(by unfold hasM; rw [← (show j5 = (tm (σ.1 14000) (σ.1 14013) (σ.2.2.1 148)) from by first | exact tm_exit (by omega) hX5_1 (by assumption) | exact tm_ex20 hX5_1)]; exact q.2), q.1⟩) (fun q => ⟨(by unfold hasM; rw [← (show j5 = (tm (σ.1 14000) (σ.1 14013) (σ.2.2.1 148)) from by first | exact tm_exit (by omega) hX5_1 (by assumption) | exact tm_ex20 hX5_1)]; exact q.2), q.1⟩)⟩
      · skip
        refine R_iload_n (pc := 14) dX9_hasNumber_14 rfl rfl ?_
        refine R_ifne (pc := 15) 40 dX9_hasNumber_15 (by decide) (fun b15_3 => ?_) (fun b15_3 => ?_)
        · skip
          refine R_iconst (pc := 40) (v := 1) dX9_hasNumber_40 (by decide) ?_
          refine R_goto (pc := 41) 45 dX9_hasNumber_41 (by decide) ?_
          refine st_5_3_i_i (pc := 45) dX9_hasNumber_45 ?_
          refine inc_5_4_1_i (pc := 46) dX9_hasNumber_46 ?_
          have r4 : inR ((nI j5) + 1) 1 20 := inR_add (show inR (nI j5) 0 19 from hrg5) (show inR 1 1 1 from (inR_self _)) (by decide) (by decide)
          have e5 := ti_add (l := 1) (h := 20) (show inR (nI j5) 0 19 from hrg5) (show inR 1 1 1 from (inR_self _)) (by decide) (by decide)
          refine R_goto (pc := 49) 5 dX9_hasNumber_49 (by decide) ?_
          rw [nI_1]
          exact ih5 (j5 + 1) _ (by omega) (by omega) (show inR 1 0 1 from ⟨by decide, by decide⟩) (Or.inl ⟨rfl, hs_t1 (hX5_0.resolve_right (fun e => absurd e.1 b15_3)).2⟩) (tm_next (by omega) b11_2)
        · skip
          refine R_aload_n (pc := 18) dX9_hasNumber_18 rfl rfl ?_
          refine g_X9_13 (pc := 19) (v := .ref 142) rfl dX9_hasNumber_19 (c_140 _) rfl ?_
          refine R_iload (pc := 22) dX9_hasNumber_22 rfl ?_
          have hx6 : vp_in (nI j5) 20 := (vp_in_nI (by omega) (by decide))
          refine R_iaload (pc := 24) dX9_hasNumber_24 (c_142 _) hx6 ?_
          refine R_iload_n (pc := 25) dX9_hasNumber_25 rfl rfl ?_
          refine R_icne (pc := 26) 44 dX9_hasNumber_26 (by decide) (fun b26_7 => ?_) (fun b26_7 => ?_)
          · skip
            refine R_iconst (pc := 44) (v := 0) dX9_hasNumber_44 (by decide) ?_
            refine st_5_3_i_i (pc := 45) dX9_hasNumber_45 ?_
            refine inc_5_4_1_i (pc := 46) dX9_hasNumber_46 ?_
            have r8 : inR ((nI j5) + 1) 1 20 := inR_add (show inR (nI j5) 0 19 from hrg5) (show inR 1 1 1 from (inR_self _)) (by decide) (by decide)
            have e9 := ti_add (l := 1) (h := 20) (show inR (nI j5) 0 19 from hrg5) (show inR 1 1 1 from (inR_self _)) (by decide) (by decide)
            refine R_goto (pc := 49) 5 dX9_hasNumber_49 (by decide) ?_
            rw [nI_1]
            exact ih5 (j5 + 1) _ (by omega) (by omega) (show inR 0 0 1 from ⟨by decide, by decide⟩) (Or.inr ⟨rfl, hs_f1 (by omega) (hX5_0.resolve_left (fun e => absurd (e.1.symm.trans b15_3) (by decide))).2 b26_7⟩) (tm_next (by omega) b11_2)
          · skip
            refine R_aload_n (pc := 29) dX9_hasNumber_29 rfl rfl ?_
            refine g_X9_16 (pc := 30) (v := .ref 143) rfl dX9_hasNumber_30 (c_140 _) rfl ?_
            refine R_iload (pc := 33) dX9_hasNumber_33 rfl ?_
            have hx10 : vp_in (nI j5) 20 := (vp_in_nI (by omega) (by decide))
            refine R_iaload (pc := 35) dX9_hasNumber_35 (c_143 _) hx10 ?_
            refine R_iload_n (pc := 36) dX9_hasNumber_36 rfl rfl ?_
            refine R_icne (pc := 37) 44 dX9_hasNumber_37 (by decide) (fun b37_11 => ?_) (fun b37_11 => ?_)
            · skip
              refine R_iconst (pc := 44) (v := 0) dX9_hasNumber_44 (by decide) ?_
              refine st_5_3_i_i (pc := 45) dX9_hasNumber_45 ?_
              refine inc_5_4_1_i (pc := 46) dX9_hasNumber_46 ?_
              have r12 : inR ((nI j5) + 1) 1 20 := inR_add (show inR (nI j5) 0 19 from hrg5) (show inR 1 1 1 from (inR_self _)) (by decide) (by decide)
              have e13 := ti_add (l := 1) (h := 20) (show inR (nI j5) 0 19 from hrg5) (show inR 1 1 1 from (inR_self _)) (by decide) (by decide)
              refine R_goto (pc := 49) 5 dX9_hasNumber_49 (by decide) ?_
              rw [nI_1]
              exact ih5 (j5 + 1) _ (by omega) (by omega) (show inR 0 0 1 from ⟨by decide, by decide⟩) (Or.inr ⟨rfl, hs_f2 (by omega) (hX5_0.resolve_left (fun e => absurd (e.1.symm.trans b15_3) (by decide))).2 b37_11⟩) (tm_next (by omega) b11_2)
            · skip
              refine R_iconst (pc := 40) (v := 1) dX9_hasNumber_40 (by decide) ?_
              refine R_goto (pc := 41) 45 dX9_hasNumber_41 (by decide) ?_
              refine st_5_3_i_i (pc := 45) dX9_hasNumber_45 ?_
              refine inc_5_4_1_i (pc := 46) dX9_hasNumber_46 ?_
              have r14 : inR ((nI j5) + 1) 1 20 := inR_add (show inR (nI j5) 0 19 from hrg5) (show inR 1 1 1 from (inR_self _)) (by decide) (by decide)
              have e15 := ti_add (l := 1) (h := 20) (show inR (nI j5) 0 19 from hrg5) (show inR 1 1 1 from (inR_self _)) (by decide) (by decide)
              refine R_goto (pc := 49) 5 dX9_hasNumber_49 (by decide) ?_
              rw [nI_1]
              exact ih5 (j5 + 1) _ (by omega) (by omega) (show inR 1 0 1 from ⟨by decide, by decide⟩) (Or.inl ⟨rfl, hs_t2 (by omega) b26_7 b37_11⟩) (tm_next (by omega) b11_2)
  exact HL5 20 0 _ (by omega) (by omega) (show inR 0 0 1 from ⟨by decide, by decide⟩) (Or.inr ⟨rfl, rfl⟩) (Nat.zero_le _)
set_option maxRecDepth 100000 in
set_option maxHeartbeats 40000000 in
theorem ge_X9_endOf_u {G : vG} {l : Launch} (σ : Sg) (a : Int32) (hI : Inv σ) : Sp G l yX9_endOf cX9_endOf 4 (some .int) 2 0 0 [.ref 140, .int a, .int 1] (WW σ) (QI (fun x w2 => w2 = WW σ ∧ x = loR (HM σ a) 99)) := by
  refine Sp_of_R [(some (.ref 140)), (some (.int a)), (some (.int 1)), none] [none] rfl (by simp) rfl (Nat.le_of_ble_eq_true rfl) ?_
  refine R_iload_n (pc := 0) dX9_endOf_0 rfl rfl ?_
  refine R_iconst (pc := 1) (v := 1) dX9_endOf_1 (by decide) ?_
  refine R_icne (pc := 2) 9 dX9_endOf_2 (by decide) (fun h => absurd (by decide) h) (fun _ => ?_)
  refine R_iconst (pc := 5) (v := 1) dX9_endOf_5 (by decide) ?_
  refine R_goto (pc := 6) 11 dX9_endOf_6 (by decide) ?_
  refine st_4_3_i_i (pc := 11) dX9_endOf_11 ?_
  have HL12 : ∀ (q j12 : Nat), j12 + q = 100 → 1 ≤ j12 → loR (HM σ a) (j12 - 1) = -1 → R G l yX9_endOf cX9_endOf 4 (some .int) 2 0 0 (QI (fun x w2 => w2 = WW σ ∧ x = loR (HM σ a) 99)) 12 [(some (.ref 140)), (some (.int a)), (some (.int 1)), (some (.int (nI j12)))] [] (WW σ) 0 0 := by
    intro q
    induction q with
    | zero =>
      intro j12 hj hs12 hX12_0
      obtain rfl : j12 = 100 := by omega
      refine R_iload_n (pc := 12) dX9_endOf_12 rfl rfl ?_
      refine R_iconst (pc := 13) (v := 1) dX9_endOf_13 (by decide) ?_
      refine R_bipush (pc := 14) (v := 99) dX9_endOf_14 (by decide) ?_
      refine k_X9_124 (pc := 16) (sp_X9_in _ _ _ _) rfl (by decide) (Nat.le_refl _) (Nat.le_refl _) (Nat.le_of_ble_eq_true rfl) dX9_endOf_16 (fun x w2 h => ?_)
      obtain ⟨rfl, h⟩ := h
      rcases h with ⟨h, -⟩ | ⟨-, rfl⟩
      · exact absurd h (by unfold inR; decide)
      refine R_ifeq (pc := 19) 38 dX9_endOf_19 (by decide) (fun _ => ?_) (fun h => absurd (by decide) h)
      refine R_iload_n (pc := 38) dX9_endOf_38 rfl rfl ?_
      refine R_iconst (pc := 39) (v := 1) dX9_endOf_39 (by decide) ?_
      refine R_bipush (pc := 40) (v := 99) dX9_endOf_40 (by decide) ?_
      refine k_X9_124 (pc := 42) (sp_X9_in _ _ _ _) rfl (by decide) (Nat.le_refl _) (Nat.le_refl _) (Nat.le_of_ble_eq_true rfl) dX9_endOf_42 (fun x w2 h => ?_)
      obtain ⟨rfl, h⟩ := h
      rcases h with ⟨h, -⟩ | ⟨-, rfl⟩
      · exact absurd h (by unfold inR; decide)
      refine R_ifeq (pc := 45) 52 dX9_endOf_45 (by decide) (fun _ => ?_) (fun h => absurd (by decide) h)
      refine R_iconst (pc := 52) (v := (-1)) dX9_endOf_52 (by decide) ?_
      exact R_iret (pc := 53) dX9_endOf_53 rfl rfl (Nat.zero_le _) (Nat.zero_le _) ⟨_, rfl, rfl, hX12_0.symm⟩
    | succ q ih12 =>
      intro j12 hj hs12 hX12_0
      have hrg12 : inR (nI j12) 1 99 := inR_ix hs12 (show j12 < 100 by omega) (by decide) (by decide) (by decide)
      have hlt12 : j12 < 100 := by omega
      refine R_iload_n (pc := 12) dX9_endOf_12 rfl rfl ?_
      refine R_iconst (pc := 13) (v := 1) dX9_endOf_13 (by decide) ?_
      refine R_bipush (pc := 14) (v := 99) dX9_endOf_14 (by decide) ?_
      refine k_X9_124 (pc := 16) (sp_X9_in _ _ _ _) rfl (by decide) (Nat.le_refl _) (Nat.le_refl _) (Nat.le_of_ble_eq_true rfl) dX9_endOf_16 (fun x w2 h => ?_)
      rcases h with ⟨rfl, ⟨h4, rfl⟩ | ⟨h4, -⟩⟩
      · skip
        refine R_ifeq (pc := 19) 38 dX9_endOf_19 (by decide) (fun h => absurd h (by decide)) (fun _ => ?_)
        refine R_aload_n (pc := 22) dX9_endOf_22 rfl rfl ?_
        refine R_iload_n (pc := 23) dX9_endOf_23 rfl rfl ?_
        refine R_iload_n (pc := 24) dX9_endOf_24 rfl rfl ?_
        refine k_X9_185 (pc := 25) (ge_X9_hasNumber _ _ _ hI) rfl (c_140 _) (by decide) (Nat.le_refl _) (Nat.le_refl _) (Nat.le_of_ble_eq_true rfl) dX9_endOf_25 (fun x w2 h => ?_)
        rcases h with ⟨rfl, ⟨h6, rfl⟩ | ⟨h6, rfl⟩⟩
        · skip
          refine R_ifne (pc := 28) 38 dX9_endOf_28 (by decide) (fun _ => ?_) (fun h => absurd h (by decide))
          refine R_iload_n (pc := 38) dX9_endOf_38 rfl rfl ?_
          refine R_iconst (pc := 39) (v := 1) dX9_endOf_39 (by decide) ?_
          refine R_bipush (pc := 40) (v := 99) dX9_endOf_40 (by decide) ?_
          refine k_X9_124 (pc := 42) (sp_X9_in _ _ _ _) rfl (by decide) (Nat.le_refl _) (Nat.le_refl _) (Nat.le_of_ble_eq_true rfl) dX9_endOf_42 (fun x w2 h => ?_)
          rcases h with ⟨rfl, ⟨h8, rfl⟩ | ⟨h8, -⟩⟩
          · skip
            refine R_ifeq (pc := 45) 52 dX9_endOf_45 (by decide) (fun h => absurd h (by decide)) (fun _ => ?_)
            refine R_iload_n (pc := 48) dX9_endOf_48 rfl rfl ?_
            refine R_goto (pc := 49) 53 dX9_endOf_49 (by decide) ?_
            exact R_iret (pc := 53) dX9_endOf_53 rfl rfl (Nat.zero_le _) (Nat.zero_le _) ⟨_, rfl, rfl, (lo_h (by omega) (by omega) hX12_0 (show HM σ a j12 = true from h6))⟩
          · exact absurd hrg12 h8
        · skip
          refine R_ifne (pc := 28) 38 dX9_endOf_28 (by decide) (fun h => absurd (by decide) h) (fun _ => ?_)
          refine R_iload_n (pc := 31) dX9_endOf_31 rfl rfl ?_
          refine R_iload_n (pc := 32) dX9_endOf_32 rfl rfl ?_
          refine R_iadd (pc := 33) dX9_endOf_33 ?_
          have r11 : inR ((nI j12) + 1) 2 100 := inR_add (show inR (nI j12) 1 99 from hrg12) (show inR 1 1 1 from (inR_self _)) (by decide) (by decide)
          have e12 := ti_add (l := 2) (h := 100) (show inR (nI j12) 1 99 from hrg12) (show inR 1 1 1 from (inR_self _)) (by decide) (by decide)
          refine st_4_3_i_i (pc := 34) dX9_endOf_34 ?_
          refine R_goto (pc := 35) 12 dX9_endOf_35 (by decide) ?_
          rw [nI_1]
          exact ih12 (j12 + 1) (by omega) (by omega) (lo_n (by omega) hX12_0 (show HM σ a j12 = false from h6))
      · exact absurd hrg12 h4
  exact HL12 99 1 (by omega) (by omega) rfl
set_option maxRecDepth 100000 in
set_option maxHeartbeats 40000000 in
theorem ge_X9_endOf_d {G : vG} {l : Launch} (σ : Sg) (a : Int32) (hI : Inv σ) : Sp G l yX9_endOf cX9_endOf 4 (some .int) 2 0 0 [.ref 140, .int a, .int (-1)] (WW σ) (QI (fun x w2 => w2 = WW σ ∧ x = hiR (HM σ a) 99)) := by
  refine Sp_of_R [(some (.ref 140)), (some (.int a)), (some (.int (-1))), none] [none] rfl (by simp) rfl (Nat.le_of_ble_eq_true rfl) ?_
  refine R_iload_n (pc := 0) dX9_endOf_0 rfl rfl ?_
  refine R_iconst (pc := 1) (v := 1) dX9_endOf_1 (by decide) ?_
  refine R_icne (pc := 2) 9 dX9_endOf_2 (by decide) (fun _ => ?_) (fun h => absurd h (by decide))
  refine R_bipush (pc := 9) (v := 99) dX9_endOf_9 (by decide) ?_
  refine st_4_3_i_i (pc := 11) dX9_endOf_11 ?_
  have HL : ∀ q : Nat, q ≤ 99 → hiR (HM σ a) 99 = hiR (HM σ a) q → R G l yX9_endOf cX9_endOf 4 (some .int) 2 0 0 (QI (fun x w2 => w2 = WW σ ∧ x = hiR (HM σ a) 99)) 12 [(some (.ref 140)), (some (.int a)), (some (.int (-1))), (some (.int (nI q)))] [] (WW σ) 0 0 := by
    intro q
    induction q with
    | zero =>
      intro hq he
      refine R_iload_n (pc := 12) dX9_endOf_12 rfl rfl ?_
      refine R_iconst (pc := 13) (v := 1) dX9_endOf_13 (by decide) ?_
      refine R_bipush (pc := 14) (v := 99) dX9_endOf_14 (by decide) ?_
      refine k_X9_124 (pc := 16) (sp_X9_in _ _ _ _) rfl (by decide) (Nat.le_refl _) (Nat.le_refl _) (Nat.le_of_ble_eq_true rfl) dX9_endOf_16 (fun x w2 h => ?_)
      obtain ⟨rfl, h⟩ := h
      rcases h with ⟨h, -⟩ | ⟨-, rfl⟩
      · exact absurd h (by unfold inR; decide)
      refine R_ifeq (pc := 19) 38 dX9_endOf_19 (by decide) (fun _ => ?_) (fun h => absurd (by decide) h)
      refine R_iload_n (pc := 38) dX9_endOf_38 rfl rfl ?_
      refine R_iconst (pc := 39) (v := 1) dX9_endOf_39 (by decide) ?_
      refine R_bipush (pc := 40) (v := 99) dX9_endOf_40 (by decide) ?_
      refine k_X9_124 (pc := 42) (sp_X9_in _ _ _ _) rfl (by decide) (Nat.le_refl _) (Nat.le_refl _) (Nat.le_of_ble_eq_true rfl) dX9_endOf_42 (fun x w2 h => ?_)
      obtain ⟨rfl, h⟩ := h
      rcases h with ⟨h, -⟩ | ⟨-, rfl⟩
      · exact absurd h (by unfold inR; decide)
      refine R_ifeq (pc := 45) 52 dX9_endOf_45 (by decide) (fun _ => ?_) (fun h => absurd (by decide) h)
      refine R_iconst (pc := 52) (v := (-1)) dX9_endOf_52 (by decide) ?_
      exact R_iret (pc := 53) dX9_endOf_53 rfl rfl (Nat.zero_le _) (Nat.zero_le _) ⟨_, rfl, rfl, (show (-1 : Int32) = _ from he.symm)⟩
    | succ q ih =>
      intro hq he
      have hrg : inR (nI (q + 1)) 1 99 := inR_ix (s := 1) (j := q + 1) (N := 100) (by omega) (by omega) (by decide) (by decide) (by decide)
      refine R_iload_n (pc := 12) dX9_endOf_12 rfl rfl ?_
      refine R_iconst (pc := 13) (v := 1) dX9_endOf_13 (by decide) ?_
      refine R_bipush (pc := 14) (v := 99) dX9_endOf_14 (by decide) ?_
      refine k_X9_124 (pc := 16) (sp_X9_in _ _ _ _) rfl (by decide) (Nat.le_refl _) (Nat.le_refl _) (Nat.le_of_ble_eq_true rfl) dX9_endOf_16 (fun x w2 h => ?_)
      rcases h with ⟨rfl, ⟨h4, rfl⟩ | ⟨h4, -⟩⟩
      · skip
        refine R_ifeq (pc := 19) 38 dX9_endOf_19 (by decide) (fun h => absurd h (by decide)) (fun _ => ?_)
        refine R_aload_n (pc := 22) dX9_endOf_22 rfl rfl ?_
        refine R_iload_n (pc := 23) dX9_endOf_23 rfl rfl ?_
        refine R_iload_n (pc := 24) dX9_endOf_24 rfl rfl ?_
        refine k_X9_185 (pc := 25) (ge_X9_hasNumber _ _ _ hI) rfl (c_140 _) (by decide) (Nat.le_refl _) (Nat.le_refl _) (Nat.le_of_ble_eq_true rfl) dX9_endOf_25 (fun x w2 h => ?_)
        rcases h with ⟨rfl, ⟨h6, rfl⟩ | ⟨h6, rfl⟩⟩
        · skip
          refine R_ifne (pc := 28) 38 dX9_endOf_28 (by decide) (fun _ => ?_) (fun h => absurd h (by decide))
          refine R_iload_n (pc := 38) dX9_endOf_38 rfl rfl ?_
          refine R_iconst (pc := 39) (v := 1) dX9_endOf_39 (by decide) ?_
          refine R_bipush (pc := 40) (v := 99) dX9_endOf_40 (by decide) ?_
          refine k_X9_124 (pc := 42) (sp_X9_in _ _ _ _) rfl (by decide) (Nat.le_refl _) (Nat.le_refl _) (Nat.le_of_ble_eq_true rfl) dX9_endOf_42 (fun x w2 h => ?_)
          rcases h with ⟨rfl, ⟨h8, rfl⟩ | ⟨h8, -⟩⟩
          · skip
            refine R_ifeq (pc := 45) 52 dX9_endOf_45 (by decide) (fun h => absurd h (by decide)) (fun _ => ?_)
            refine R_iload_n (pc := 48) dX9_endOf_48 rfl rfl ?_
            refine R_goto (pc := 49) 53 dX9_endOf_49 (by decide) ?_
            exact R_iret (pc := 53) dX9_endOf_53 rfl rfl (Nat.zero_le _) (Nat.zero_le _) ⟨_, rfl, rfl, (hi_s1 he (show HM σ a (q + 1) = true from h6))⟩
          · exact absurd hrg h8
        · skip
          refine R_ifne (pc := 28) 38 dX9_endOf_28 (by decide) (fun h => absurd (by decide) h) (fun _ => ?_)
          refine R_iload_n (pc := 31) dX9_endOf_31 rfl rfl ?_
          refine R_iload_n (pc := 32) dX9_endOf_32 rfl rfl ?_
          refine R_iadd (pc := 33) dX9_endOf_33 ?_
          have r11 : inR ((nI (q + 1)) + (-1)) 0 98 := inR_add (show inR (nI (q + 1)) 1 99 from hrg) (show inR (-1) (-1) (-1) from (inR_self _)) (by decide) (by decide)
          have e12 := ti_add (l := 0) (h := 98) (show inR (nI (q + 1)) 1 99 from hrg) (show inR (-1) (-1) (-1) from (inR_self _)) (by decide) (by decide)
          refine st_4_3_i_i (pc := 34) dX9_endOf_34 ?_
          refine R_goto (pc := 35) 12 dX9_endOf_35 (by decide) ?_
          rw [nI_m1]
          exact ih (by omega) (hi_s0 he (show HM σ a (q + 1) = false from h6))
      · exact absurd hrg h4
  exact HL 99 (Nat.le_refl _) rfl
set_option maxRecDepth 100000 in
set_option maxHeartbeats 40000000 in
theorem ge_X9_isMissing {G : vG} {l : Launch} (σ : Sg) (a n : Int32) (k : Nat) (hI : Inv σ) (hn : n = nI k) (hk : k ≤ 100) : Sp G l yX9_isMissing cX9_isMissing 3 (some .boolean) 3 0 0 [.ref 140, .int a, .int n] (WW σ) (QI (fun x w2 => w2 = WW σ ∧ (mB (HM σ a) k = true ∧ x = 1 ∨ mB (HM σ a) k = false ∧ x = 0))) := by
  refine Sp_of_R [(some (.ref 140)), (some (.int a)), (some (.int n))] [] rfl (by simp) rfl (Nat.le_of_ble_eq_true rfl) ?_
  refine R_aload_n (pc := 0) dX9_isMissing_0 rfl rfl ?_
  refine R_iload_n (pc := 1) dX9_isMissing_1 rfl rfl ?_
  refine R_iconst (pc := 2) (v := 1) dX9_isMissing_2 (by decide) ?_
  refine k_X9_188 (pc := 3) (ge_X9_endOf_u _ _ hI) rfl (c_140 _) (by decide) (Nat.le_refl _) (Nat.le_refl _) (Nat.le_of_ble_eq_true rfl) dX9_isMissing_3 (fun x w2 h => ?_)
  obtain ⟨rfl, rfl⟩ := h
  refine R_iconst (pc := 6) (v := (-1)) dX9_isMissing_6 (by decide) ?_
  refine R_iceq (pc := 7) 43 dX9_isMissing_7 (by decide) (fun b7_1 => ?_) (fun b7_1 => ?_)
  · skip
    refine R_iconst (pc := 43) (v := 0) dX9_isMissing_43 (by decide) ?_
    exact R_iret (pc := 44) dX9_isMissing_44 rfl rfl (Nat.zero_le _) (Nat.zero_le _) ⟨_, rfl, rfl, Or.inr ⟨(mr_0 hk b7_1), rfl⟩⟩
  · skip
    refine R_iload_n (pc := 10) dX9_isMissing_10 rfl rfl ?_
    refine R_aload_n (pc := 11) dX9_isMissing_11 rfl rfl ?_
    refine R_iload_n (pc := 12) dX9_isMissing_12 rfl rfl ?_
    refine R_iconst (pc := 13) (v := 1) dX9_isMissing_13 (by decide) ?_
    refine k_X9_188 (pc := 14) (ge_X9_endOf_u _ _ hI) rfl (c_140 _) (by decide) (Nat.le_refl _) (Nat.le_refl _) (Nat.le_of_ble_eq_true rfl) dX9_isMissing_14 (fun x w2 h => ?_)
    obtain ⟨rfl, rfl⟩ := h
    refine R_icle (pc := 17) 43 dX9_isMissing_17 (by decide) (fun b17_2 => ?_) (fun b17_2 => ?_)
    · skip
      refine R_iconst (pc := 43) (v := 0) dX9_isMissing_43 (by decide) ?_
      exact R_iret (pc := 44) dX9_isMissing_44 rfl rfl (Nat.zero_le _) (Nat.zero_le _) ⟨_, rfl, rfl, Or.inr ⟨(mr_1 hn b17_2), rfl⟩⟩
    · skip
      refine R_iload_n (pc := 20) dX9_isMissing_20 rfl rfl ?_
      refine R_aload_n (pc := 21) dX9_isMissing_21 rfl rfl ?_
      refine R_iload_n (pc := 22) dX9_isMissing_22 rfl rfl ?_
      refine R_iconst (pc := 23) (v := (-1)) dX9_isMissing_23 (by decide) ?_
      refine k_X9_188 (pc := 24) (ge_X9_endOf_d _ _ hI) rfl (c_140 _) (by decide) (Nat.le_refl _) (Nat.le_refl _) (Nat.le_of_ble_eq_true rfl) dX9_isMissing_24 (fun x w2 h => ?_)
      obtain ⟨rfl, rfl⟩ := h
      refine R_icge (pc := 27) 43 dX9_isMissing_27 (by decide) (fun b27_3 => ?_) (fun b27_3 => ?_)
      · skip
        refine R_iconst (pc := 43) (v := 0) dX9_isMissing_43 (by decide) ?_
        exact R_iret (pc := 44) dX9_isMissing_44 rfl rfl (Nat.zero_le _) (Nat.zero_le _) ⟨_, rfl, rfl, Or.inr ⟨(mr_2 hn b27_3), rfl⟩⟩
      · skip
        refine R_aload_n (pc := 30) dX9_isMissing_30 rfl rfl ?_
        refine R_iload_n (pc := 31) dX9_isMissing_31 rfl rfl ?_
        refine R_iload_n (pc := 32) dX9_isMissing_32 rfl rfl ?_
        refine k_X9_185 (pc := 33) (ge_X9_hasNumber _ _ _ hI) rfl (c_140 _) (by decide) (Nat.le_refl _) (Nat.le_refl _) (Nat.le_of_ble_eq_true rfl) dX9_isMissing_33 (fun x w2 h => ?_)
        rcases h with ⟨rfl, ⟨h4, rfl⟩ | ⟨h4, rfl⟩⟩
        · skip
          refine R_ifne (pc := 36) 43 dX9_isMissing_36 (by decide) (fun _ => ?_) (fun h => absurd h (by decide))
          refine R_iconst (pc := 43) (v := 0) dX9_isMissing_43 (by decide) ?_
          exact R_iret (pc := 44) dX9_isMissing_44 rfl rfl (Nat.zero_le _) (Nat.zero_le _) ⟨_, rfl, rfl, Or.inr ⟨(mr_3 (show HM σ a k = true from (show hasM σ a (nI k) = true from hn ▸ h4))), rfl⟩⟩
        · skip
          refine R_ifne (pc := 36) 43 dX9_isMissing_36 (by decide) (fun h => absurd (by decide) h) (fun _ => ?_)
          refine R_iconst (pc := 39) (v := 1) dX9_isMissing_39 (by decide) ?_
          refine R_goto (pc := 40) 44 dX9_isMissing_40 (by decide) ?_
          exact R_iret (pc := 44) dX9_isMissing_44 rfl rfl (Nat.zero_le _) (Nat.zero_le _) ⟨_, rfl, rfl, Or.inl ⟨(mr_4 hn b17_2 b27_3 (show HM σ a k = false from (show hasM σ a (nI k) = false from hn ▸ h4))), rfl⟩⟩
theorem th_tm {σ : Sg} (hI : Inv σ) (hT : Tie σ) : ∀ i : Nat, i < 20 → thC σ (nI i) = decide (i < tm (σ.1 14000) (σ.1 14013) (σ.2.2.1 148)) := by
  intro i hi
  rw [Bool.eq_iff_iff, decide_eq_true_eq]
  constructor
  · intro h
    rw [← th_eq hI hT] at h
    have := thM_l h
    rw [nI_clamp (by omega)] at this
    exact this
  · intro h
    rw [t_size hT, t_asof hT, t_told hT] at h
    obtain ⟨h1, h2⟩ := (tm_iff (fun i j a b d => t_mono hT i j a b d) hi).mp h
    unfold thC
    rw [nI_clamp (by omega), decide_eq_false (nI_pos (by omega)), decide_eq_false (Int32.not_le.mpr h1), decide_eq_false (Int32.not_lt.mpr h2)]
    rfl
theorem tm_sz {σ : Sg} (hI : Inv σ) (hT : Tie σ) : tm (σ.1 14000) (σ.1 14013) (σ.2.2.1 148) ≤ Int32.toNatClampNeg (σ.1 110) := by
  have ht := tm_le (σ.1 14000) (σ.1 14013) (σ.2.2.1 148)
  by_cases h : tm (σ.1 14000) (σ.1 14013) (σ.2.2.1 148) = 0
  · omega
  · have h1 : tm (σ.1 14000) (σ.1 14013) (σ.2.2.1 148) - 1 < tm (σ.1 14000) (σ.1 14013) (σ.2.2.1 148) := by omega
    have h2 : tm (σ.1 14000) (σ.1 14013) (σ.2.2.1 148) - 1 < 20 := by omega
    have h3 := h1
    rw [t_size hT, t_asof hT, t_told hT] at h3 h2 ht ⊢
    have h4 := ti_lt ((tm_iff (fun i j a b d => t_mono hT i j a b d) h2).mp h3).1
    rw [nI_toInt (by omega)] at h4
    show _ ≤ (σ.1 110).toInt.toNat
    omega
theorem hm_eq {σ σ2 : Sg} (hI : Inv σ) (hT : Tie σ) (h1 : Cor σ σ2) (p : Int32) : HC σ p = HM σ2 p := by
  funext k
  unfold HC HM hasM
  rw [h1.1 14000 rfl, h1.1 14013 rfl, h1.2.2.1 148 rfl, h1.2.2.1 142 rfl, h1.2.2.1 143 rfl, t_publ hT, t_numb hT]
  exact bor_has (tm_le _ _ _) (th_tm hI hT) _ (tm_sz hI hT) (by have := ti_in (iv_110 hI); have z : (20 : Int32).toInt = 20 := by decide
                                                                show (σ.1 110).toInt.toNat ≤ 20; omega)
