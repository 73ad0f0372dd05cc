/-! methods on any state that keeps the invariant -/
/-! together: what all of them leave -/
def tgF (K V : Nat → Bool) (S : Nat → Int64) : Nat → Int64
  | 0 => -1
  | n + 1 => bif K n && V n then tgF K V S n &&& S n else tgF K V S n
theorem tg_t {K V : Nat → Bool} {S : Nat → Int64} {g : Int64} {j : Nat} (h : g = tgF K V S j) (h1 : K j = true) (h2 : V j = true) : g &&& S j = tgF K V S (j + 1) := by
  show _ = (bif K j && V j then tgF K V S j &&& S j else tgF K V S j)
  rw [h1, h2, h]; rfl
theorem tg_f1 {K V : Nat → Bool} {S : Nat → Int64} {g : Int64} {j : Nat} (h : g = tgF K V S j) (h1 : K j = false) : g = tgF K V S (j + 1) := by
  show _ = (bif K j && V j then tgF K V S j &&& S j else tgF K V S j)
  rw [h1]; exact h
theorem tg_f2 {K V : Nat → Bool} {S : Nat → Int64} {g : Int64} {j : Nat} (h : g = tgF K V S j) (h2 : V j = false) : g = tgF K V S (j + 1) := by
  show _ = (bif K j && V j then tgF K V S j &&& S j else tgF K V S j)
  rw [h2, Bool.and_false]; exact h
theorem tg_congr {K L V W : Nat → Bool} {S T : Nat → Int64} : ∀ n : Nat, (∀ i, i < n → K i = L i ∧ V i = W i ∧ S i = T i) → tgF K V S n = tgF L W T n := by
  intro n
  induction n with
  | zero => intro _; rfl
  | succ n ih =>
    intro h
    show (bif K n && V n then tgF K V S n &&& S n else tgF K V S n) = (bif L n && W n then tgF L W T n &&& T n else tgF L W T n)
    obtain ⟨a, b, c⟩ := h n (by omega)
    rw [a, b, c, ih (fun i hi => h i (by omega))]
theorem tg_ext {K V : Nat → Bool} {S : Nat → Int64} {n : Nat} (h : ∀ i, n ≤ i → K i = false) : ∀ q : Nat, tgF K V S (n + q) = tgF K V S n := by
  intro q
  induction q with
  | zero => rfl
  | succ q ih =>
    show (bif K (n + q) && V (n + q) then tgF K V S (n + q) &&& S (n + q) else tgF K V S (n + q)) = _
    rw [h (n + q) (by omega)]; exact ih
def A_tog (th : Bool) (v : Int32) : Int32 := bif th then v else -2
theorem A_tog_0 (v : Int32) : A_tog false v = -2 := rfl
theorem A_tog_1 (v : Int32) : A_tog true v = v := rfl
def vwC (σ : Sg) : Nat → Bool := fun o => decide (0 < σ.2.2.1 116 o)
def vwM (σ : Sg) : Nat → Bool := fun o => decide (0 < σ.2.2.1 168 o)
def sdC (σ : Sg) : Nat → Int64 := fun o => stdC σ (nI o)
def sdM (σ : Sg) : Nat → Int64 := fun o => stdM σ (nI o)
theorem stdM_cor {σ τ : Sg} (h : Cor σ τ) (c : Int32) : stdM τ c = stdM σ c := by
  unfold stdM LM
  rw [h.2.2.1 167 rfl, h.2.2.1 168 rfl, h.2.2.1 169 rfl, h.2.1 14034 rfl]
theorem pcL_t (x : Int64) : pcL x = nI (cntB (tbL x) 64) := pcL_nI x
theorem kin_AM {R : Nat → Nat → Bool} {σ : Sg} {c i : Nat} (hc : AMp σ c = true) (h : kin R (AMp σ) c i = true) : AMp σ i = true := by
  rcases rch_in (kin_r h) with q | q
  · rw [q]; exact hc
  · exact q
theorem kin_lab {R : Nat → Nat → Bool} {σ : Sg} (hs : Sym R (AMp σ)) {c i : Nat} (hc : AMp σ c = true) (hi : AMp σ i = true) : kin R (AMp σ) c i = decide (lab R (AMp σ) i = lab R (AMp σ) c) := by
  have c20 : c < 20 := Nat.lt_of_lt_of_le (of_decide_eq_true hc) (tm_le _ _ _)
  have i20 : i < 20 := Nat.lt_of_lt_of_le (of_decide_eq_true hi) (tm_le _ _ _)
  have q := lab_same hs c20 i20 hc hi
  by_cases h : Rch R (AMp σ) c i
  · rw [kin_t h, decide_eq_true (q.mpr h)]
  · rw [kin_f h, decide_eq_false (fun e => h (q.mp e))]
theorem sym_lkN {σ : Sg} (hI : Inv σ) : Sym (lkN σ) (AMp σ) := fun x y hx hy hr => by
  have x20 : x < 20 := Nat.lt_of_lt_of_le (of_decide_eq_true hx) (tm_le _ _ _)
  have y20 : y < 20 := Nat.lt_of_lt_of_le (of_decide_eq_true hy) (tm_le _ _ _)
  show lkD σ y x = true
  rw [lkD_sym hI y20 x20]; exact hr
theorem lab_20 {R : Nat → Nat → Bool} {σ : Sg} {c : Nat} (hc : AMp σ c = true) : lab R (AMp σ) c < 20 := by
  have c20 : c < 20 := Nat.lt_of_lt_of_le (of_decide_eq_true hc) (tm_le _ _ _)
  have := (lab_p (R := R) (A := AMp σ) c20).2.1
  omega
/-- what the reference's table of chains says of two cards -/
theorem neg_kin {R : Nat → Nat → Bool} {σ : Sg} {f : Nat → Int32} {c i : Nat} (hs : Sym R (AMp σ)) (hc : AMp σ c = true) (hi : AMp σ i = true) (e1 : f i = nI (lab R (AMp σ) i)) (e2 : f c = nI (lab R (AMp σ) c)) : decide (f i = f c) = kin R (AMp σ) c i := by
  rw [kin_lab hs hc hi, e1, e2, decide_eq_decide]
  have a := lab_20 (R := R) hc
  have b := lab_20 (R := R) hi
  exact nI_eq (by omega) (by omega)
theorem ans_together {σ σ2 : Sg} {c : Int32} (hI : Inv σ) (hT : Tie σ) (hD : ChD σ) (hlc : ∀ l : Nat, l < 8 → inR (σ.2.2.1 94 l) 0 64) (h1 : Cor σ σ2) : A_tog (thC σ c) (pcL (tgF (kin (fun a b => lkC σ (nI a) (nI b)) (tb (thI σ)) (Int32.toNatClampNeg c)) (vwC σ) (sdC σ) 20)) = A_tog (thM σ2 c) (nI (cntB (tbL (tgF (kin (lkN σ2) (AMp σ2) (Int32.toNatClampNeg c)) (vwM σ2) (sdM σ2) (TMn σ2))) 64)) := by
  rw [th_at hI hT h1]
  cases h : thC σ c
  · rw [A_tog_0, A_tog_0]
  · have hc := thI_c hI h
    have hc2 : AMp σ2 (Int32.toNatClampNeg c) = true := (thI_AM hI hT h1 _).symm.trans hc
    rw [A_tog_1, A_tog_1]
    rw [pcL_t, kin_lk hI hT hD h1 hc]
    congr 3
    have t20 : TMn σ2 ≤ 20 := tm_le _ _ _
    have e := tg_ext (K := kin (lkN σ2) (AMp σ2) (Int32.toNatClampNeg c)) (V := vwM σ2) (S := sdM σ2) (n := TMn σ2) (fun i hi => by
      cases hk : kin (lkN σ2) (AMp σ2) (Int32.toNatClampNeg c) i
      · rfl
      · have q := of_decide_eq_true (kin_AM hc2 hk)
        omega) (20 - TMn σ2)
    rw [show TMn σ2 + (20 - TMn σ2) = 20 by omega] at e
    rw [← e]
    refine tg_congr 20 (fun i hi => ⟨rfl, ?_, ?_⟩)
    · unfold vwC vwM
      rw [h1.2.2.1 168 rfl, t_views hT]
    · exact std_eq hI hT (in19 hi) hlc (h1.2.2.1 167 rfl) (h1.2.2.1 169 rfl) (h1.2.2.1 168 rfl) (h1.2.1 14034 rfl)
theorem has_kt {K : Nat → Bool} {j : Nat} (hj : j < 20) (h : (bsI K 20 >>> (nI j &&& 31)) &&& 1 = 1) : K j = true := by
  have q := has_t (by omega) h
  rw [tb_bs 20 (by omega), decide_eq_true hj] at q; exact q
theorem has_kf {K : Nat → Bool} {j : Nat} (hj : j < 20) (h : ¬ (bsI K 20 >>> (nI j &&& 31)) &&& 1 = 1) : K j = false := by
  have q := has_f (by omega) h
  rw [tb_bs 20 (by omega), decide_eq_true hj] at q; exact q
set_option maxRecDepth 100000 in
set_option maxHeartbeats 40000000 in
theorem gq_X8_together {G : vG} {l : Launch} (σ : Sg) (c : Int32) (hI : Inv σ) (hlc : ∀ l : Nat, l < 8 → inR (σ.2.2.1 94 l) 0 64) : Sp G l yX8_together cX8_together 6 (some .int) 4 0 0 [.ref 0, .int c] (WW σ) (QI (fun x w2 => x = A_tog (thC σ c) (pcL (tgF (kin (fun a b => lkC σ (nI a) (nI b)) (tb (thI σ)) (Int32.toNatClampNeg c)) (vwC σ) (sdC σ) 20)) ∧ ∃ σ2, w2 = WW σ2 ∧ Inv σ2 ∧ Cor σ σ2)) := by
  refine Sp_of_R [(some (.ref 0)), (some (.int c)), none, none, none, none] [none, none, none, none] rfl (by simp) rfl (Nat.le_of_ble_eq_true rfl) ?_
  refine R_aload_n (pc := 0) dX8_together_0 rfl rfl ?_
  refine g_X8_10 (pc := 1) (v := .ref 1) rfl dX8_together_1 (c_0 _) rfl ?_
  refine R_iload_n (pc := 4) dX8_together_4 rfl rfl ?_
  refine k_X8_90 (pc := 5) (ge_X0_isThere _ _ hI) rfl (c_1 _) (by decide) (Nat.le_refl _) (Nat.le_refl _) (Nat.le_of_ble_eq_true rfl) dX8_together_5 (fun x w2 h => ?_)
  rcases h with ⟨rfl, ⟨h1, rfl⟩ | ⟨h1, rfl⟩⟩
  · skip
    refine R_ifne (pc := 8) 14 dX8_together_8 (by decide) (fun _ => ?_) (fun h => absurd h (by decide))
    refine R_aload_n (pc := 14) dX8_together_14 rfl rfl ?_
    refine g_X8_21 (pc := 15) (v := .ref 12) rfl dX8_together_15 (c_0 _) rfl ?_
    refine R_iload_n (pc := 18) dX8_together_18 rfl rfl ?_
    refine R_aload_n (pc := 19) dX8_together_19 rfl rfl ?_
    refine g_X8_10 (pc := 20) (v := .ref 1) rfl dX8_together_20 (c_0 _) rfl ?_
    refine k_X8_126 (pc := 23) (ge_X0_there _ hI) rfl (c_1 _) (by decide) (Nat.le_refl _) (Nat.le_refl _) (Nat.le_of_ble_eq_true rfl) dX8_together_23 (fun x w2 h => ?_)
    obtain ⟨rfl, rfl⟩ := h
    refine k_X8_130 (pc := 26) (gn_X3_sameNegative _ _ _ hI (thC_r hI h1) (thI_in σ)) rfl (c_12 _) (by decide) (Nat.le_refl _) (Nat.le_refl _) (Nat.le_of_ble_eq_true rfl) dX8_together_26 (fun x w2 h => ?_)
    obtain ⟨rfl, rfl⟩ := h
    refine st_6_2_i_i (pc := 29) dX8_together_29 ?_
    refine R_ldc2 (pc := 30) w_697c dX8_together_30 ?_
    refine st_6_3_l_i (pc := 33) dX8_together_33 ?_
    refine R_iconst (pc := 34) (v := 0) dX8_together_34 (by decide) ?_
    refine st_6_5_i_n (pc := 35) dX8_together_35 ?_
    have HL37 : ∀ (q j37 : Nat) (g3_37 : Int64), j37 + q = 20 → 0 ≤ j37 → g3_37 = tgF (kin (fun a b => lkC σ (nI a) (nI b)) (tb (thI σ)) (Int32.toNatClampNeg c)) (vwC σ) (sdC σ) j37 → R G l yX8_together cX8_together 6 (some .int) 4 0 0 (QI (fun x w2 => x = A_tog (thC σ c) (pcL (tgF (kin (fun a b => lkC σ (nI a) (nI b)) (tb (thI σ)) (Int32.toNatClampNeg c)) (vwC σ) (sdC σ) 20)) ∧ ∃ σ2, w2 = WW σ2 ∧ Inv σ2 ∧ Cor σ σ2)) 37 [(some (.ref 0)), (some (.int c)), (some (.int (bsI (kin (fun a b => lkC σ (nI a) (nI b)) (tb (thI σ)) (Int32.toNatClampNeg c)) 20))), (some (.long g3_37)), none, (some (.int (nI j37)))] [] (WW σ) 0 0 := by
      intro q
      induction q with
      | zero =>
        intro j37 g3_37 hj hs37 hX37_0
        obtain rfl : j37 = 20 := by omega
        refine R_iload (pc := 37) dX8_together_37 rfl ?_
        refine R_bipush (pc := 39) (v := 20) dX8_together_39 (by decide) ?_
        refine R_icge (pc := 41) 84 dX8_together_41 (by decide) (fun _ => ?_) (fun h => absurd (by decide) h)
        refine R_lload_n (pc := 84) dX8_together_84 rfl rfl ?_
        refine k_X8_286 (pc := 85) (ge_J13_bitCount _ _) rfl (by decide) (Nat.le_refl _) (Nat.le_refl _) (Nat.le_of_ble_eq_true rfl) dX8_together_85 (fun x w2 h => ?_)
        obtain ⟨rfl, rfl⟩ := h
        refine R_cv (pcL g3_37) rfl ?_
        exact R_iret (pc := 88) dX8_together_88 rfl rfl (Nat.zero_le _) (Nat.zero_le _) ⟨_, rfl, (by unfold A_tog; rw [h1]; exact congrArg pcL hX37_0), _, rfl, hI, (show Cor σ σ from Cor.rfl' σ)⟩
      | succ q ih37 =>
        intro j37 g3_37 hj hs37 hX37_0
        have hrg37 : inR (nI j37) 0 19 := inR_ix hs37 (show j37 < 20 by omega) (by decide) (by decide) (by decide)
        have hlt37 : j37 < 20 := by omega
        refine R_iload (pc := 37) dX8_together_37 rfl ?_
        refine R_bipush (pc := 39) (v := 20) dX8_together_39 (by decide) ?_
        refine R_icge (pc := 41) 84 dX8_together_41 (by decide) (fun h => False.elim (by have q1 := ti_le h; have q2 := ti_in (show inR (nI j37) 0 19 from hrg37); have q3 := ti_in (show inR 20 20 20 from (inR_self _)); have z0 : (0 : Int32).toInt = 0 := (by decide);  have z1 : (19 : Int32).toInt = 19 := (by decide);  have z2 : (20 : Int32).toInt = 20 := (by decide); omega)) (fun _ => ?_)
        refine R_iload_n (pc := 44) dX8_together_44 rfl rfl ?_
        refine R_iload (pc := 45) dX8_together_45 rfl ?_
        refine k_X8_209 (pc := 47) (sp_X8_has _ _ _) rfl (by decide) (Nat.le_refl _) (Nat.le_refl _) (Nat.le_of_ble_eq_true rfl) dX8_together_47 (fun x w2 h => ?_)
        rcases h with ⟨rfl, ⟨hh5, rfl⟩ | ⟨hh5, rfl⟩⟩
        · skip
          refine R_ifeq (pc := 50) 78 dX8_together_50 (by decide) (fun h => absurd h (by decide)) (fun _ => ?_)
          refine R_aload_n (pc := 53) dX8_together_53 rfl rfl ?_
          refine g_X8_44 (pc := 54) (v := .ref 93) rfl dX8_together_54 (c_0 _) rfl ?_
          refine g_X8_274 (pc := 57) (v := .ref 116) rfl dX8_together_57 (c_93 _) rfl ?_
          refine R_iload (pc := 60) dX8_together_60 rfl ?_
          have hx7 : vp_in (nI j37) 20 := (vp_in_nI (by omega) (by decide))
          refine R_iaload (pc := 62) dX8_together_62 (c_116 _) hx7 ?_
          refine R_ifle (pc := 63) 78 dX8_together_63 (by decide) (fun b63_8 => ?_) (fun b63_8 => ?_)
          · skip
            refine inc_6_5_1_n (pc := 78) dX8_together_78 ?_
            have r9 : inR ((nI j37) + 1) 1 20 := inR_add (show inR (nI j37) 0 19 from hrg37) (show inR 1 1 1 from (inR_self _)) (by decide) (by decide)
            have e10 := ti_add (l := 1) (h := 20) (show inR (nI j37) 0 19 from hrg37) (show inR 1 1 1 from (inR_self _)) (by decide) (by decide)
            refine R_goto (pc := 81) 37 dX8_together_81 (by decide) ?_
            rw [nI_1]
            exact ih37 (j37 + 1) _ (by omega) (by omega) (tg_f2 (V := vwC σ) hX37_0 (decide_eq_false (by have q := (Int32.not_lt.mpr b63_8); rw [nI_clamp (by omega)] at q; exact q)))
          · skip
            refine R_lload_n (pc := 66) dX8_together_66 rfl rfl ?_
            refine R_aload_n (pc := 67) dX8_together_67 rfl rfl ?_
            refine g_X8_44 (pc := 68) (v := .ref 93) rfl dX8_together_68 (c_0 _) rfl ?_
            refine R_iload (pc := 71) dX8_together_71 rfl ?_
            refine k_X8_280 (pc := 73) (ge_X2_standing _ _ hI hrg37 hlc) rfl (c_93 _) (by decide) (Nat.le_refl _) (Nat.le_refl _) (Nat.le_of_ble_eq_true rfl) dX8_together_73 (fun x w2 h => ?_)
            obtain ⟨rfl, rfl⟩ := h
            refine R_land (pc := 76) dX8_together_76 ?_
            refine st_6_3_l_i (pc := 77) dX8_together_77 ?_
            refine inc_6_5_1_n (pc := 78) dX8_together_78 ?_
            have r11 : inR ((nI j37) + 1) 1 20 := inR_add (show inR (nI j37) 0 19 from hrg37) (show inR 1 1 1 from (inR_self _)) (by decide) (by decide)
            have e12 := ti_add (l := 1) (h := 20) (show inR (nI j37) 0 19 from hrg37) (show inR 1 1 1 from (inR_self _)) (by decide) (by decide)
            refine R_goto (pc := 81) 37 dX8_together_81 (by decide) ?_
            rw [nI_1]
            exact ih37 (j37 + 1) _ (by omega) (by omega) (tg_t (V := vwC σ) (S := sdC σ) hX37_0 (has_kt (by omega) hh5) (decide_eq_true (by have q := (Int32.not_le.mp b63_8); rw [nI_clamp (by omega)] at q; exact q)))
        · skip
          refine R_ifeq (pc := 50) 78 dX8_together_50 (by decide) (fun _ => ?_) (fun h => absurd (by decide) h)
          refine inc_6_5_1_n (pc := 78) dX8_together_78 ?_
          have r14 : inR ((nI j37) + 1) 1 20 := inR_add (show inR (nI j37) 0 19 from hrg37) (show inR 1 1 1 from (inR_self _)) (by decide) (by decide)
          have e15 := ti_add (l := 1) (h := 20) (show inR (nI j37) 0 19 from hrg37) (show inR 1 1 1 from (inR_self _)) (by decide) (by decide)
          refine R_goto (pc := 81) 37 dX8_together_81 (by decide) ?_
          rw [nI_1]
          exact ih37 (j37 + 1) _ (by omega) (by omega) (tg_f1 hX37_0 (has_kf (by omega) hh5))
    exact HL37 20 0 _ (by omega) (by omega) rfl
  · skip
    refine R_ifne (pc := 8) 14 dX8_together_8 (by decide) (fun h => absurd (by decide) h) (fun _ => ?_)
    refine R_bipush (pc := 11) (v := (-2)) dX8_together_11 (by decide) ?_
    exact R_iret (pc := 13) dX8_together_13 rfl rfl (Nat.zero_le _) (Nat.zero_le _) ⟨_, rfl, (by unfold A_tog; rw [h1]; rfl), _, rfl, hI, (show Cor σ σ from Cor.rfl' σ)⟩
set_option maxRecDepth 100000 in
set_option maxHeartbeats 40000000 in
theorem gq_X9_together {G : vG} {l : Launch} (σ : Sg) (c : Int32) (hI : Inv σ) (hlm : ∀ l : Nat, l < 8 → inR (σ.2.2.1 167 l) 0 64) : Sp G l yX9_together cX9_together 6 (some .int) 4 0 0 [.ref 140, .int c] (WW σ) (QI (fun x w2 => x = A_tog (thM σ c) (nI (cntB (tbL (tgF (kin (lkN σ) (AMp σ) (Int32.toNatClampNeg c)) (vwM σ) (sdM σ) (TMn σ))) 64)) ∧ ∃ σ2, w2 = WW σ2 ∧ Inv σ2 ∧ Cor σ σ2)) := by
  refine Sp_of_R [(some (.ref 140)), (some (.int c)), none, none, none, none] [none, none, none, none] rfl (by simp) rfl (Nat.le_of_ble_eq_true rfl) ?_
  refine R_aload_n (pc := 0) dX9_together_0 rfl rfl ?_
  refine R_iload_n (pc := 1) dX9_together_1 rfl rfl ?_
  refine k_X9_135 (pc := 2) (gf_X9_isThere _ _ hI) rfl (c_140 _) (by decide) (Nat.le_refl _) (Nat.le_refl _) (Nat.le_of_ble_eq_true rfl) dX9_together_2 (fun x w2 h => ?_)
  rcases h with ⟨rfl, ⟨h1, rfl⟩ | ⟨h1, rfl⟩⟩
  · skip
    refine R_ifne (pc := 5) 11 dX9_together_5 (by decide) (fun _ => ?_) (fun h => absurd h (by decide))
    refine R_aload_n (pc := 11) dX9_together_11 rfl rfl ?_
    refine k_X9_162 (pc := 12) (gn_X9_findUnlike _ hI) rfl (c_140 _) (by decide) (Nat.le_refl _) (Nat.le_refl _) (Nat.le_of_ble_eq_true rfl) dX9_together_12 (fun w2 h => ?_)
    obtain ⟨σx4, rfl, hV3, hW5, hq6, hu7⟩ := h
    have hW8 := Cor.trans (show Cor σ σ from Cor.rfl' σ) hW5
    refine R_aload_n (pc := 15) dX9_together_15 rfl rfl ?_
    refine R_aload_n (pc := 16) dX9_together_16 rfl rfl ?_
    refine g_X9_54 (pc := 17) (v := .ref 152) rfl dX9_together_17 (c_140 _) rfl ?_
    refine R_iconst (pc := 20) (v := 0) dX9_together_20 (by decide) ?_
    refine R_iconst (pc := 21) (v := (-1)) dX9_together_21 (by decide) ?_
    refine k_X9_165 (pc := 22) (gn_X9_findChains_152 _ _ hV3 (sym_lk9 hI hW8 hu7 (u := (-1)))) rfl (c_140 _) (by decide) (Nat.le_refl _) (Nat.le_refl _) (Nat.le_of_ble_eq_true rfl) dX9_together_22 (fun w2 h => ?_)
    obtain ⟨σx10, rfl, hV9, hW11, hq12, hl13⟩ := h
    have hW14 := Cor.trans hW8 hW11
    have hu15 : UT (DVm σ) (σx10.2.2.1 151) _ := (by rw [hq12.2.2.1 151 rfl]; exact hu7)
    refine R_ldc2 (pc := 25) w_1212c dX9_together_25 ?_
    refine st_6_2_l_i (pc := 28) dX9_together_28 ?_
    refine R_iconst (pc := 29) (v := 0) dX9_together_29 (by decide) ?_
    refine st_6_4_i_n (pc := 30) dX9_together_30 ?_
    have HL32 : ∀ (q j32 : Nat) (g2_32 : Int64), j32 + q = 20 → 0 ≤ j32 → g2_32 = tgF (kin (lkN σ) (AMp σ) (Int32.toNatClampNeg c)) (vwM σ) (sdM σ) j32 → j32 ≤ TMn σx10 → R G l yX9_together cX9_together 6 (some .int) 4 0 0 (QI (fun x w2 => x = A_tog (thM σ c) (nI (cntB (tbL (tgF (kin (lkN σ) (AMp σ) (Int32.toNatClampNeg c)) (vwM σ) (sdM σ) (TMn σ))) 64)) ∧ ∃ σ2, w2 = WW σ2 ∧ Inv σ2 ∧ Cor σ σ2)) 32 [(some (.ref 140)), (some (.int c)), (some (.long g2_32)), none, (some (.int (nI j32))), none] [] (WW σx10) 0 0 := by
      intro q
      induction q with
      | zero =>
        intro j32 g2_32 hj hs32 hX32_0 hX32_1
        obtain rfl : j32 = 20 := by omega
        refine R_iload (pc := 32) dX9_together_32 rfl ?_
        refine R_aload_n (pc := 34) dX9_together_34 rfl rfl ?_
        refine k_X9_120 (pc := 35) (ge_X9_thereMany _ hV9) rfl (c_140 _) (by decide) (Nat.le_refl _) (Nat.le_refl _) (Nat.le_of_ble_eq_true rfl) dX9_together_35 (fun x w2 h => ?_)
        obtain ⟨rfl, rfl⟩ := h
        refine R_icge (pc := 38) 86 dX9_together_38 (by decide) (fun _ => ?_) (fun h => absurd (Int32.not_lt.mp (inR_up (tm_in (σx10.1 14000) (σx10.1 14013) (σx10.2.2.1 148)) (Int32.le_refl _) (by decide)).2) h)
        refine R_iconst (pc := 86) (v := 0) dX9_together_86 (by decide) ?_
        refine st_6_4_i_n (pc := 87) dX9_together_87 ?_
        refine R_iconst (pc := 89) (v := 0) dX9_together_89 (by decide) ?_
        refine st_6_5_i_i (pc := 90) dX9_together_90 ?_
        have HL92 : ∀ (q j92 : Nat) (g4_92 : Int32), j92 + q = 64 → 0 ≤ j92 → g4_92 = nI (cntB (tbL g2_32) j92) → R G l yX9_together cX9_together 6 (some .int) 4 0 0 (QI (fun x w2 => x = A_tog (thM σ c) (nI (cntB (tbL (tgF (kin (lkN σ) (AMp σ) (Int32.toNatClampNeg c)) (vwM σ) (sdM σ) (TMn σ))) 64)) ∧ ∃ σ2, w2 = WW σ2 ∧ Inv σ2 ∧ Cor σ σ2)) 92 [(some (.ref 140)), (some (.int c)), (some (.long g2_32)), none, (some (.int g4_92)), (some (.int (nI j92)))] [] (WW σx10) 0 0 := by
          intro q
          induction q with
          | zero =>
            intro j92 g4_92 hj hs92 hX92_0
            obtain rfl : j92 = 64 := by omega
            refine R_iload (pc := 92) dX9_together_92 rfl ?_
            refine R_bipush (pc := 94) (v := 64) dX9_together_94 (by decide) ?_
            refine R_icge (pc := 96) 126 dX9_together_96 (by decide) (fun _ => ?_) (fun h => absurd (by decide) h)
            refine R_iload (pc := 126) dX9_together_126 rfl ?_
            exact R_iret (pc := 128) dX9_together_128 rfl rfl (Nat.zero_le _) (Nat.zero_le _) ⟨_, rfl, (by have e : g2_32 = tgF (kin (lkN σ) (AMp σ) (Int32.toNatClampNeg c)) (vwM σ) (sdM σ) (TMn σ) := (by have q := hX32_0; rw [(show 20 = TMn σx10 from by first | exact tm_exit (by omega) hX32_1 (by assumption) | exact tm_ex20 hX32_1)] at q; unfold TMn at q; rw [hW14.1 14000 rfl, hW14.1 14013 rfl, hW14.2.2.1 148 rfl] at q; exact q); unfold A_tog; rw [h1, ← e]; exact hX92_0), _, rfl, hV9, hW14⟩
          | succ q ih92 =>
            intro j92 g4_92 hj hs92 hX92_0
            have hrg92 : inR (nI j92) 0 63 := inR_ix hs92 (show j92 < 64 by omega) (by decide) (by decide) (by decide)
            have hlt92 : j92 < 64 := by omega
            refine R_iload (pc := 92) dX9_together_92 rfl ?_
            refine R_bipush (pc := 94) (v := 64) dX9_together_94 (by decide) ?_
            refine R_icge (pc := 96) 126 dX9_together_96 (by decide) (fun h => False.elim (by have q1 := ti_le h; have q2 := ti_in (show inR (nI j92) 0 63 from hrg92); have q3 := ti_in (show inR 64 64 64 from (inR_self _)); have z0 : (0 : Int32).toInt = 0 := (by decide);  have z1 : (63 : Int32).toInt = 63 := (by decide);  have z2 : (64 : Int32).toInt = 64 := (by decide); omega)) (fun _ => ?_)
            refine R_iload (pc := 99) dX9_together_99 rfl ?_
            refine R_lload_n (pc := 101) dX9_together_101 rfl rfl ?_
            refine R_iload (pc := 102) dX9_together_102 rfl ?_
            refine R_lshr (pc := 104) dX9_together_104 ?_
            refine R_lconst (pc := 105) (v := 1) dX9_together_105 (by decide) ?_
            refine R_land (pc := 106) dX9_together_106 ?_
            refine R_lconst (pc := 107) (v := 1) dX9_together_107 (by decide) ?_
            refine R_lcmp (pc := 108) dX9_together_108 ?_
            refine R_ifne (pc := 109) 116 dX9_together_109 (by decide) (fun b109_19 => ?_) (fun b109_19 => ?_)
            · skip
              refine R_iconst (pc := 116) (v := 0) dX9_together_116 (by decide) ?_
              refine R_iadd (pc := 117) dX9_together_117 ?_
              refine st_6_4_i_n (pc := 118) dX9_together_118 ?_
              refine inc_6_5_1_i (pc := 120) dX9_together_120 ?_
              have r20 : inR ((nI j92) + 1) 1 64 := inR_add (show inR (nI j92) 0 63 from hrg92) (show inR 1 1 1 from (inR_self _)) (by decide) (by decide)
              have e21 := ti_add (l := 1) (h := 64) (show inR (nI j92) 0 63 from hrg92) (show inR 1 1 1 from (inR_self _)) (by decide) (by decide)
              refine R_goto (pc := 123) 92 dX9_together_123 (by decide) ?_
              rw [nI_1]
              exact ih92 (j92 + 1) _ (by omega) (by omega) (ct_f0 (f := tbL g2_32) hX92_0 ((bit_t (by omega)).symm.trans (decide_eq_false b109_19)))
            · skip
              refine R_iconst (pc := 112) (v := 1) dX9_together_112 (by decide) ?_
              refine R_goto (pc := 113) 117 dX9_together_113 (by decide) ?_
              refine R_iadd (pc := 117) dX9_together_117 ?_
              refine st_6_4_i_n (pc := 118) dX9_together_118 ?_
              refine inc_6_5_1_i (pc := 120) dX9_together_120 ?_
              have r22 : inR ((nI j92) + 1) 1 64 := inR_add (show inR (nI j92) 0 63 from hrg92) (show inR 1 1 1 from (inR_self _)) (by decide) (by decide)
              have e23 := ti_add (l := 1) (h := 64) (show inR (nI j92) 0 63 from hrg92) (show inR 1 1 1 from (inR_self _)) (by decide) (by decide)
              refine R_goto (pc := 123) 92 dX9_together_123 (by decide) ?_
              rw [nI_1]
              exact ih92 (j92 + 1) _ (by omega) (by omega) (ct_t (f := tbL g2_32) hX92_0 ((bit_t (by omega)).symm.trans (decide_eq_true b109_19)))
        exact HL92 64 0 _ (by omega) (by omega) (show (0 : Int32) = nI (cntB _ 0) from nI_0.symm)
      | succ q ih32 =>
        intro j32 g2_32 hj hs32 hX32_0 hX32_1
        have hrg32 : inR (nI j32) 0 19 := inR_ix hs32 (show j32 < 20 by omega) (by decide) (by decide) (by decide)
        have hlt32 : j32 < 20 := by omega
        refine R_iload (pc := 32) dX9_together_32 rfl ?_
        refine R_aload_n (pc := 34) dX9_together_34 rfl rfl ?_
        refine k_X9_120 (pc := 35) (ge_X9_thereMany _ hV9) rfl (c_140 _) (by decide) (Nat.le_refl _) (Nat.le_refl _) (Nat.le_of_ble_eq_true rfl) dX9_together_35 (fun x w2 h => ?_)
        obtain ⟨rfl, rfl⟩ := h
        refine R_icge (pc := 38) 86 dX9_together_38 (by decide) (fun b38_24 => ?_) (fun b38_24 => ?_)
        · skip
          refine R_iconst (pc := 86) (v := 0) dX9_together_86 (by decide) ?_
          refine st_6_4_i_n (pc := 87) dX9_together_87 ?_
          refine R_iconst (pc := 89) (v := 0) dX9_together_89 (by decide) ?_
          refine st_6_5_i_i (pc := 90) dX9_together_90 ?_
          have HL92 : ∀ (q j92 : Nat) (g4_92 : Int32), j92 + q = 64 → 0 ≤ j92 → g4_92 = nI (cntB (tbL g2_32) j92) → R G l yX9_together cX9_together 6 (some .int) 4 0 0 (QI (fun x w2 => x = A_tog (thM σ c) (nI (cntB (tbL (tgF (kin (lkN σ) (AMp σ) (Int32.toNatClampNeg c)) (vwM σ) (sdM σ) (TMn σ))) 64)) ∧ ∃ σ2, w2 = WW σ2 ∧ Inv σ2 ∧ Cor σ σ2)) 92 [(some (.ref 140)), (some (.int c)), (some (.long g2_32)), none, (some (.int g4_92)), (some (.int (nI j92)))] [] (WW σx10) 0 0 := by
            intro q
            induction q with
            | zero =>
              intro j92 g4_92 hj hs92 hX92_0
              obtain rfl : j92 = 64 := by omega
              refine R_iload (pc := 92) dX9_together_92 rfl ?_
              refine R_bipush (pc := 94) (v := 64) dX9_together_94 (by decide) ?_
              refine R_icge (pc := 96) 126 dX9_together_96 (by decide) (fun _ => ?_) (fun h => absurd (by decide) h)
              refine R_iload (pc := 126) dX9_together_126 rfl ?_
              exact R_iret (pc := 128) dX9_together_128 rfl rfl (Nat.zero_le _) (Nat.zero_le _) ⟨_, rfl, (by have e : g2_32 = tgF (kin (lkN σ) (AMp σ) (Int32.toNatClampNeg c)) (vwM σ) (sdM σ) (TMn σ) := (by have q := hX32_0; rw [(show j32 = TMn σx10 from by first | exact tm_exit (by omega) hX32_1 (by assumption) | exact tm_ex20 hX32_1)] at q; unfold TMn at q; rw [hW14.1 14000 rfl, hW14.1 14013 rfl, hW14.2.2.1 148 rfl] at q; exact q); unfold A_tog; rw [h1, ← e]; exact hX92_0), _, rfl, hV9, hW14⟩
            | succ q ih92 =>
              intro j92 g4_92 hj hs92 hX92_0
              have hrg92 : inR (nI j92) 0 63 := inR_ix hs92 (show j92 < 64 by omega) (by decide) (by decide) (by decide)
              have hlt92 : j92 < 64 := by omega
              refine R_iload (pc := 92) dX9_together_92 rfl ?_
              refine R_bipush (pc := 94) (v := 64) dX9_together_94 (by decide) ?_
              refine R_icge (pc := 96) 126 dX9_together_96 (by decide) (fun h => False.elim (by have q1 := ti_le h; have q2 := ti_in (show inR (nI j92) 0 63 from hrg92); have q3 := ti_in (show inR 64 64 64 from (inR_self _)); have z0 : (0 : Int32).toInt = 0 := (by decide);  have z1 : (63 : Int32).toInt = 63 := (by decide);  have z2 : (64 : Int32).toInt = 64 := (by decide); omega)) (fun _ => ?_)
              refine R_iload (pc := 99) dX9_together_99 rfl ?_
              refine R_lload_n (pc := 101) dX9_together_101 rfl rfl ?_
              refine R_iload (pc := 102) dX9_together_102 rfl ?_
              refine R_lshr (pc := 104) dX9_together_104 ?_
              refine R_lconst (pc := 105) (v := 1) dX9_together_105 (by decide) ?_
              refine R_land (pc := 106) dX9_together_106 ?_
              refine R_lconst (pc := 107) (v := 1) dX9_together_107 (by decide) ?_
              refine R_lcmp (pc := 108) dX9_together_108 ?_
              refine R_ifne (pc := 109) 116 dX9_together_109 (by decide) (fun b109_27 => ?_) (fun b109_27 => ?_)
              · skip
                refine R_iconst (pc := 116) (v := 0) dX9_together_116 (by decide) ?_
                refine R_iadd (pc := 117) dX9_together_117 ?_
                refine st_6_4_i_n (pc := 118) dX9_together_118 ?_
                refine inc_6_5_1_i (pc := 120) dX9_together_120 ?_
                have r28 : inR ((nI j92) + 1) 1 64 := inR_add (show inR (nI j92) 0 63 from hrg92) (show inR 1 1 1 from (inR_self _)) (by decide) (by decide)
                have e29 := ti_add (l := 1) (h := 64) (show inR (nI j92) 0 63 from hrg92) (show inR 1 1 1 from (inR_self _)) (by decide) (by decide)
                refine R_goto (pc := 123) 92 dX9_together_123 (by decide) ?_
                rw [nI_1]
                exact ih92 (j92 + 1) _ (by omega) (by omega) (ct_f0 (f := tbL g2_32) hX92_0 ((bit_t (by omega)).symm.trans (decide_eq_false b109_27)))
              · skip
                refine R_iconst (pc := 112) (v := 1) dX9_together_112 (by decide) ?_
                refine R_goto (pc := 113) 117 dX9_together_113 (by decide) ?_
                refine R_iadd (pc := 117) dX9_together_117 ?_
                refine st_6_4_i_n (pc := 118) dX9_together_118 ?_
                refine inc_6_5_1_i (pc := 120) dX9_together_120 ?_
                have r30 : inR ((nI j92) + 1) 1 64 := inR_add (show inR (nI j92) 0 63 from hrg92) (show inR 1 1 1 from (inR_self _)) (by decide) (by decide)
                have e31 := ti_add (l := 1) (h := 64) (show inR (nI j92) 0 63 from hrg92) (show inR 1 1 1 from (inR_self _)) (by decide) (by decide)
                refine R_goto (pc := 123) 92 dX9_together_123 (by decide) ?_
                rw [nI_1]
                exact ih92 (j92 + 1) _ (by omega) (by omega) (ct_t (f := tbL g2_32) hX92_0 ((bit_t (by omega)).symm.trans (decide_eq_true b109_27)))
          exact HL92 64 0 _ (by omega) (by omega) (show (0 : Int32) = nI (cntB _ 0) from nI_0.symm)
        · skip
          refine R_aload_n (pc := 41) dX9_together_41 rfl rfl ?_
          refine g_X9_54 (pc := 42) (v := .ref 152) rfl dX9_together_42 (c_140 _) rfl ?_
          refine R_iload (pc := 45) dX9_together_45 rfl ?_
          have hx32 : vp_in (nI j32) 20 := (vp_in_nI (by omega) (by decide))
          refine R_iaload (pc := 47) dX9_together_47 (c_152 _) hx32 ?_
          refine R_aload_n (pc := 48) dX9_together_48 rfl rfl ?_
          refine g_X9_54 (pc := 49) (v := .ref 152) rfl dX9_together_49 (c_140 _) rfl ?_
          refine R_iload_n (pc := 52) dX9_together_52 rfl rfl ?_
          have hx33 : vp_in c 20 := (vp_of_inR (thM_r h1) (by decide))
          refine R_iaload (pc := 53) dX9_together_53 (c_152 _) hx33 ?_
          refine R_icne (pc := 54) 78 dX9_together_54 (by decide) (fun b54_34 => ?_) (fun b54_34 => ?_)
          · skip
            refine R_lload_n (pc := 78) dX9_together_78 rfl rfl ?_
            refine st_6_2_l_i (pc := 79) dX9_together_79 ?_
            refine inc_6_4_1_n (pc := 80) dX9_together_80 ?_
            have r35 : inR ((nI j32) + 1) 1 20 := inR_add (show inR (nI j32) 0 19 from hrg32) (show inR 1 1 1 from (inR_self _)) (by decide) (by decide)
            have e36 := ti_add (l := 1) (h := 20) (show inR (nI j32) 0 19 from hrg32) (show inR 1 1 1 from (inR_self _)) (by decide) (by decide)
            refine R_goto (pc := 83) 32 dX9_together_83 (by decide) ?_
            rw [nI_1]
            exact ih32 (j32 + 1) _ (by omega) (by omega) (tg_f1 hX32_0 ((neg_kin (R := lkN σ) (f := σx10.2.2.1 152) (sym_lkN hI) (AMp_th h1) (show AMp σ j32 = true from decide_eq_true (by have q := tm_next (by omega) b38_24; rw [hW14.1 14000 rfl, hW14.1 14013 rfl, hW14.2.2.1 148 rfl] at q; exact q)) ((hl13 j32 (AMu_lt ((AM_of hW8 _).trans (show AMp σ j32 = true from decide_eq_true (by have q := tm_next (by omega) b38_24; rw [hW14.1 14000 rfl, hW14.1 14013 rfl, hW14.2.2.1 148 rfl] at q; exact q)))).1 (AMu_lt ((AM_of hW8 _).trans (show AMp σ j32 = true from decide_eq_true (by have q := tm_next (by omega) b38_24; rw [hW14.1 14000 rfl, hW14.1 14013 rfl, hW14.2.2.1 148 rfl] at q; exact q)))).2.2).trans (by rw [lab_lk9 hI hW8 hu7 (show AMp σ j32 = true from decide_eq_true (by have q := tm_next (by omega) b38_24; rw [hW14.1 14000 rfl, hW14.1 14013 rfl, hW14.2.2.1 148 rfl] at q; exact q))])) ((hl13 (Int32.toNatClampNeg c) (AMu_lt ((AM_of hW8 _).trans (AMp_th h1))).1 (AMu_lt ((AM_of hW8 _).trans (AMp_th h1))).2.2).trans (by rw [lab_lk9 hI hW8 hu7 (AMp_th h1)]))).symm.trans (decide_eq_false (by have q := b54_34; rw [nI_clamp (by omega)] at q; exact q)))) (tm_next (by omega) b38_24)
          · skip
            refine R_aload_n (pc := 57) dX9_together_57 rfl rfl ?_
            refine g_X9_102 (pc := 58) (v := .ref 168) rfl dX9_together_58 (c_140 _) rfl ?_
            refine R_iload (pc := 61) dX9_together_61 rfl ?_
            have hx37 : vp_in (nI j32) 20 := (vp_in_nI (by omega) (by decide))
            refine R_iaload (pc := 63) dX9_together_63 (c_168 _) hx37 ?_
            refine R_ifle (pc := 64) 78 dX9_together_64 (by decide) (fun b64_38 => ?_) (fun b64_38 => ?_)
            · skip
              refine R_lload_n (pc := 78) dX9_together_78 rfl rfl ?_
              refine st_6_2_l_i (pc := 79) dX9_together_79 ?_
              refine inc_6_4_1_n (pc := 80) dX9_together_80 ?_
              have r39 : inR ((nI j32) + 1) 1 20 := inR_add (show inR (nI j32) 0 19 from hrg32) (show inR 1 1 1 from (inR_self _)) (by decide) (by decide)
              have e40 := ti_add (l := 1) (h := 20) (show inR (nI j32) 0 19 from hrg32) (show inR 1 1 1 from (inR_self _)) (by decide) (by decide)
              refine R_goto (pc := 83) 32 dX9_together_83 (by decide) ?_
              rw [nI_1]
              exact ih32 (j32 + 1) _ (by omega) (by omega) (tg_f2 (V := vwM σ) hX32_0 (decide_eq_false (by have q := (Int32.not_lt.mpr b64_38); rw [nI_clamp (by omega), hW14.2.2.1 168 rfl] at q; exact q))) (tm_next (by omega) b38_24)
            · skip
              refine R_lload_n (pc := 67) dX9_together_67 rfl rfl ?_
              refine R_aload_n (pc := 68) dX9_together_68 rfl rfl ?_
              refine R_iload (pc := 69) dX9_together_69 rfl ?_
              refine k_X9_248 (pc := 71) (ge_X9_stoodOf _ _ hV9 hrg32 (by rw [hW14.2.2.1 167 rfl]; exact hlm)) rfl (c_140 _) (by decide) (Nat.le_refl _) (Nat.le_refl _) (Nat.le_of_ble_eq_true rfl) dX9_together_71 (fun x w2 h => ?_)
              obtain ⟨rfl, rfl⟩ := h
              refine R_land (pc := 74) dX9_together_74 ?_
              refine R_goto (pc := 75) 79 dX9_together_75 (by decide) ?_
              refine st_6_2_l_i (pc := 79) dX9_together_79 ?_
              refine inc_6_4_1_n (pc := 80) dX9_together_80 ?_
              have r41 : inR ((nI j32) + 1) 1 20 := inR_add (show inR (nI j32) 0 19 from hrg32) (show inR 1 1 1 from (inR_self _)) (by decide) (by decide)
              have e42 := ti_add (l := 1) (h := 20) (show inR (nI j32) 0 19 from hrg32) (show inR 1 1 1 from (inR_self _)) (by decide) (by decide)
              refine R_goto (pc := 83) 32 dX9_together_83 (by decide) ?_
              rw [nI_1]
              exact ih32 (j32 + 1) _ (by omega) (by omega) (by rw [stdM_cor hW14]; exact tg_t (V := vwM σ) (S := sdM σ) hX32_0 ((neg_kin (R := lkN σ) (f := σx10.2.2.1 152) (sym_lkN hI) (AMp_th h1) (show AMp σ j32 = true from decide_eq_true (by have q := tm_next (by omega) b38_24; rw [hW14.1 14000 rfl, hW14.1 14013 rfl, hW14.2.2.1 148 rfl] at q; exact q)) ((hl13 j32 (AMu_lt ((AM_of hW8 _).trans (show AMp σ j32 = true from decide_eq_true (by have q := tm_next (by omega) b38_24; rw [hW14.1 14000 rfl, hW14.1 14013 rfl, hW14.2.2.1 148 rfl] at q; exact q)))).1 (AMu_lt ((AM_of hW8 _).trans (show AMp σ j32 = true from decide_eq_true (by have q := tm_next (by omega) b38_24; rw [hW14.1 14000 rfl, hW14.1 14013 rfl, hW14.2.2.1 148 rfl] at q; exact q)))).2.2).trans (by rw [lab_lk9 hI hW8 hu7 (show AMp σ j32 = true from decide_eq_true (by have q := tm_next (by omega) b38_24; rw [hW14.1 14000 rfl, hW14.1 14013 rfl, hW14.2.2.1 148 rfl] at q; exact q))])) ((hl13 (Int32.toNatClampNeg c) (AMu_lt ((AM_of hW8 _).trans (AMp_th h1))).1 (AMu_lt ((AM_of hW8 _).trans (AMp_th h1))).2.2).trans (by rw [lab_lk9 hI hW8 hu7 (AMp_th h1)]))).symm.trans (decide_eq_true (by have q := b54_34; rw [nI_clamp (by omega)] at q; exact q))) (decide_eq_true (by have q := (Int32.not_le.mp b64_38); rw [nI_clamp (by omega), hW14.2.2.1 168 rfl] at q; exact q))) (tm_next (by omega) b38_24)
    exact HL32 20 0 _ (by omega) (by omega) rfl (Nat.zero_le _)
  · skip
    refine R_ifne (pc := 5) 11 dX9_together_5 (by decide) (fun h => absurd (by decide) h) (fun _ => ?_)
    refine R_bipush (pc := 8) (v := (-2)) dX9_together_8 (by decide) ?_
    exact R_iret (pc := 10) dX9_together_10 rfl rfl (Nat.zero_le _) (Nat.zero_le _) ⟨_, rfl, (by unfold A_tog; rw [h1]; rfl), _, rfl, hI, (show Cor σ σ from Cor.rfl' σ)⟩
