/-! methods on any state that keeps the invariant -/
def fq2 (p : Nat) : Bool := p == 152 || p == 154 || p == 155
def fq3 (p : Nat) : Bool := p == 153 || p == 154 || p == 155
theorem fqF_3 (p : Nat) (h : fq3 p = false) : fqF p = false := by
  unfold fq3 at h
  unfold fqF
  rw [bor_r h, bor_r (bor_l h)]; rfl
theorem in_s {f : Nat → Int32} {j : Nat} (hj : j < 20) (h : ∀ x, x < j → f x = nI x) : ∀ x, x < j + 1 → upd f (Int32.toNatClampNeg (nI j)) (nI j) x = nI x := by
  intro x hx
  rw [nI_clamp (by omega)]
  by_cases e : x = j
  · subst e; exact upd_at _ _ _
  · rw [upd_ne _ e]; exact h x (by omega)
/-- half way through: below j they are made anew -/
def MG (f : Nat → Int32) (l m : Int32) (j : Nat) (g : Nat → Int32) : Prop := ∀ x, x < 20 → g x = if x < j then (if f x = m then l else f x) else f x
theorem mg_0 {f : Nat → Int32} {l m : Int32} : MG f l m 0 f := fun x _ => by rw [if_neg (Nat.not_lt_zero x)]
theorem mg_t {f g : Nat → Int32} {l m : Int32} {j : Nat} (hj : j < 20) (h : MG f l m j g) (e : g (Int32.toNatClampNeg (nI j)) = m) : MG f l m (j + 1) (upd g (Int32.toNatClampNeg (nI j)) l) := by
  rw [nI_clamp (by omega)] at e ⊢
  have e2 := h j hj
  rw [if_neg (Nat.lt_irrefl j), e] at e2
  intro x hx
  by_cases q : x = j
  · subst q; rw [upd_at, if_pos (by omega), if_pos e2.symm]
  · rw [upd_ne _ q, h x hx]
    by_cases q2 : x < j
    · rw [if_pos q2, if_pos (show x < j + 1 by omega)]
    · rw [if_neg q2, if_neg (by omega)]
theorem mg_f {f g : Nat → Int32} {l m : Int32} {j : Nat} (hj : j < 20) (h : MG f l m j g) (e : ¬ g (Int32.toNatClampNeg (nI j)) = m) : MG f l m (j + 1) (upd g (Int32.toNatClampNeg (nI j)) (g (Int32.toNatClampNeg (nI j)))) := by
  rw [nI_clamp (by omega)] at e ⊢
  have e2 := h j hj
  rw [if_neg (Nat.lt_irrefl j)] at e2
  rw [e2] at e ⊢
  intro x hx
  by_cases q : x = j
  · subst q; rw [upd_at, if_pos (by omega), if_neg e]
  · rw [upd_ne _ q, h x hx]
    by_cases q2 : x < j
    · rw [if_pos q2, if_pos (show x < j + 1 by omega)]
    · rw [if_neg q2, if_neg (by omega)]
theorem lb_lt {R : Nat → Nat → Bool} {n : Nat} {u : Int32} {f g : Nat → Int32} {a b : Nat} (h : LB R n u f a b) (ha : a < n) (hb : b < a) (hn20 : n ≤ 20) (hua : ¬ nI a = u) (hub : ¬ nI b = u) (hne : ¬ f (Int32.toNatClampNeg (nI a)) = f (Int32.toNatClampNeg (nI b))) (hr : R a b = true) (hs : Sym R (fun i => decide (i < n) && !decide (nI i = u))) (hl : f (Int32.toNatClampNeg (nI a)) < f (Int32.toNatClampNeg (nI b))) (hg : MG f (f (Int32.toNatClampNeg (nI a))) (f (Int32.toNatClampNeg (nI b))) n g) : LB R n u g a (b + 1) := by
  rw [nI_clamp (by omega), nI_clamp (by omega)] at hne hl hg
  refine lb_yes h ha hb hn20 hua hub hne hr hs (if_pos hl).symm (if_pos hl).symm (fun x hx => ?_)
  rw [hg x (by omega), if_pos hx]
theorem lb_ge {R : Nat → Nat → Bool} {n : Nat} {u : Int32} {f g : Nat → Int32} {a b : Nat} (h : LB R n u f a b) (ha : a < n) (hb : b < a) (hn20 : n ≤ 20) (hua : ¬ nI a = u) (hub : ¬ nI b = u) (hne : ¬ f (Int32.toNatClampNeg (nI a)) = f (Int32.toNatClampNeg (nI b))) (hr : R a b = true) (hs : Sym R (fun i => decide (i < n) && !decide (nI i = u))) (hl : ¬ f (Int32.toNatClampNeg (nI a)) < f (Int32.toNatClampNeg (nI b))) (hg : MG f (f (Int32.toNatClampNeg (nI b))) (f (Int32.toNatClampNeg (nI a))) n g) : LB R n u g a (b + 1) := by
  rw [nI_clamp (by omega), nI_clamp (by omega)] at hne hl hg
  refine lb_yes h ha hb hn20 hua hub hne hr hs (if_neg hl).symm (if_neg hl).symm (fun x hx => ?_)
  rw [hg x (by omega), if_pos hx]
theorem lb_nof {R : Nat → Nat → Bool} {n : Nat} {u : Int32} {f : Nat → Int32} {a b : Nat} (h : LB R n u f a b) (ha : a < n) (hb : b < a) (hn20 : n ≤ 20) (e : f (Int32.toNatClampNeg (nI a)) = f (Int32.toNatClampNeg (nI b))) : LB R n u f a (b + 1) := by
  rw [nI_clamp (by omega), nI_clamp (by omega)] at e
  exact lb_no h ha hb hn20 (Or.inr (Or.inr (Or.inl e)))
theorem lkM_fq {P : Nat → Bool} {σ τ : Sg} (h : Fq P σ τ) (h1 : P 151 = false) (a b : Int32) : lkM τ a b = lkM σ a b := by
  unfold lkM
  rw [h.1, h.2.2.1 151 h1]
theorem mtM_fq {P : Nat → Bool} {σ τ : Sg} (h : Fq P σ τ) (h0 : P 141 = false) (h2 : P 142 = false) (h3 : P 143 = false) (h4 : P 144 = false) (h5 : P 149 = false) (h6 : P 150 = false) (h1 : P 151 = false) (a b : Int32) : mtM τ a b = mtM σ a b := by
  unfold mtM lvM wM
  rw [lkM_fq h h1, h.2.2.1 141 h0, h.2.2.1 142 h2, h.2.2.1 143 h3, h.2.2.1 144 h4, h.2.2.1 149 h5, h.2.2.1 150 h6]
set_option maxRecDepth 100000 in
set_option maxHeartbeats 40000000 in
theorem gn_X9_findChains_152 {G : vG} {l : Launch} (σ : Sg) (u : Int32) (hI : Inv σ) (hS : Sym (fun a b => lkM σ (nI a) (nI b)) (fun i => decide (i < (tm (σ.1 14000) (σ.1 14013) (σ.2.2.1 148))) && !decide (nI i = u))) : Sp G l yX9_findChains cX9_findChains 11 none 3 0 0 [.ref 140, .ref 152, .int 0, .int u] (WW σ) (QV (fun w2 => ∃ σ2, w2 = WW σ2 ∧ Inv σ2 ∧ Cor σ σ2 ∧ Fq fq2 σ σ2 ∧ ∀ x : Nat, x < (tm (σ.1 14000) (σ.1 14013) (σ.2.2.1 148)) → ¬ nI x = u → σ2.2.2.1 152 x = nI (lab (fun a b => lkM σ (nI a) (nI b)) (fun i => decide (i < (tm (σ.1 14000) (σ.1 14013) (σ.2.2.1 148))) && !decide (nI i = u)) x))) := by
  refine Sp_of_R [(some (.ref 140)), (some (.ref 152)), (some (.int 0)), (some (.int u)), none, none, none, none, none, none, none] [none, none, none, none, none, none, none] rfl (by simp) rfl (Nat.le_of_ble_eq_true rfl) ?_
  refine R_aload_n (pc := 0) dX9_findChains_0 rfl rfl ?_
  refine k_X9_120 (pc := 1) (ge_X9_thereMany _ hI) rfl (c_140 _) (by decide) (Nat.le_refl _) (Nat.le_refl _) (Nat.le_of_ble_eq_true rfl) dX9_findChains_1 (fun x w2 h => ?_)
  obtain ⟨rfl, rfl⟩ := h
  refine st_11_4_i_i (pc := 4) dX9_findChains_4 ?_
  refine R_iconst (pc := 6) (v := 0) dX9_findChains_6 (by decide) ?_
  refine st_11_5_i_i (pc := 7) dX9_findChains_7 ?_
  have HL9 : ∀ (q j9 : Nat) (σ9 : Sg), j9 + q = 20 → 0 ≤ j9 → Inv σ9 → Cor σ σ9 → (∀ x : Nat, x < j9 → σ9.2.2.1 152 x = nI x) → Fq fq2 σ σ9 → j9 ≤ (tm (σ.1 14000) (σ.1 14013) (σ.2.2.1 148)) → R G l yX9_findChains cX9_findChains 11 none 3 0 0 (QV (fun w2 => ∃ σ2, w2 = WW σ2 ∧ Inv σ2 ∧ Cor σ σ2 ∧ Fq fq2 σ σ2 ∧ ∀ x : Nat, x < (tm (σ.1 14000) (σ.1 14013) (σ.2.2.1 148)) → ¬ nI x = u → σ2.2.2.1 152 x = nI (lab (fun a b => lkM σ (nI a) (nI b)) (fun i => decide (i < (tm (σ.1 14000) (σ.1 14013) (σ.2.2.1 148))) && !decide (nI i = u)) x))) 9 [(some (.ref 140)), (some (.ref 152)), (some (.int 0)), (some (.int u)), (some (.int (nI (tm (σ.1 14000) (σ.1 14013) (σ.2.2.1 148))))), (some (.int (nI j9))), none, none, none, none, none] [] (WW σ9) 0 0 := by
    intro q
    induction q with
    | zero =>
      intro j9 σ9 hj hs9 hI9 hC9 hX9_0 hX9_1 hX9_2
      obtain rfl : j9 = 20 := by omega
      refine R_iload (pc := 9) dX9_findChains_9 rfl ?_
      refine R_iload (pc := 11) dX9_findChains_11 rfl ?_
      refine R_icge (pc := 13) 28 dX9_findChains_13 (by decide) (fun _ => ?_) (fun h => absurd (Int32.not_lt.mp (inR_up (tm_in (σ.1 14000) (σ.1 14013) (σ.2.2.1 148)) (Int32.le_refl _) (by decide)).2) h)
      refine R_iconst (pc := 28) (v := 0) dX9_findChains_28 (by decide) ?_
      refine st_11_5_i_i (pc := 29) dX9_findChains_29 ?_
      have HL31 : ∀ (q j31 : Nat) (σ31 : Sg) (g6_31 : Option Value) (g7_31 : Option Value) (g8_31 : Option Value) (g9_31 : Option Value) (g10_31 : Option Value), j31 + q = 20 → 0 ≤ j31 → Inv σ31 → Cor σ σ31 → LB (fun a b => lkM σ (nI a) (nI b)) (tm (σ.1 14000) (σ.1 14013) (σ.2.2.1 148)) u (σ31.2.2.1 152) j31 0 → Fq fq2 σ σ31 → j31 ≤ (tm (σ.1 14000) (σ.1 14013) (σ.2.2.1 148)) → R G l yX9_findChains cX9_findChains 11 none 3 0 0 (QV (fun w2 => ∃ σ2, w2 = WW σ2 ∧ Inv σ2 ∧ Cor σ σ2 ∧ Fq fq2 σ σ2 ∧ ∀ x : Nat, x < (tm (σ.1 14000) (σ.1 14013) (σ.2.2.1 148)) → ¬ nI x = u → σ2.2.2.1 152 x = nI (lab (fun a b => lkM σ (nI a) (nI b)) (fun i => decide (i < (tm (σ.1 14000) (σ.1 14013) (σ.2.2.1 148))) && !decide (nI i = u)) x))) 31 [(some (.ref 140)), (some (.ref 152)), (some (.int 0)), (some (.int u)), (some (.int (nI (tm (σ.1 14000) (σ.1 14013) (σ.2.2.1 148))))), (some (.int (nI j31))), g6_31, g7_31, g8_31, g9_31, g10_31] [] (WW σ31) 0 0 := by
        intro q
        induction q with
        | zero =>
          intro j31 σ31 g6_31 g7_31 g8_31 g9_31 g10_31 hj hs31 hI31 hC31 hX31_0 hX31_1 hX31_2
          obtain rfl : j31 = 20 := by omega
          refine R_iload (pc := 31) dX9_findChains_31 rfl ?_
          refine R_iload (pc := 33) dX9_findChains_33 rfl ?_
          refine R_icge (pc := 35) 210 dX9_findChains_35 (by decide) (fun _ => ?_) (fun h => absurd (Int32.not_lt.mp (inR_up (tm_in (σ.1 14000) (σ.1 14013) (σ.2.2.1 148)) (Int32.le_refl _) (by decide)).2) h)
          exact R_vret (pc := 210) dX9_findChains_210 rfl (Nat.zero_le _) (Nat.zero_le _) ⟨rfl, _, rfl, hI31, hC31, hX31_1, (lb_end (tm_le _ _ _) hS (by have q := hX31_0; rw [(show 20 = (tm (σ.1 14000) (σ.1 14013) (σ.2.2.1 148)) from by first | exact tm_exit (by omega) hX31_2 (by assumption) | exact tm_ex20 hX31_2)] at q; exact q))⟩
        | succ q ih31 =>
          intro j31 σ31 g6_31 g7_31 g8_31 g9_31 g10_31 hj hs31 hI31 hC31 hX31_0 hX31_1 hX31_2
          have hrg31 : inR (nI j31) 0 19 := inR_ix hs31 (show j31 < 20 by omega) (by decide) (by decide) (by decide)
          have hlt31 : j31 < 20 := by omega
          refine R_iload (pc := 31) dX9_findChains_31 rfl ?_
          refine R_iload (pc := 33) dX9_findChains_33 rfl ?_
          refine R_icge (pc := 35) 210 dX9_findChains_35 (by decide) (fun b35_3 => ?_) (fun b35_3 => ?_)
          · skip
            exact R_vret (pc := 210) dX9_findChains_210 rfl (Nat.zero_le _) (Nat.zero_le _) ⟨rfl, _, rfl, hI31, hC31, hX31_1, (lb_end (tm_le _ _ _) hS (by have q := hX31_0; rw [(show j31 = (tm (σ.1 14000) (σ.1 14013) (σ.2.2.1 148)) from by first | exact tm_exit (by omega) hX31_2 (by assumption) | exact tm_ex20 hX31_2)] at q; exact q))⟩
          · skip
            refine R_iconst (pc := 38) (v := 0) dX9_findChains_38 (by decide) ?_
            refine st_11_6_i_i (pc := 39) dX9_findChains_39 ?_
            have HL41 : ∀ (q j41 : Nat) (σ41 : Sg) (g7_41 : Option Value) (g8_41 : Option Value) (g9_41 : Option Value) (g10_41 : Option Value), j41 + q = 20 → 0 ≤ j41 → Inv σ41 → Cor σ σ41 → LB (fun a b => lkM σ (nI a) (nI b)) (tm (σ.1 14000) (σ.1 14013) (σ.2.2.1 148)) u (σ41.2.2.1 152) j31 j41 → Fq fq2 σ σ41 → R G l yX9_findChains cX9_findChains 11 none 3 0 0 (QV (fun w2 => ∃ σ2, w2 = WW σ2 ∧ Inv σ2 ∧ Cor σ σ2 ∧ Fq fq2 σ σ2 ∧ ∀ x : Nat, x < (tm (σ.1 14000) (σ.1 14013) (σ.2.2.1 148)) → ¬ nI x = u → σ2.2.2.1 152 x = nI (lab (fun a b => lkM σ (nI a) (nI b)) (fun i => decide (i < (tm (σ.1 14000) (σ.1 14013) (σ.2.2.1 148))) && !decide (nI i = u)) x))) 41 [(some (.ref 140)), (some (.ref 152)), (some (.int 0)), (some (.int u)), (some (.int (nI (tm (σ.1 14000) (σ.1 14013) (σ.2.2.1 148))))), (some (.int (nI j31))), (some (.int (nI j41))), g7_41, g8_41, g9_41, g10_41] [] (WW σ41) 0 0 := by
              intro q
              induction q with
              | zero =>
                intro j41 σ41 g7_41 g8_41 g9_41 g10_41 hj hs41 hI41 hC41 hX41_0 hX41_1
                obtain rfl : j41 = 20 := by omega
                refine R_iload (pc := 41) dX9_findChains_41 rfl ?_
                refine R_iload (pc := 43) dX9_findChains_43 rfl ?_
                refine R_icge (pc := 45) 204 dX9_findChains_45 (by decide) (fun _ => ?_) (fun h => absurd (Int32.not_lt.mp (inR_up hrg31 (Int32.le_refl _) (by decide)).2) h)
                refine inc_11_5_1_i (pc := 204) dX9_findChains_204 ?_
                have r5 : inR ((nI j31) + 1) 1 20 := inR_add (show inR (nI j31) 0 19 from hrg31) (show inR 1 1 1 from (inR_self _)) (by decide) (by decide)
                have e6 := ti_add (l := 1) (h := 20) (show inR (nI j31) 0 19 from hrg31) (show inR 1 1 1 from (inR_self _)) (by decide) (by decide)
                refine R_goto (pc := 207) 31 dX9_findChains_207 (by decide) ?_
                rw [nI_1]
                exact ih31 (j31 + 1) _ _ _ _ _ _ (by omega) (by omega) hI41 hC41 (lb_e hX41_0 (by omega)) hX41_1 (tm_next (by omega) b35_3)
              | succ q ih41 =>
                intro j41 σ41 g7_41 g8_41 g9_41 g10_41 hj hs41 hI41 hC41 hX41_0 hX41_1
                have hrg41 : inR (nI j41) 0 19 := inR_ix hs41 (show j41 < 20 by omega) (by decide) (by decide) (by decide)
                have hlt41 : j41 < 20 := by omega
                refine R_iload (pc := 41) dX9_findChains_41 rfl ?_
                refine R_iload (pc := 43) dX9_findChains_43 rfl ?_
                refine R_icge (pc := 45) 204 dX9_findChains_45 (by decide) (fun b45_7 => ?_) (fun b45_7 => ?_)
                · skip
                  refine inc_11_5_1_i (pc := 204) dX9_findChains_204 ?_
                  have r8 : inR ((nI j31) + 1) 1 20 := inR_add (show inR (nI j31) 0 19 from hrg31) (show inR 1 1 1 from (inR_self _)) (by decide) (by decide)
                  have e9 := ti_add (l := 1) (h := 20) (show inR (nI j31) 0 19 from hrg31) (show inR 1 1 1 from (inR_self _)) (by decide) (by decide)
                  refine R_goto (pc := 207) 31 dX9_findChains_207 (by decide) ?_
                  rw [nI_1]
                  exact ih31 (j31 + 1) _ _ _ _ _ _ (by omega) (by omega) hI41 hC41 (lb_e hX41_0 ((nI_leI (by omega) (by omega)).mp b45_7)) hX41_1 (tm_next (by omega) b35_3)
                · skip
                  refine R_iload (pc := 48) dX9_findChains_48 rfl ?_
                  refine R_iload_n (pc := 50) dX9_findChains_50 rfl rfl ?_
                  refine R_iceq (pc := 51) 104 dX9_findChains_51 (by decide) (fun b51_10 => ?_) (fun b51_10 => ?_)
                  · skip
                    refine R_iconst (pc := 104) (v := 0) dX9_findChains_104 (by decide) ?_
                    refine st_11_7_i_i (pc := 105) dX9_findChains_105 ?_
                    refine R_aload_n (pc := 107) dX9_findChains_107 rfl rfl ?_
                    refine R_iload (pc := 108) dX9_findChains_108 rfl ?_
                    have hx11 : vp_in (nI j31) 20 := (vp_in_nI (by omega) (by decide))
                    refine R_iaload (pc := 110) dX9_findChains_110 (c_152 _) hx11 ?_
                    refine R_aload_n (pc := 111) dX9_findChains_111 rfl rfl ?_
                    refine R_iload (pc := 112) dX9_findChains_112 rfl ?_
                    have hx12 : vp_in (nI j41) 20 := (vp_in_nI (by omega) (by decide))
                    refine R_iaload (pc := 114) dX9_findChains_114 (c_152 _) hx12 ?_
                    refine R_icge (pc := 115) 125 dX9_findChains_115 (by decide) (fun b115_13 => ?_) (fun b115_13 => ?_)
                    · skip
                      refine R_aload_n (pc := 125) dX9_findChains_125 rfl rfl ?_
                      refine R_iload (pc := 126) dX9_findChains_126 rfl ?_
                      have hx14 : vp_in (nI j41) 20 := (vp_in_nI (by omega) (by decide))
                      refine R_iaload (pc := 128) dX9_findChains_128 (c_152 _) hx14 ?_
                      refine st_11_8_i_i (pc := 129) dX9_findChains_129 ?_
                      refine R_aload_n (pc := 131) dX9_findChains_131 rfl rfl ?_
                      refine R_iload (pc := 132) dX9_findChains_132 rfl ?_
                      have hx15 : vp_in (nI j31) 20 := (vp_in_nI (by omega) (by decide))
                      refine R_iaload (pc := 134) dX9_findChains_134 (c_152 _) hx15 ?_
                      refine R_aload_n (pc := 135) dX9_findChains_135 rfl rfl ?_
                      refine R_iload (pc := 136) dX9_findChains_136 rfl ?_
                      have hx16 : vp_in (nI j41) 20 := (vp_in_nI (by omega) (by decide))
                      refine R_iaload (pc := 138) dX9_findChains_138 (c_152 _) hx16 ?_
                      refine R_icge (pc := 139) 149 dX9_findChains_139 (by decide) (fun _ => ?_) (fun h => absurd b115_13 h)
                      refine R_aload_n (pc := 149) dX9_findChains_149 rfl rfl ?_
                      refine R_iload (pc := 150) dX9_findChains_150 rfl ?_
                      have hx18 : vp_in (nI j31) 20 := (vp_in_nI (by omega) (by decide))
                      refine R_iaload (pc := 152) dX9_findChains_152 (c_152 _) hx18 ?_
                      refine st_11_9_i_i (pc := 153) dX9_findChains_153 ?_
                      refine R_iconst (pc := 155) (v := 0) dX9_findChains_155 (by decide) ?_
                      refine st_11_10_i_i (pc := 156) dX9_findChains_156 ?_
                      refine R_iload (pc := 158) dX9_findChains_158 rfl ?_
                      refine R_iload (pc := 160) dX9_findChains_160 rfl ?_
                      refine R_icge (pc := 162) 198 dX9_findChains_162 (by decide) (fun b162_19 => ?_) (fun b162_19 => ?_)
                      · skip
                        refine inc_11_6_1_i (pc := 198) dX9_findChains_198 ?_
                        have r20 : inR ((nI j41) + 1) 1 20 := inR_add (show inR (nI j41) 0 19 from hrg41) (show inR 1 1 1 from (inR_self _)) (by decide) (by decide)
                        have e21 := ti_add (l := 1) (h := 20) (show inR (nI j41) 0 19 from hrg41) (show inR 1 1 1 from (inR_self _)) (by decide) (by decide)
                        refine R_goto (pc := 201) 41 dX9_findChains_201 (by decide) ?_
                        rw [nI_1]
                        exact ih41 (j41 + 1) _ _ _ _ _ (by omega) (by omega) hI41 hC41 (lb_no hX41_0 (tm_next (by omega) b35_3) (Nat.lt_of_not_le (fun q => b45_7 ((nI_leI (by omega) (by omega)).mpr q))) (tm_le _ _ _) (Or.inl b51_10)) hX41_1
                      · skip
                        refine R_iload (pc := 165) dX9_findChains_165 rfl ?_
                        refine R_ifeq (pc := 167) 198 dX9_findChains_167 (by decide) (fun _ => ?_) (fun h => absurd (by decide) h)
                        refine inc_11_6_1_i (pc := 198) dX9_findChains_198 ?_
                        have r23 : inR ((nI j41) + 1) 1 20 := inR_add (show inR (nI j41) 0 19 from hrg41) (show inR 1 1 1 from (inR_self _)) (by decide) (by decide)
                        have e24 := ti_add (l := 1) (h := 20) (show inR (nI j41) 0 19 from hrg41) (show inR 1 1 1 from (inR_self _)) (by decide) (by decide)
                        refine R_goto (pc := 201) 41 dX9_findChains_201 (by decide) ?_
                        rw [nI_1]
                        exact ih41 (j41 + 1) _ _ _ _ _ (by omega) (by omega) hI41 hC41 (lb_no hX41_0 (tm_next (by omega) b35_3) (Nat.lt_of_not_le (fun q => b45_7 ((nI_leI (by omega) (by omega)).mpr q))) (tm_le _ _ _) (Or.inl b51_10)) hX41_1
                    · skip
                      refine R_aload_n (pc := 118) dX9_findChains_118 rfl rfl ?_
                      refine R_iload (pc := 119) dX9_findChains_119 rfl ?_
                      have hx25 : vp_in (nI j31) 20 := (vp_in_nI (by omega) (by decide))
                      refine R_iaload (pc := 121) dX9_findChains_121 (c_152 _) hx25 ?_
                      refine R_goto (pc := 122) 129 dX9_findChains_122 (by decide) ?_
                      refine st_11_8_i_i (pc := 129) dX9_findChains_129 ?_
                      refine R_aload_n (pc := 131) dX9_findChains_131 rfl rfl ?_
                      refine R_iload (pc := 132) dX9_findChains_132 rfl ?_
                      have hx26 : vp_in (nI j31) 20 := (vp_in_nI (by omega) (by decide))
                      refine R_iaload (pc := 134) dX9_findChains_134 (c_152 _) hx26 ?_
                      refine R_aload_n (pc := 135) dX9_findChains_135 rfl rfl ?_
                      refine R_iload (pc := 136) dX9_findChains_136 rfl ?_
                      have hx27 : vp_in (nI j41) 20 := (vp_in_nI (by omega) (by decide))
                      refine R_iaload (pc := 138) dX9_findChains_138 (c_152 _) hx27 ?_
                      refine R_icge (pc := 139) 149 dX9_findChains_139 (by decide) (fun h => absurd h b115_13) (fun _ => ?_)
                      refine R_aload_n (pc := 142) dX9_findChains_142 rfl rfl ?_
                      refine R_iload (pc := 143) dX9_findChains_143 rfl ?_
                      have hx29 : vp_in (nI j41) 20 := (vp_in_nI (by omega) (by decide))
                      refine R_iaload (pc := 145) dX9_findChains_145 (c_152 _) hx29 ?_
                      refine R_goto (pc := 146) 153 dX9_findChains_146 (by decide) ?_
                      refine st_11_9_i_i (pc := 153) dX9_findChains_153 ?_
                      refine R_iconst (pc := 155) (v := 0) dX9_findChains_155 (by decide) ?_
                      refine st_11_10_i_i (pc := 156) dX9_findChains_156 ?_
                      refine R_iload (pc := 158) dX9_findChains_158 rfl ?_
                      refine R_iload (pc := 160) dX9_findChains_160 rfl ?_
                      refine R_icge (pc := 162) 198 dX9_findChains_162 (by decide) (fun b162_30 => ?_) (fun b162_30 => ?_)
                      · skip
                        refine inc_11_6_1_i (pc := 198) dX9_findChains_198 ?_
                        have r31 : inR ((nI j41) + 1) 1 20 := inR_add (show inR (nI j41) 0 19 from hrg41) (show inR 1 1 1 from (inR_self _)) (by decide) (by decide)
                        have e32 := ti_add (l := 1) (h := 20) (show inR (nI j41) 0 19 from hrg41) (show inR 1 1 1 from (inR_self _)) (by decide) (by decide)
                        refine R_goto (pc := 201) 41 dX9_findChains_201 (by decide) ?_
                        rw [nI_1]
                        exact ih41 (j41 + 1) _ _ _ _ _ (by omega) (by omega) hI41 hC41 (lb_no hX41_0 (tm_next (by omega) b35_3) (Nat.lt_of_not_le (fun q => b45_7 ((nI_leI (by omega) (by omega)).mpr q))) (tm_le _ _ _) (Or.inl b51_10)) hX41_1
                      · skip
                        refine R_iload (pc := 165) dX9_findChains_165 rfl ?_
                        refine R_ifeq (pc := 167) 198 dX9_findChains_167 (by decide) (fun _ => ?_) (fun h => absurd (by decide) h)
                        refine inc_11_6_1_i (pc := 198) dX9_findChains_198 ?_
                        have r34 : inR ((nI j41) + 1) 1 20 := inR_add (show inR (nI j41) 0 19 from hrg41) (show inR 1 1 1 from (inR_self _)) (by decide) (by decide)
                        have e35 := ti_add (l := 1) (h := 20) (show inR (nI j41) 0 19 from hrg41) (show inR 1 1 1 from (inR_self _)) (by decide) (by decide)
                        refine R_goto (pc := 201) 41 dX9_findChains_201 (by decide) ?_
                        rw [nI_1]
                        exact ih41 (j41 + 1) _ _ _ _ _ (by omega) (by omega) hI41 hC41 (lb_no hX41_0 (tm_next (by omega) b35_3) (Nat.lt_of_not_le (fun q => b45_7 ((nI_leI (by omega) (by omega)).mpr q))) (tm_le _ _ _) (Or.inl b51_10)) hX41_1
                  · skip
                    refine R_iload (pc := 54) dX9_findChains_54 rfl ?_
                    refine R_iload_n (pc := 56) dX9_findChains_56 rfl rfl ?_
                    refine R_iceq (pc := 57) 104 dX9_findChains_57 (by decide) (fun b57_36 => ?_) (fun b57_36 => ?_)
                    · skip
                      refine R_iconst (pc := 104) (v := 0) dX9_findChains_104 (by decide) ?_
                      refine st_11_7_i_i (pc := 105) dX9_findChains_105 ?_
                      refine R_aload_n (pc := 107) dX9_findChains_107 rfl rfl ?_
                      refine R_iload (pc := 108) dX9_findChains_108 rfl ?_
                      have hx37 : vp_in (nI j31) 20 := (vp_in_nI (by omega) (by decide))
                      refine R_iaload (pc := 110) dX9_findChains_110 (c_152 _) hx37 ?_
                      refine R_aload_n (pc := 111) dX9_findChains_111 rfl rfl ?_
                      refine R_iload (pc := 112) dX9_findChains_112 rfl ?_
                      have hx38 : vp_in (nI j41) 20 := (vp_in_nI (by omega) (by decide))
                      refine R_iaload (pc := 114) dX9_findChains_114 (c_152 _) hx38 ?_
                      refine R_icge (pc := 115) 125 dX9_findChains_115 (by decide) (fun b115_39 => ?_) (fun b115_39 => ?_)
                      · skip
                        refine R_aload_n (pc := 125) dX9_findChains_125 rfl rfl ?_
                        refine R_iload (pc := 126) dX9_findChains_126 rfl ?_
                        have hx40 : vp_in (nI j41) 20 := (vp_in_nI (by omega) (by decide))
                        refine R_iaload (pc := 128) dX9_findChains_128 (c_152 _) hx40 ?_
                        refine st_11_8_i_i (pc := 129) dX9_findChains_129 ?_
                        refine R_aload_n (pc := 131) dX9_findChains_131 rfl rfl ?_
                        refine R_iload (pc := 132) dX9_findChains_132 rfl ?_
                        have hx41 : vp_in (nI j31) 20 := (vp_in_nI (by omega) (by decide))
                        refine R_iaload (pc := 134) dX9_findChains_134 (c_152 _) hx41 ?_
                        refine R_aload_n (pc := 135) dX9_findChains_135 rfl rfl ?_
                        refine R_iload (pc := 136) dX9_findChains_136 rfl ?_
                        have hx42 : vp_in (nI j41) 20 := (vp_in_nI (by omega) (by decide))
                        refine R_iaload (pc := 138) dX9_findChains_138 (c_152 _) hx42 ?_
                        refine R_icge (pc := 139) 149 dX9_findChains_139 (by decide) (fun _ => ?_) (fun h => absurd b115_39 h)
                        refine R_aload_n (pc := 149) dX9_findChains_149 rfl rfl ?_
                        refine R_iload (pc := 150) dX9_findChains_150 rfl ?_
                        have hx44 : vp_in (nI j31) 20 := (vp_in_nI (by omega) (by decide))
                        refine R_iaload (pc := 152) dX9_findChains_152 (c_152 _) hx44 ?_
                        refine st_11_9_i_i (pc := 153) dX9_findChains_153 ?_
                        refine R_iconst (pc := 155) (v := 0) dX9_findChains_155 (by decide) ?_
                        refine st_11_10_i_i (pc := 156) dX9_findChains_156 ?_
                        refine R_iload (pc := 158) dX9_findChains_158 rfl ?_
                        refine R_iload (pc := 160) dX9_findChains_160 rfl ?_
                        refine R_icge (pc := 162) 198 dX9_findChains_162 (by decide) (fun b162_45 => ?_) (fun b162_45 => ?_)
                        · skip
                          refine inc_11_6_1_i (pc := 198) dX9_findChains_198 ?_
                          have r46 : inR ((nI j41) + 1) 1 20 := inR_add (show inR (nI j41) 0 19 from hrg41) (show inR 1 1 1 from (inR_self _)) (by decide) (by decide)
                          have e47 := ti_add (l := 1) (h := 20) (show inR (nI j41) 0 19 from hrg41) (show inR 1 1 1 from (inR_self _)) (by decide) (by decide)
                          refine R_goto (pc := 201) 41 dX9_findChains_201 (by decide) ?_
                          rw [nI_1]
                          exact ih41 (j41 + 1) _ _ _ _ _ (by omega) (by omega) hI41 hC41 (lb_no hX41_0 (tm_next (by omega) b35_3) (Nat.lt_of_not_le (fun q => b45_7 ((nI_leI (by omega) (by omega)).mpr q))) (tm_le _ _ _) (Or.inr (Or.inl b57_36))) hX41_1
                        · skip
                          refine R_iload (pc := 165) dX9_findChains_165 rfl ?_
                          refine R_ifeq (pc := 167) 198 dX9_findChains_167 (by decide) (fun _ => ?_) (fun h => absurd (by decide) h)
                          refine inc_11_6_1_i (pc := 198) dX9_findChains_198 ?_
                          have r49 : inR ((nI j41) + 1) 1 20 := inR_add (show inR (nI j41) 0 19 from hrg41) (show inR 1 1 1 from (inR_self _)) (by decide) (by decide)
                          have e50 := ti_add (l := 1) (h := 20) (show inR (nI j41) 0 19 from hrg41) (show inR 1 1 1 from (inR_self _)) (by decide) (by decide)
                          refine R_goto (pc := 201) 41 dX9_findChains_201 (by decide) ?_
                          rw [nI_1]
                          exact ih41 (j41 + 1) _ _ _ _ _ (by omega) (by omega) hI41 hC41 (lb_no hX41_0 (tm_next (by omega) b35_3) (Nat.lt_of_not_le (fun q => b45_7 ((nI_leI (by omega) (by omega)).mpr q))) (tm_le _ _ _) (Or.inr (Or.inl b57_36))) hX41_1
                      · skip
                        refine R_aload_n (pc := 118) dX9_findChains_118 rfl rfl ?_
                        refine R_iload (pc := 119) dX9_findChains_119 rfl ?_
                        have hx51 : vp_in (nI j31) 20 := (vp_in_nI (by omega) (by decide))
                        refine R_iaload (pc := 121) dX9_findChains_121 (c_152 _) hx51 ?_
                        refine R_goto (pc := 122) 129 dX9_findChains_122 (by decide) ?_
                        refine st_11_8_i_i (pc := 129) dX9_findChains_129 ?_
                        refine R_aload_n (pc := 131) dX9_findChains_131 rfl rfl ?_
                        refine R_iload (pc := 132) dX9_findChains_132 rfl ?_
                        have hx52 : vp_in (nI j31) 20 := (vp_in_nI (by omega) (by decide))
                        refine R_iaload (pc := 134) dX9_findChains_134 (c_152 _) hx52 ?_
                        refine R_aload_n (pc := 135) dX9_findChains_135 rfl rfl ?_
                        refine R_iload (pc := 136) dX9_findChains_136 rfl ?_
                        have hx53 : vp_in (nI j41) 20 := (vp_in_nI (by omega) (by decide))
                        refine R_iaload (pc := 138) dX9_findChains_138 (c_152 _) hx53 ?_
                        refine R_icge (pc := 139) 149 dX9_findChains_139 (by decide) (fun h => absurd h b115_39) (fun _ => ?_)
                        refine R_aload_n (pc := 142) dX9_findChains_142 rfl rfl ?_
                        refine R_iload (pc := 143) dX9_findChains_143 rfl ?_
                        have hx55 : vp_in (nI j41) 20 := (vp_in_nI (by omega) (by decide))
                        refine R_iaload (pc := 145) dX9_findChains_145 (c_152 _) hx55 ?_
                        refine R_goto (pc := 146) 153 dX9_findChains_146 (by decide) ?_
                        refine st_11_9_i_i (pc := 153) dX9_findChains_153 ?_
                        refine R_iconst (pc := 155) (v := 0) dX9_findChains_155 (by decide) ?_
                        refine st_11_10_i_i (pc := 156) dX9_findChains_156 ?_
                        refine R_iload (pc := 158) dX9_findChains_158 rfl ?_
                        refine R_iload (pc := 160) dX9_findChains_160 rfl ?_
                        refine R_icge (pc := 162) 198 dX9_findChains_162 (by decide) (fun b162_56 => ?_) (fun b162_56 => ?_)
                        · skip
                          refine inc_11_6_1_i (pc := 198) dX9_findChains_198 ?_
                          have r57 : inR ((nI j41) + 1) 1 20 := inR_add (show inR (nI j41) 0 19 from hrg41) (show inR 1 1 1 from (inR_self _)) (by decide) (by decide)
                          have e58 := ti_add (l := 1) (h := 20) (show inR (nI j41) 0 19 from hrg41) (show inR 1 1 1 from (inR_self _)) (by decide) (by decide)
                          refine R_goto (pc := 201) 41 dX9_findChains_201 (by decide) ?_
                          rw [nI_1]
                          exact ih41 (j41 + 1) _ _ _ _ _ (by omega) (by omega) hI41 hC41 (lb_no hX41_0 (tm_next (by omega) b35_3) (Nat.lt_of_not_le (fun q => b45_7 ((nI_leI (by omega) (by omega)).mpr q))) (tm_le _ _ _) (Or.inr (Or.inl b57_36))) hX41_1
                        · skip
                          refine R_iload (pc := 165) dX9_findChains_165 rfl ?_
                          refine R_ifeq (pc := 167) 198 dX9_findChains_167 (by decide) (fun _ => ?_) (fun h => absurd (by decide) h)
                          refine inc_11_6_1_i (pc := 198) dX9_findChains_198 ?_
                          have r60 : inR ((nI j41) + 1) 1 20 := inR_add (show inR (nI j41) 0 19 from hrg41) (show inR 1 1 1 from (inR_self _)) (by decide) (by decide)
                          have e61 := ti_add (l := 1) (h := 20) (show inR (nI j41) 0 19 from hrg41) (show inR 1 1 1 from (inR_self _)) (by decide) (by decide)
                          refine R_goto (pc := 201) 41 dX9_findChains_201 (by decide) ?_
                          rw [nI_1]
                          exact ih41 (j41 + 1) _ _ _ _ _ (by omega) (by omega) hI41 hC41 (lb_no hX41_0 (tm_next (by omega) b35_3) (Nat.lt_of_not_le (fun q => b45_7 ((nI_leI (by omega) (by omega)).mpr q))) (tm_le _ _ _) (Or.inr (Or.inl b57_36))) hX41_1
                    · skip
                      refine R_aload_n (pc := 60) dX9_findChains_60 rfl rfl ?_
                      refine R_iload (pc := 61) dX9_findChains_61 rfl ?_
                      have hx62 : vp_in (nI j31) 20 := (vp_in_nI (by omega) (by decide))
                      refine R_iaload (pc := 63) dX9_findChains_63 (c_152 _) hx62 ?_
                      refine R_aload_n (pc := 64) dX9_findChains_64 rfl rfl ?_
                      refine R_iload (pc := 65) dX9_findChains_65 rfl ?_
                      have hx63 : vp_in (nI j41) 20 := (vp_in_nI (by omega) (by decide))
                      refine R_iaload (pc := 67) dX9_findChains_67 (c_152 _) hx63 ?_
                      refine R_iceq (pc := 68) 104 dX9_findChains_68 (by decide) (fun b68_64 => ?_) (fun b68_64 => ?_)
                      · skip
                        refine R_iconst (pc := 104) (v := 0) dX9_findChains_104 (by decide) ?_
                        refine st_11_7_i_i (pc := 105) dX9_findChains_105 ?_
                        refine R_aload_n (pc := 107) dX9_findChains_107 rfl rfl ?_
                        refine R_iload (pc := 108) dX9_findChains_108 rfl ?_
                        have hx65 : vp_in (nI j31) 20 := (vp_in_nI (by omega) (by decide))
                        refine R_iaload (pc := 110) dX9_findChains_110 (c_152 _) hx65 ?_
                        refine R_aload_n (pc := 111) dX9_findChains_111 rfl rfl ?_
                        refine R_iload (pc := 112) dX9_findChains_112 rfl ?_
                        have hx66 : vp_in (nI j41) 20 := (vp_in_nI (by omega) (by decide))
                        refine R_iaload (pc := 114) dX9_findChains_114 (c_152 _) hx66 ?_
                        refine R_icge (pc := 115) 125 dX9_findChains_115 (by decide) (fun b115_67 => ?_) (fun b115_67 => ?_)
                        · skip
                          refine R_aload_n (pc := 125) dX9_findChains_125 rfl rfl ?_
                          refine R_iload (pc := 126) dX9_findChains_126 rfl ?_
                          have hx68 : vp_in (nI j41) 20 := (vp_in_nI (by omega) (by decide))
                          refine R_iaload (pc := 128) dX9_findChains_128 (c_152 _) hx68 ?_
                          refine st_11_8_i_i (pc := 129) dX9_findChains_129 ?_
                          refine R_aload_n (pc := 131) dX9_findChains_131 rfl rfl ?_
                          refine R_iload (pc := 132) dX9_findChains_132 rfl ?_
                          have hx69 : vp_in (nI j31) 20 := (vp_in_nI (by omega) (by decide))
                          refine R_iaload (pc := 134) dX9_findChains_134 (c_152 _) hx69 ?_
                          refine R_aload_n (pc := 135) dX9_findChains_135 rfl rfl ?_
                          refine R_iload (pc := 136) dX9_findChains_136 rfl ?_
                          have hx70 : vp_in (nI j41) 20 := (vp_in_nI (by omega) (by decide))
                          refine R_iaload (pc := 138) dX9_findChains_138 (c_152 _) hx70 ?_
                          refine R_icge (pc := 139) 149 dX9_findChains_139 (by decide) (fun _ => ?_) (fun h => absurd b115_67 h)
                          refine R_aload_n (pc := 149) dX9_findChains_149 rfl rfl ?_
                          refine R_iload (pc := 150) dX9_findChains_150 rfl ?_
                          have hx72 : vp_in (nI j31) 20 := (vp_in_nI (by omega) (by decide))
                          refine R_iaload (pc := 152) dX9_findChains_152 (c_152 _) hx72 ?_
                          refine st_11_9_i_i (pc := 153) dX9_findChains_153 ?_
                          refine R_iconst (pc := 155) (v := 0) dX9_findChains_155 (by decide) ?_
                          refine st_11_10_i_i (pc := 156) dX9_findChains_156 ?_
                          refine R_iload (pc := 158) dX9_findChains_158 rfl ?_
                          refine R_iload (pc := 160) dX9_findChains_160 rfl ?_
                          refine R_icge (pc := 162) 198 dX9_findChains_162 (by decide) (fun b162_73 => ?_) (fun b162_73 => ?_)
                          · skip
                            refine inc_11_6_1_i (pc := 198) dX9_findChains_198 ?_
                            have r74 : inR ((nI j41) + 1) 1 20 := inR_add (show inR (nI j41) 0 19 from hrg41) (show inR 1 1 1 from (inR_self _)) (by decide) (by decide)
                            have e75 := ti_add (l := 1) (h := 20) (show inR (nI j41) 0 19 from hrg41) (show inR 1 1 1 from (inR_self _)) (by decide) (by decide)
                            refine R_goto (pc := 201) 41 dX9_findChains_201 (by decide) ?_
                            rw [nI_1]
                            exact ih41 (j41 + 1) _ _ _ _ _ (by omega) (by omega) hI41 hC41 (lb_nof hX41_0 (tm_next (by omega) b35_3) (Nat.lt_of_not_le (fun q => b45_7 ((nI_leI (by omega) (by omega)).mpr q))) (tm_le _ _ _) b68_64) hX41_1
                          · skip
                            refine R_iload (pc := 165) dX9_findChains_165 rfl ?_
                            refine R_ifeq (pc := 167) 198 dX9_findChains_167 (by decide) (fun _ => ?_) (fun h => absurd (by decide) h)
                            refine inc_11_6_1_i (pc := 198) dX9_findChains_198 ?_
                            have r77 : inR ((nI j41) + 1) 1 20 := inR_add (show inR (nI j41) 0 19 from hrg41) (show inR 1 1 1 from (inR_self _)) (by decide) (by decide)
                            have e78 := ti_add (l := 1) (h := 20) (show inR (nI j41) 0 19 from hrg41) (show inR 1 1 1 from (inR_self _)) (by decide) (by decide)
                            refine R_goto (pc := 201) 41 dX9_findChains_201 (by decide) ?_
                            rw [nI_1]
                            exact ih41 (j41 + 1) _ _ _ _ _ (by omega) (by omega) hI41 hC41 (lb_nof hX41_0 (tm_next (by omega) b35_3) (Nat.lt_of_not_le (fun q => b45_7 ((nI_leI (by omega) (by omega)).mpr q))) (tm_le _ _ _) b68_64) hX41_1
                        · skip
                          refine R_aload_n (pc := 118) dX9_findChains_118 rfl rfl ?_
                          refine R_iload (pc := 119) dX9_findChains_119 rfl ?_
                          have hx79 : vp_in (nI j31) 20 := (vp_in_nI (by omega) (by decide))
                          refine R_iaload (pc := 121) dX9_findChains_121 (c_152 _) hx79 ?_
                          refine R_goto (pc := 122) 129 dX9_findChains_122 (by decide) ?_
                          refine st_11_8_i_i (pc := 129) dX9_findChains_129 ?_
                          refine R_aload_n (pc := 131) dX9_findChains_131 rfl rfl ?_
                          refine R_iload (pc := 132) dX9_findChains_132 rfl ?_
                          have hx80 : vp_in (nI j31) 20 := (vp_in_nI (by omega) (by decide))
                          refine R_iaload (pc := 134) dX9_findChains_134 (c_152 _) hx80 ?_
                          refine R_aload_n (pc := 135) dX9_findChains_135 rfl rfl ?_
                          refine R_iload (pc := 136) dX9_findChains_136 rfl ?_
                          have hx81 : vp_in (nI j41) 20 := (vp_in_nI (by omega) (by decide))
                          refine R_iaload (pc := 138) dX9_findChains_138 (c_152 _) hx81 ?_
                          refine R_icge (pc := 139) 149 dX9_findChains_139 (by decide) (fun h => absurd h b115_67) (fun _ => ?_)
                          refine R_aload_n (pc := 142) dX9_findChains_142 rfl rfl ?_
                          refine R_iload (pc := 143) dX9_findChains_143 rfl ?_
                          have hx83 : vp_in (nI j41) 20 := (vp_in_nI (by omega) (by decide))
                          refine R_iaload (pc := 145) dX9_findChains_145 (c_152 _) hx83 ?_
                          refine R_goto (pc := 146) 153 dX9_findChains_146 (by decide) ?_
                          refine st_11_9_i_i (pc := 153) dX9_findChains_153 ?_
                          refine R_iconst (pc := 155) (v := 0) dX9_findChains_155 (by decide) ?_
                          refine st_11_10_i_i (pc := 156) dX9_findChains_156 ?_
                          refine R_iload (pc := 158) dX9_findChains_158 rfl ?_
                          refine R_iload (pc := 160) dX9_findChains_160 rfl ?_
                          refine R_icge (pc := 162) 198 dX9_findChains_162 (by decide) (fun b162_84 => ?_) (fun b162_84 => ?_)
                          · skip
                            refine inc_11_6_1_i (pc := 198) dX9_findChains_198 ?_
                            have r85 : inR ((nI j41) + 1) 1 20 := inR_add (show inR (nI j41) 0 19 from hrg41) (show inR 1 1 1 from (inR_self _)) (by decide) (by decide)
                            have e86 := ti_add (l := 1) (h := 20) (show inR (nI j41) 0 19 from hrg41) (show inR 1 1 1 from (inR_self _)) (by decide) (by decide)
                            refine R_goto (pc := 201) 41 dX9_findChains_201 (by decide) ?_
                            rw [nI_1]
                            exact ih41 (j41 + 1) _ _ _ _ _ (by omega) (by omega) hI41 hC41 (lb_nof hX41_0 (tm_next (by omega) b35_3) (Nat.lt_of_not_le (fun q => b45_7 ((nI_leI (by omega) (by omega)).mpr q))) (tm_le _ _ _) b68_64) hX41_1
                          · skip
                            refine R_iload (pc := 165) dX9_findChains_165 rfl ?_
                            refine R_ifeq (pc := 167) 198 dX9_findChains_167 (by decide) (fun _ => ?_) (fun h => absurd (by decide) h)
                            refine inc_11_6_1_i (pc := 198) dX9_findChains_198 ?_
                            have r88 : inR ((nI j41) + 1) 1 20 := inR_add (show inR (nI j41) 0 19 from hrg41) (show inR 1 1 1 from (inR_self _)) (by decide) (by decide)
                            have e89 := ti_add (l := 1) (h := 20) (show inR (nI j41) 0 19 from hrg41) (show inR 1 1 1 from (inR_self _)) (by decide) (by decide)
                            refine R_goto (pc := 201) 41 dX9_findChains_201 (by decide) ?_
                            rw [nI_1]
                            exact ih41 (j41 + 1) _ _ _ _ _ (by omega) (by omega) hI41 hC41 (lb_nof hX41_0 (tm_next (by omega) b35_3) (Nat.lt_of_not_le (fun q => b45_7 ((nI_leI (by omega) (by omega)).mpr q))) (tm_le _ _ _) b68_64) hX41_1
                      · skip
                        refine R_iload_n (pc := 71) dX9_findChains_71 rfl rfl ?_
                        refine R_ifeq (pc := 72) 89 dX9_findChains_72 (by decide) (fun _ => ?_) (fun h => absurd (by decide) h)
                        refine R_aload_n (pc := 89) dX9_findChains_89 rfl rfl ?_
                        refine R_iload (pc := 90) dX9_findChains_90 rfl ?_
                        refine R_iload (pc := 92) dX9_findChains_92 rfl ?_
                        refine k_X9_155 (pc := 94) (ge_X9_isLike _ _ _ hI41 hrg31 hrg41) rfl (c_140 _) (by decide) (Nat.le_refl _) (Nat.le_refl _) (Nat.le_of_ble_eq_true rfl) dX9_findChains_94 (fun x w2 h => ?_)
                        rcases h with ⟨rfl, ⟨h91, rfl⟩ | ⟨h91, rfl⟩⟩
                        · skip
                          refine R_ifeq (pc := 97) 104 dX9_findChains_97 (by decide) (fun h => absurd h (by decide)) (fun _ => ?_)
                          refine R_iconst (pc := 100) (v := 1) dX9_findChains_100 (by decide) ?_
                          refine R_goto (pc := 101) 105 dX9_findChains_101 (by decide) ?_
                          refine st_11_7_i_i (pc := 105) dX9_findChains_105 ?_
                          refine R_aload_n (pc := 107) dX9_findChains_107 rfl rfl ?_
                          refine R_iload (pc := 108) dX9_findChains_108 rfl ?_
                          have hx93 : vp_in (nI j31) 20 := (vp_in_nI (by omega) (by decide))
                          refine R_iaload (pc := 110) dX9_findChains_110 (c_152 _) hx93 ?_
                          refine R_aload_n (pc := 111) dX9_findChains_111 rfl rfl ?_
                          refine R_iload (pc := 112) dX9_findChains_112 rfl ?_
                          have hx94 : vp_in (nI j41) 20 := (vp_in_nI (by omega) (by decide))
                          refine R_iaload (pc := 114) dX9_findChains_114 (c_152 _) hx94 ?_
                          refine R_icge (pc := 115) 125 dX9_findChains_115 (by decide) (fun b115_95 => ?_) (fun b115_95 => ?_)
                          · skip
                            refine R_aload_n (pc := 125) dX9_findChains_125 rfl rfl ?_
                            refine R_iload (pc := 126) dX9_findChains_126 rfl ?_
                            have hx96 : vp_in (nI j41) 20 := (vp_in_nI (by omega) (by decide))
                            refine R_iaload (pc := 128) dX9_findChains_128 (c_152 _) hx96 ?_
                            refine st_11_8_i_i (pc := 129) dX9_findChains_129 ?_
                            refine R_aload_n (pc := 131) dX9_findChains_131 rfl rfl ?_
                            refine R_iload (pc := 132) dX9_findChains_132 rfl ?_
                            have hx97 : vp_in (nI j31) 20 := (vp_in_nI (by omega) (by decide))
                            refine R_iaload (pc := 134) dX9_findChains_134 (c_152 _) hx97 ?_
                            refine R_aload_n (pc := 135) dX9_findChains_135 rfl rfl ?_
                            refine R_iload (pc := 136) dX9_findChains_136 rfl ?_
                            have hx98 : vp_in (nI j41) 20 := (vp_in_nI (by omega) (by decide))
                            refine R_iaload (pc := 138) dX9_findChains_138 (c_152 _) hx98 ?_
                            refine R_icge (pc := 139) 149 dX9_findChains_139 (by decide) (fun _ => ?_) (fun h => absurd b115_95 h)
                            refine R_aload_n (pc := 149) dX9_findChains_149 rfl rfl ?_
                            refine R_iload (pc := 150) dX9_findChains_150 rfl ?_
                            have hx100 : vp_in (nI j31) 20 := (vp_in_nI (by omega) (by decide))
                            refine R_iaload (pc := 152) dX9_findChains_152 (c_152 _) hx100 ?_
                            refine st_11_9_i_i (pc := 153) dX9_findChains_153 ?_
                            refine R_iconst (pc := 155) (v := 0) dX9_findChains_155 (by decide) ?_
                            refine st_11_10_i_i (pc := 156) dX9_findChains_156 ?_
                            have HL158 : ∀ (q j158 : Nat) (σ158 : Sg), j158 + q = 20 → 0 ≤ j158 → Inv σ158 → Cor σ σ158 → MG (σ41.2.2.1 152) (σ41.2.2.1 152 (Int32.toNatClampNeg (nI j41))) (σ41.2.2.1 152 (Int32.toNatClampNeg (nI j31))) j158 (σ158.2.2.1 152) → Fq fq2 σ σ158 → j158 ≤ (tm (σ.1 14000) (σ.1 14013) (σ.2.2.1 148)) → R G l yX9_findChains cX9_findChains 11 none 3 0 0 (QV (fun w2 => ∃ σ2, w2 = WW σ2 ∧ Inv σ2 ∧ Cor σ σ2 ∧ Fq fq2 σ σ2 ∧ ∀ x : Nat, x < (tm (σ.1 14000) (σ.1 14013) (σ.2.2.1 148)) → ¬ nI x = u → σ2.2.2.1 152 x = nI (lab (fun a b => lkM σ (nI a) (nI b)) (fun i => decide (i < (tm (σ.1 14000) (σ.1 14013) (σ.2.2.1 148))) && !decide (nI i = u)) x))) 158 [(some (.ref 140)), (some (.ref 152)), (some (.int 0)), (some (.int u)), (some (.int (nI (tm (σ.1 14000) (σ.1 14013) (σ.2.2.1 148))))), (some (.int (nI j31))), (some (.int (nI j41))), (some (.int 1)), (some (.int (σ41.2.2.1 152 (Int32.toNatClampNeg (nI j41))))), (some (.int (σ41.2.2.1 152 (Int32.toNatClampNeg (nI j31))))), (some (.int (nI j158)))] [] (WW σ158) 0 0 := by
                              intro q
                              induction q with
                              | zero =>
                                intro j158 σ158 hj hs158 hI158 hC158 hX158_0 hX158_1 hX158_2
                                obtain rfl : j158 = 20 := by omega
                                refine R_iload (pc := 158) dX9_findChains_158 rfl ?_
                                refine R_iload (pc := 160) dX9_findChains_160 rfl ?_
                                refine R_icge (pc := 162) 198 dX9_findChains_162 (by decide) (fun _ => ?_) (fun h => absurd (Int32.not_lt.mp (inR_up (tm_in (σ.1 14000) (σ.1 14013) (σ.2.2.1 148)) (Int32.le_refl _) (by decide)).2) h)
                                refine inc_11_6_1_i (pc := 198) dX9_findChains_198 ?_
                                have r102 : inR ((nI j41) + 1) 1 20 := inR_add (show inR (nI j41) 0 19 from hrg41) (show inR 1 1 1 from (inR_self _)) (by decide) (by decide)
                                have e103 := ti_add (l := 1) (h := 20) (show inR (nI j41) 0 19 from hrg41) (show inR 1 1 1 from (inR_self _)) (by decide) (by decide)
                                refine R_goto (pc := 201) 41 dX9_findChains_201 (by decide) ?_
                                rw [nI_1]
                                exact ih41 (j41 + 1) _ _ _ _ _ (by omega) (by omega) hI158 hC158 (lb_ge hX41_0 (tm_next (by omega) b35_3) (Nat.lt_of_not_le (fun q => b45_7 ((nI_leI (by omega) (by omega)).mpr q))) (tm_le _ _ _) b51_10 b57_36 b68_64 ((lkM_fq hX41_1 rfl _ _).symm.trans h91) hS (Int32.not_lt.mpr b115_95) (by have q := hX158_0; rw [(show 20 = (tm (σ.1 14000) (σ.1 14013) (σ.2.2.1 148)) from by first | exact tm_exit (by omega) hX158_2 (by assumption) | exact tm_ex20 hX158_2)] at q; exact q)) hX158_1
                              | succ q ih158 =>
                                intro j158 σ158 hj hs158 hI158 hC158 hX158_0 hX158_1 hX158_2
                                have hrg158 : inR (nI j158) 0 19 := inR_ix hs158 (show j158 < 20 by omega) (by decide) (by decide) (by decide)
                                have hlt158 : j158 < 20 := by omega
                                refine R_iload (pc := 158) dX9_findChains_158 rfl ?_
                                refine R_iload (pc := 160) dX9_findChains_160 rfl ?_
                                refine R_icge (pc := 162) 198 dX9_findChains_162 (by decide) (fun b162_104 => ?_) (fun b162_104 => ?_)
                                · skip
                                  refine inc_11_6_1_i (pc := 198) dX9_findChains_198 ?_
                                  have r105 : inR ((nI j41) + 1) 1 20 := inR_add (show inR (nI j41) 0 19 from hrg41) (show inR 1 1 1 from (inR_self _)) (by decide) (by decide)
                                  have e106 := ti_add (l := 1) (h := 20) (show inR (nI j41) 0 19 from hrg41) (show inR 1 1 1 from (inR_self _)) (by decide) (by decide)
                                  refine R_goto (pc := 201) 41 dX9_findChains_201 (by decide) ?_
                                  rw [nI_1]
                                  exact ih41 (j41 + 1) _ _ _ _ _ (by omega) (by omega) hI158 hC158 (lb_ge hX41_0 (tm_next (by omega) b35_3) (Nat.lt_of_not_le (fun q => b45_7 ((nI_leI (by omega) (by omega)).mpr q))) (tm_le _ _ _) b51_10 b57_36 b68_64 ((lkM_fq hX41_1 rfl _ _).symm.trans h91) hS (Int32.not_lt.mpr b115_95) (by have q := hX158_0; rw [(show j158 = (tm (σ.1 14000) (σ.1 14013) (σ.2.2.1 148)) from by first | exact tm_exit (by omega) hX158_2 (by assumption) | exact tm_ex20 hX158_2)] at q; exact q)) hX158_1
                                · skip
                                  refine R_iload (pc := 165) dX9_findChains_165 rfl ?_
                                  refine R_ifeq (pc := 167) 198 dX9_findChains_167 (by decide) (fun h => absurd h (by decide)) (fun _ => ?_)
                                  refine R_aload_n (pc := 170) dX9_findChains_170 rfl rfl ?_
                                  refine R_iload (pc := 171) dX9_findChains_171 rfl ?_
                                  refine R_aload_n (pc := 173) dX9_findChains_173 rfl rfl ?_
                                  refine R_iload (pc := 174) dX9_findChains_174 rfl ?_
                                  have hx108 : vp_in (nI j158) 20 := (vp_in_nI (by omega) (by decide))
                                  refine R_iaload (pc := 176) dX9_findChains_176 (c_152 _) hx108 ?_
                                  refine R_iload (pc := 177) dX9_findChains_177 rfl ?_
                                  refine R_icne (pc := 179) 187 dX9_findChains_179 (by decide) (fun b179_109 => ?_) (fun b179_109 => ?_)
                                  · skip
                                    refine R_aload_n (pc := 187) dX9_findChains_187 rfl rfl ?_
                                    refine R_iload (pc := 188) dX9_findChains_188 rfl ?_
                                    have hx110 : vp_in (nI j158) 20 := (vp_in_nI (by omega) (by decide))
                                    refine R_iaload (pc := 190) dX9_findChains_190 (c_152 _) hx110 ?_
                                    have hx111 : vp_in (nI j158) 20 := (vp_in_nI (by omega) (by decide))
                                    refine W_iastore (pc := 191) dX9_findChains_191 (c_152 _) hx111 (a_152 _ _) ?_
                                    have hV112 := sa_152 hI158 (Int32.toNatClampNeg (nI j158)) (iva_152 hI158 _ (lt_of_vp hx108))
                                    have hW113 := cor_sa 152 (upd (σ158.2.2.1 152) (Int32.toNatClampNeg (nI j158)) (σ158.2.2.1 152 (Int32.toNatClampNeg (nI j158)))) hC158 rfl
                                    refine inc_11_10_1_i (pc := 192) dX9_findChains_192 ?_
                                    have r114 : inR ((nI j158) + 1) 1 20 := inR_add (show inR (nI j158) 0 19 from hrg158) (show inR 1 1 1 from (inR_self _)) (by decide) (by decide)
                                    have e115 := ti_add (l := 1) (h := 20) (show inR (nI j158) 0 19 from hrg158) (show inR 1 1 1 from (inR_self _)) (by decide) (by decide)
                                    refine R_goto (pc := 195) 158 dX9_findChains_195 (by decide) ?_
                                    rw [nI_1]
                                    exact ih158 (j158 + 1) _ (by omega) (by omega) hV112 hW113 (mg_f (by omega) hX158_0 b179_109) (fq_a 152 _ hX158_1 rfl) (tm_next (by omega) b162_104)
                                  · skip
                                    refine R_iload (pc := 182) dX9_findChains_182 rfl ?_
                                    refine R_goto (pc := 184) 191 dX9_findChains_184 (by decide) ?_
                                    have hx116 : vp_in (nI j158) 20 := (vp_in_nI (by omega) (by decide))
                                    refine W_iastore (pc := 191) dX9_findChains_191 (c_152 _) hx116 (a_152 _ _) ?_
                                    have hV117 := sa_152 hI158 (Int32.toNatClampNeg (nI j158)) (iva_152 hI41 _ (lt_of_vp hx63))
                                    have hW118 := cor_sa 152 (upd (σ158.2.2.1 152) (Int32.toNatClampNeg (nI j158)) (σ41.2.2.1 152 (Int32.toNatClampNeg (nI j41)))) hC158 rfl
                                    refine inc_11_10_1_i (pc := 192) dX9_findChains_192 ?_
                                    have r119 : inR ((nI j158) + 1) 1 20 := inR_add (show inR (nI j158) 0 19 from hrg158) (show inR 1 1 1 from (inR_self _)) (by decide) (by decide)
                                    have e120 := ti_add (l := 1) (h := 20) (show inR (nI j158) 0 19 from hrg158) (show inR 1 1 1 from (inR_self _)) (by decide) (by decide)
                                    refine R_goto (pc := 195) 158 dX9_findChains_195 (by decide) ?_
                                    rw [nI_1]
                                    exact ih158 (j158 + 1) _ (by omega) (by omega) hV117 hW118 (mg_t (by omega) hX158_0 b179_109) (fq_a 152 _ hX158_1 rfl) (tm_next (by omega) b162_104)
                            exact HL158 20 0 _ (by omega) (by omega) hI41 hC41 mg_0 hX41_1 (Nat.zero_le _)
                          · skip
                            refine R_aload_n (pc := 118) dX9_findChains_118 rfl rfl ?_
                            refine R_iload (pc := 119) dX9_findChains_119 rfl ?_
                            have hx121 : vp_in (nI j31) 20 := (vp_in_nI (by omega) (by decide))
                            refine R_iaload (pc := 121) dX9_findChains_121 (c_152 _) hx121 ?_
                            refine R_goto (pc := 122) 129 dX9_findChains_122 (by decide) ?_
                            refine st_11_8_i_i (pc := 129) dX9_findChains_129 ?_
                            refine R_aload_n (pc := 131) dX9_findChains_131 rfl rfl ?_
                            refine R_iload (pc := 132) dX9_findChains_132 rfl ?_
                            have hx122 : vp_in (nI j31) 20 := (vp_in_nI (by omega) (by decide))
                            refine R_iaload (pc := 134) dX9_findChains_134 (c_152 _) hx122 ?_
                            refine R_aload_n (pc := 135) dX9_findChains_135 rfl rfl ?_
                            refine R_iload (pc := 136) dX9_findChains_136 rfl ?_
                            have hx123 : vp_in (nI j41) 20 := (vp_in_nI (by omega) (by decide))
                            refine R_iaload (pc := 138) dX9_findChains_138 (c_152 _) hx123 ?_
                            refine R_icge (pc := 139) 149 dX9_findChains_139 (by decide) (fun h => absurd h b115_95) (fun _ => ?_)
                            refine R_aload_n (pc := 142) dX9_findChains_142 rfl rfl ?_
                            refine R_iload (pc := 143) dX9_findChains_143 rfl ?_
                            have hx125 : vp_in (nI j41) 20 := (vp_in_nI (by omega) (by decide))
                            refine R_iaload (pc := 145) dX9_findChains_145 (c_152 _) hx125 ?_
                            refine R_goto (pc := 146) 153 dX9_findChains_146 (by decide) ?_
                            refine st_11_9_i_i (pc := 153) dX9_findChains_153 ?_
                            refine R_iconst (pc := 155) (v := 0) dX9_findChains_155 (by decide) ?_
                            refine st_11_10_i_i (pc := 156) dX9_findChains_156 ?_
                            have HL158 : ∀ (q j158 : Nat) (σ158 : Sg), j158 + q = 20 → 0 ≤ j158 → Inv σ158 → Cor σ σ158 → MG (σ41.2.2.1 152) (σ41.2.2.1 152 (Int32.toNatClampNeg (nI j31))) (σ41.2.2.1 152 (Int32.toNatClampNeg (nI j41))) j158 (σ158.2.2.1 152) → Fq fq2 σ σ158 → j158 ≤ (tm (σ.1 14000) (σ.1 14013) (σ.2.2.1 148)) → R G l yX9_findChains cX9_findChains 11 none 3 0 0 (QV (fun w2 => ∃ σ2, w2 = WW σ2 ∧ Inv σ2 ∧ Cor σ σ2 ∧ Fq fq2 σ σ2 ∧ ∀ x : Nat, x < (tm (σ.1 14000) (σ.1 14013) (σ.2.2.1 148)) → ¬ nI x = u → σ2.2.2.1 152 x = nI (lab (fun a b => lkM σ (nI a) (nI b)) (fun i => decide (i < (tm (σ.1 14000) (σ.1 14013) (σ.2.2.1 148))) && !decide (nI i = u)) x))) 158 [(some (.ref 140)), (some (.ref 152)), (some (.int 0)), (some (.int u)), (some (.int (nI (tm (σ.1 14000) (σ.1 14013) (σ.2.2.1 148))))), (some (.int (nI j31))), (some (.int (nI j41))), (some (.int 1)), (some (.int (σ41.2.2.1 152 (Int32.toNatClampNeg (nI j31))))), (some (.int (σ41.2.2.1 152 (Int32.toNatClampNeg (nI j41))))), (some (.int (nI j158)))] [] (WW σ158) 0 0 := by
                              intro q
                              induction q with
                              | zero =>
                                intro j158 σ158 hj hs158 hI158 hC158 hX158_0 hX158_1 hX158_2
                                obtain rfl : j158 = 20 := by omega
                                refine R_iload (pc := 158) dX9_findChains_158 rfl ?_
                                refine R_iload (pc := 160) dX9_findChains_160 rfl ?_
                                refine R_icge (pc := 162) 198 dX9_findChains_162 (by decide) (fun _ => ?_) (fun h => absurd (Int32.not_lt.mp (inR_up (tm_in (σ.1 14000) (σ.1 14013) (σ.2.2.1 148)) (Int32.le_refl _) (by decide)).2) h)
                                refine inc_11_6_1_i (pc := 198) dX9_findChains_198 ?_
                                have r127 : inR ((nI j41) + 1) 1 20 := inR_add (show inR (nI j41) 0 19 from hrg41) (show inR 1 1 1 from (inR_self _)) (by decide) (by decide)
                                have e128 := ti_add (l := 1) (h := 20) (show inR (nI j41) 0 19 from hrg41) (show inR 1 1 1 from (inR_self _)) (by decide) (by decide)
                                refine R_goto (pc := 201) 41 dX9_findChains_201 (by decide) ?_
                                rw [nI_1]
                                exact ih41 (j41 + 1) _ _ _ _ _ (by omega) (by omega) hI158 hC158 (lb_lt hX41_0 (tm_next (by omega) b35_3) (Nat.lt_of_not_le (fun q => b45_7 ((nI_leI (by omega) (by omega)).mpr q))) (tm_le _ _ _) b51_10 b57_36 b68_64 ((lkM_fq hX41_1 rfl _ _).symm.trans h91) hS (Int32.not_le.mp b115_95) (by have q := hX158_0; rw [(show 20 = (tm (σ.1 14000) (σ.1 14013) (σ.2.2.1 148)) from by first | exact tm_exit (by omega) hX158_2 (by assumption) | exact tm_ex20 hX158_2)] at q; exact q)) hX158_1
                              | succ q ih158 =>
                                intro j158 σ158 hj hs158 hI158 hC158 hX158_0 hX158_1 hX158_2
                                have hrg158 : inR (nI j158) 0 19 := inR_ix hs158 (show j158 < 20 by omega) (by decide) (by decide) (by decide)
                                have hlt158 : j158 < 20 := by omega
                                refine R_iload (pc := 158) dX9_findChains_158 rfl ?_
                                refine R_iload (pc := 160) dX9_findChains_160 rfl ?_
                                refine R_icge (pc := 162) 198 dX9_findChains_162 (by decide) (fun b162_129 => ?_) (fun b162_129 => ?_)
                                · skip
                                  refine inc_11_6_1_i (pc := 198) dX9_findChains_198 ?_
                                  have r130 : inR ((nI j41) + 1) 1 20 := inR_add (show inR (nI j41) 0 19 from hrg41) (show inR 1 1 1 from (inR_self _)) (by decide) (by decide)
                                  have e131 := ti_add (l := 1) (h := 20) (show inR (nI j41) 0 19 from hrg41) (show inR 1 1 1 from (inR_self _)) (by decide) (by decide)
                                  refine R_goto (pc := 201) 41 dX9_findChains_201 (by decide) ?_
                                  rw [nI_1]
                                  exact ih41 (j41 + 1) _ _ _ _ _ (by omega) (by omega) hI158 hC158 (lb_lt hX41_0 (tm_next (by omega) b35_3) (Nat.lt_of_not_le (fun q => b45_7 ((nI_leI (by omega) (by omega)).mpr q))) (tm_le _ _ _) b51_10 b57_36 b68_64 ((lkM_fq hX41_1 rfl _ _).symm.trans h91) hS (Int32.not_le.mp b115_95) (by have q := hX158_0; rw [(show j158 = (tm (σ.1 14000) (σ.1 14013) (σ.2.2.1 148)) from by first | exact tm_exit (by omega) hX158_2 (by assumption) | exact tm_ex20 hX158_2)] at q; exact q)) hX158_1
                                · skip
                                  refine R_iload (pc := 165) dX9_findChains_165 rfl ?_
                                  refine R_ifeq (pc := 167) 198 dX9_findChains_167 (by decide) (fun h => absurd h (by decide)) (fun _ => ?_)
                                  refine R_aload_n (pc := 170) dX9_findChains_170 rfl rfl ?_
                                  refine R_iload (pc := 171) dX9_findChains_171 rfl ?_
                                  refine R_aload_n (pc := 173) dX9_findChains_173 rfl rfl ?_
                                  refine R_iload (pc := 174) dX9_findChains_174 rfl ?_
                                  have hx133 : vp_in (nI j158) 20 := (vp_in_nI (by omega) (by decide))
                                  refine R_iaload (pc := 176) dX9_findChains_176 (c_152 _) hx133 ?_
                                  refine R_iload (pc := 177) dX9_findChains_177 rfl ?_
                                  refine R_icne (pc := 179) 187 dX9_findChains_179 (by decide) (fun b179_134 => ?_) (fun b179_134 => ?_)
                                  · skip
                                    refine R_aload_n (pc := 187) dX9_findChains_187 rfl rfl ?_
                                    refine R_iload (pc := 188) dX9_findChains_188 rfl ?_
                                    have hx135 : vp_in (nI j158) 20 := (vp_in_nI (by omega) (by decide))
                                    refine R_iaload (pc := 190) dX9_findChains_190 (c_152 _) hx135 ?_
                                    have hx136 : vp_in (nI j158) 20 := (vp_in_nI (by omega) (by decide))
                                    refine W_iastore (pc := 191) dX9_findChains_191 (c_152 _) hx136 (a_152 _ _) ?_
                                    have hV137 := sa_152 hI158 (Int32.toNatClampNeg (nI j158)) (iva_152 hI158 _ (lt_of_vp hx133))
                                    have hW138 := cor_sa 152 (upd (σ158.2.2.1 152) (Int32.toNatClampNeg (nI j158)) (σ158.2.2.1 152 (Int32.toNatClampNeg (nI j158)))) hC158 rfl
                                    refine inc_11_10_1_i (pc := 192) dX9_findChains_192 ?_
                                    have r139 : inR ((nI j158) + 1) 1 20 := inR_add (show inR (nI j158) 0 19 from hrg158) (show inR 1 1 1 from (inR_self _)) (by decide) (by decide)
                                    have e140 := ti_add (l := 1) (h := 20) (show inR (nI j158) 0 19 from hrg158) (show inR 1 1 1 from (inR_self _)) (by decide) (by decide)
                                    refine R_goto (pc := 195) 158 dX9_findChains_195 (by decide) ?_
                                    rw [nI_1]
                                    exact ih158 (j158 + 1) _ (by omega) (by omega) hV137 hW138 (mg_f (by omega) hX158_0 b179_134) (fq_a 152 _ hX158_1 rfl) (tm_next (by omega) b162_129)
                                  · skip
                                    refine R_iload (pc := 182) dX9_findChains_182 rfl ?_
                                    refine R_goto (pc := 184) 191 dX9_findChains_184 (by decide) ?_
                                    have hx141 : vp_in (nI j158) 20 := (vp_in_nI (by omega) (by decide))
                                    refine W_iastore (pc := 191) dX9_findChains_191 (c_152 _) hx141 (a_152 _ _) ?_
                                    have hV142 := sa_152 hI158 (Int32.toNatClampNeg (nI j158)) (iva_152 hI41 _ (lt_of_vp hx62))
                                    have hW143 := cor_sa 152 (upd (σ158.2.2.1 152) (Int32.toNatClampNeg (nI j158)) (σ41.2.2.1 152 (Int32.toNatClampNeg (nI j31)))) hC158 rfl
                                    refine inc_11_10_1_i (pc := 192) dX9_findChains_192 ?_
                                    have r144 : inR ((nI j158) + 1) 1 20 := inR_add (show inR (nI j158) 0 19 from hrg158) (show inR 1 1 1 from (inR_self _)) (by decide) (by decide)
                                    have e145 := ti_add (l := 1) (h := 20) (show inR (nI j158) 0 19 from hrg158) (show inR 1 1 1 from (inR_self _)) (by decide) (by decide)
                                    refine R_goto (pc := 195) 158 dX9_findChains_195 (by decide) ?_
                                    rw [nI_1]
                                    exact ih158 (j158 + 1) _ (by omega) (by omega) hV142 hW143 (mg_t (by omega) hX158_0 b179_134) (fq_a 152 _ hX158_1 rfl) (tm_next (by omega) b162_129)
                            exact HL158 20 0 _ (by omega) (by omega) hI41 hC41 mg_0 hX41_1 (Nat.zero_le _)
                        · skip
                          refine R_ifeq (pc := 97) 104 dX9_findChains_97 (by decide) (fun _ => ?_) (fun h => absurd (by decide) h)
                          refine R_iconst (pc := 104) (v := 0) dX9_findChains_104 (by decide) ?_
                          refine st_11_7_i_i (pc := 105) dX9_findChains_105 ?_
                          refine R_aload_n (pc := 107) dX9_findChains_107 rfl rfl ?_
                          refine R_iload (pc := 108) dX9_findChains_108 rfl ?_
                          have hx147 : vp_in (nI j31) 20 := (vp_in_nI (by omega) (by decide))
                          refine R_iaload (pc := 110) dX9_findChains_110 (c_152 _) hx147 ?_
                          refine R_aload_n (pc := 111) dX9_findChains_111 rfl rfl ?_
                          refine R_iload (pc := 112) dX9_findChains_112 rfl ?_
                          have hx148 : vp_in (nI j41) 20 := (vp_in_nI (by omega) (by decide))
                          refine R_iaload (pc := 114) dX9_findChains_114 (c_152 _) hx148 ?_
                          refine R_icge (pc := 115) 125 dX9_findChains_115 (by decide) (fun b115_149 => ?_) (fun b115_149 => ?_)
                          · skip
                            refine R_aload_n (pc := 125) dX9_findChains_125 rfl rfl ?_
                            refine R_iload (pc := 126) dX9_findChains_126 rfl ?_
                            have hx150 : vp_in (nI j41) 20 := (vp_in_nI (by omega) (by decide))
                            refine R_iaload (pc := 128) dX9_findChains_128 (c_152 _) hx150 ?_
                            refine st_11_8_i_i (pc := 129) dX9_findChains_129 ?_
                            refine R_aload_n (pc := 131) dX9_findChains_131 rfl rfl ?_
                            refine R_iload (pc := 132) dX9_findChains_132 rfl ?_
                            have hx151 : vp_in (nI j31) 20 := (vp_in_nI (by omega) (by decide))
                            refine R_iaload (pc := 134) dX9_findChains_134 (c_152 _) hx151 ?_
                            refine R_aload_n (pc := 135) dX9_findChains_135 rfl rfl ?_
                            refine R_iload (pc := 136) dX9_findChains_136 rfl ?_
                            have hx152 : vp_in (nI j41) 20 := (vp_in_nI (by omega) (by decide))
                            refine R_iaload (pc := 138) dX9_findChains_138 (c_152 _) hx152 ?_
                            refine R_icge (pc := 139) 149 dX9_findChains_139 (by decide) (fun _ => ?_) (fun h => absurd b115_149 h)
                            refine R_aload_n (pc := 149) dX9_findChains_149 rfl rfl ?_
                            refine R_iload (pc := 150) dX9_findChains_150 rfl ?_
                            have hx154 : vp_in (nI j31) 20 := (vp_in_nI (by omega) (by decide))
                            refine R_iaload (pc := 152) dX9_findChains_152 (c_152 _) hx154 ?_
                            refine st_11_9_i_i (pc := 153) dX9_findChains_153 ?_
                            refine R_iconst (pc := 155) (v := 0) dX9_findChains_155 (by decide) ?_
                            refine st_11_10_i_i (pc := 156) dX9_findChains_156 ?_
                            refine R_iload (pc := 158) dX9_findChains_158 rfl ?_
                            refine R_iload (pc := 160) dX9_findChains_160 rfl ?_
                            refine R_icge (pc := 162) 198 dX9_findChains_162 (by decide) (fun b162_155 => ?_) (fun b162_155 => ?_)
                            · skip
                              refine inc_11_6_1_i (pc := 198) dX9_findChains_198 ?_
                              have r156 : inR ((nI j41) + 1) 1 20 := inR_add (show inR (nI j41) 0 19 from hrg41) (show inR 1 1 1 from (inR_self _)) (by decide) (by decide)
                              have e157 := ti_add (l := 1) (h := 20) (show inR (nI j41) 0 19 from hrg41) (show inR 1 1 1 from (inR_self _)) (by decide) (by decide)
                              refine R_goto (pc := 201) 41 dX9_findChains_201 (by decide) ?_
                              rw [nI_1]
                              exact ih41 (j41 + 1) _ _ _ _ _ (by omega) (by omega) hI41 hC41 (lb_no hX41_0 (tm_next (by omega) b35_3) (Nat.lt_of_not_le (fun q => b45_7 ((nI_leI (by omega) (by omega)).mpr q))) (tm_le _ _ _) (Or.inr (Or.inr (Or.inr ((lkM_fq hX41_1 rfl _ _).symm.trans h91))))) hX41_1
                            · skip
                              refine R_iload (pc := 165) dX9_findChains_165 rfl ?_
                              refine R_ifeq (pc := 167) 198 dX9_findChains_167 (by decide) (fun _ => ?_) (fun h => absurd (by decide) h)
                              refine inc_11_6_1_i (pc := 198) dX9_findChains_198 ?_
                              have r159 : inR ((nI j41) + 1) 1 20 := inR_add (show inR (nI j41) 0 19 from hrg41) (show inR 1 1 1 from (inR_self _)) (by decide) (by decide)
                              have e160 := ti_add (l := 1) (h := 20) (show inR (nI j41) 0 19 from hrg41) (show inR 1 1 1 from (inR_self _)) (by decide) (by decide)
                              refine R_goto (pc := 201) 41 dX9_findChains_201 (by decide) ?_
                              rw [nI_1]
                              exact ih41 (j41 + 1) _ _ _ _ _ (by omega) (by omega) hI41 hC41 (lb_no hX41_0 (tm_next (by omega) b35_3) (Nat.lt_of_not_le (fun q => b45_7 ((nI_leI (by omega) (by omega)).mpr q))) (tm_le _ _ _) (Or.inr (Or.inr (Or.inr ((lkM_fq hX41_1 rfl _ _).symm.trans h91))))) hX41_1
                          · skip
                            refine R_aload_n (pc := 118) dX9_findChains_118 rfl rfl ?_
                            refine R_iload (pc := 119) dX9_findChains_119 rfl ?_
                            have hx161 : vp_in (nI j31) 20 := (vp_in_nI (by omega) (by decide))
                            refine R_iaload (pc := 121) dX9_findChains_121 (c_152 _) hx161 ?_
                            refine R_goto (pc := 122) 129 dX9_findChains_122 (by decide) ?_
                            refine st_11_8_i_i (pc := 129) dX9_findChains_129 ?_
                            refine R_aload_n (pc := 131) dX9_findChains_131 rfl rfl ?_
                            refine R_iload (pc := 132) dX9_findChains_132 rfl ?_
                            have hx162 : vp_in (nI j31) 20 := (vp_in_nI (by omega) (by decide))
                            refine R_iaload (pc := 134) dX9_findChains_134 (c_152 _) hx162 ?_
                            refine R_aload_n (pc := 135) dX9_findChains_135 rfl rfl ?_
                            refine R_iload (pc := 136) dX9_findChains_136 rfl ?_
                            have hx163 : vp_in (nI j41) 20 := (vp_in_nI (by omega) (by decide))
                            refine R_iaload (pc := 138) dX9_findChains_138 (c_152 _) hx163 ?_
                            refine R_icge (pc := 139) 149 dX9_findChains_139 (by decide) (fun h => absurd h b115_149) (fun _ => ?_)
                            refine R_aload_n (pc := 142) dX9_findChains_142 rfl rfl ?_
                            refine R_iload (pc := 143) dX9_findChains_143 rfl ?_
                            have hx165 : vp_in (nI j41) 20 := (vp_in_nI (by omega) (by decide))
                            refine R_iaload (pc := 145) dX9_findChains_145 (c_152 _) hx165 ?_
                            refine R_goto (pc := 146) 153 dX9_findChains_146 (by decide) ?_
                            refine st_11_9_i_i (pc := 153) dX9_findChains_153 ?_
                            refine R_iconst (pc := 155) (v := 0) dX9_findChains_155 (by decide) ?_
                            refine st_11_10_i_i (pc := 156) dX9_findChains_156 ?_
                            refine R_iload (pc := 158) dX9_findChains_158 rfl ?_
                            refine R_iload (pc := 160) dX9_findChains_160 rfl ?_
                            refine R_icge (pc := 162) 198 dX9_findChains_162 (by decide) (fun b162_166 => ?_) (fun b162_166 => ?_)
                            · skip
                              refine inc_11_6_1_i (pc := 198) dX9_findChains_198 ?_
                              have r167 : inR ((nI j41) + 1) 1 20 := inR_add (show inR (nI j41) 0 19 from hrg41) (show inR 1 1 1 from (inR_self _)) (by decide) (by decide)
                              have e168 := ti_add (l := 1) (h := 20) (show inR (nI j41) 0 19 from hrg41) (show inR 1 1 1 from (inR_self _)) (by decide) (by decide)
                              refine R_goto (pc := 201) 41 dX9_findChains_201 (by decide) ?_
                              rw [nI_1]
                              exact ih41 (j41 + 1) _ _ _ _ _ (by omega) (by omega) hI41 hC41 (lb_no hX41_0 (tm_next (by omega) b35_3) (Nat.lt_of_not_le (fun q => b45_7 ((nI_leI (by omega) (by omega)).mpr q))) (tm_le _ _ _) (Or.inr (Or.inr (Or.inr ((lkM_fq hX41_1 rfl _ _).symm.trans h91))))) hX41_1
                            · skip
                              refine R_iload (pc := 165) dX9_findChains_165 rfl ?_
                              refine R_ifeq (pc := 167) 198 dX9_findChains_167 (by decide) (fun _ => ?_) (fun h => absurd (by decide) h)
                              refine inc_11_6_1_i (pc := 198) dX9_findChains_198 ?_
                              have r170 : inR ((nI j41) + 1) 1 20 := inR_add (show inR (nI j41) 0 19 from hrg41) (show inR 1 1 1 from (inR_self _)) (by decide) (by decide)
                              have e171 := ti_add (l := 1) (h := 20) (show inR (nI j41) 0 19 from hrg41) (show inR 1 1 1 from (inR_self _)) (by decide) (by decide)
                              refine R_goto (pc := 201) 41 dX9_findChains_201 (by decide) ?_
                              rw [nI_1]
                              exact ih41 (j41 + 1) _ _ _ _ _ (by omega) (by omega) hI41 hC41 (lb_no hX41_0 (tm_next (by omega) b35_3) (Nat.lt_of_not_le (fun q => b45_7 ((nI_leI (by omega) (by omega)).mpr q))) (tm_le _ _ _) (Or.inr (Or.inr (Or.inr ((lkM_fq hX41_1 rfl _ _).symm.trans h91))))) hX41_1
            exact HL41 20 0 _ _ _ _ _ (by omega) (by omega) hI31 hC31 hX31_0 hX31_1
      exact HL31 20 0 _ _ _ _ _ _ (by omega) (by omega) hI9 hC9 (lb_0 (by have q := hX9_0; rw [(show 20 = (tm (σ.1 14000) (σ.1 14013) (σ.2.2.1 148)) from by first | exact tm_exit (by omega) hX9_2 (by assumption) | exact tm_ex20 hX9_2)] at q; exact q)) hX9_1 (Nat.zero_le _)
    | succ q ih9 =>
      intro j9 σ9 hj hs9 hI9 hC9 hX9_0 hX9_1 hX9_2
      have hrg9 : inR (nI j9) 0 19 := inR_ix hs9 (show j9 < 20 by omega) (by decide) (by decide) (by decide)
      have hlt9 : j9 < 20 := by omega
      refine R_iload (pc := 9) dX9_findChains_9 rfl ?_
      refine R_iload (pc := 11) dX9_findChains_11 rfl ?_
      refine R_icge (pc := 13) 28 dX9_findChains_13 (by decide) (fun b13_172 => ?_) (fun b13_172 => ?_)
      · skip
        refine R_iconst (pc := 28) (v := 0) dX9_findChains_28 (by decide) ?_
        refine st_11_5_i_i (pc := 29) dX9_findChains_29 ?_
        have HL31 : ∀ (q j31 : Nat) (σ31 : Sg) (g6_31 : Option Value) (g7_31 : Option Value) (g8_31 : Option Value) (g9_31 : Option Value) (g10_31 : Option Value), j31 + q = 20 → 0 ≤ j31 → Inv σ31 → Cor σ σ31 → LB (fun a b => lkM σ (nI a) (nI b)) (tm (σ.1 14000) (σ.1 14013) (σ.2.2.1 148)) u (σ31.2.2.1 152) j31 0 → Fq fq2 σ σ31 → j31 ≤ (tm (σ.1 14000) (σ.1 14013) (σ.2.2.1 148)) → R G l yX9_findChains cX9_findChains 11 none 3 0 0 (QV (fun w2 => ∃ σ2, w2 = WW σ2 ∧ Inv σ2 ∧ Cor σ σ2 ∧ Fq fq2 σ σ2 ∧ ∀ x : Nat, x < (tm (σ.1 14000) (σ.1 14013) (σ.2.2.1 148)) → ¬ nI x = u → σ2.2.2.1 152 x = nI (lab (fun a b => lkM σ (nI a) (nI b)) (fun i => decide (i < (tm (σ.1 14000) (σ.1 14013) (σ.2.2.1 148))) && !decide (nI i = u)) x))) 31 [(some (.ref 140)), (some (.ref 152)), (some (.int 0)), (some (.int u)), (some (.int (nI (tm (σ.1 14000) (σ.1 14013) (σ.2.2.1 148))))), (some (.int (nI j31))), g6_31, g7_31, g8_31, g9_31, g10_31] [] (WW σ31) 0 0 := by
          intro q
          induction q with
          | zero =>
            intro j31 σ31 g6_31 g7_31 g8_31 g9_31 g10_31 hj hs31 hI31 hC31 hX31_0 hX31_1 hX31_2
            obtain rfl : j31 = 20 := by omega
            refine R_iload (pc := 31) dX9_findChains_31 rfl ?_
            refine R_iload (pc := 33) dX9_findChains_33 rfl ?_
            refine R_icge (pc := 35) 210 dX9_findChains_35 (by decide) (fun _ => ?_) (fun h => absurd (Int32.not_lt.mp (inR_up (tm_in (σ.1 14000) (σ.1 14013) (σ.2.2.1 148)) (Int32.le_refl _) (by decide)).2) h)
            exact R_vret (pc := 210) dX9_findChains_210 rfl (Nat.zero_le _) (Nat.zero_le _) ⟨rfl, _, rfl, hI31, hC31, hX31_1, (lb_end (tm_le _ _ _) hS (by have q := hX31_0; rw [(show 20 = (tm (σ.1 14000) (σ.1 14013) (σ.2.2.1 148)) from by first | exact tm_exit (by omega) hX31_2 (by assumption) | exact tm_ex20 hX31_2)] at q; exact q))⟩
          | succ q ih31 =>
            intro j31 σ31 g6_31 g7_31 g8_31 g9_31 g10_31 hj hs31 hI31 hC31 hX31_0 hX31_1 hX31_2
            have hrg31 : inR (nI j31) 0 19 := inR_ix hs31 (show j31 < 20 by omega) (by decide) (by decide) (by decide)
            have hlt31 : j31 < 20 := by omega
            refine R_iload (pc := 31) dX9_findChains_31 rfl ?_
            refine R_iload (pc := 33) dX9_findChains_33 rfl ?_
            refine R_icge (pc := 35) 210 dX9_findChains_35 (by decide) (fun b35_174 => ?_) (fun b35_174 => ?_)
            · skip
              exact R_vret (pc := 210) dX9_findChains_210 rfl (Nat.zero_le _) (Nat.zero_le _) ⟨rfl, _, rfl, hI31, hC31, hX31_1, (lb_end (tm_le _ _ _) hS (by have q := hX31_0; rw [(show j31 = (tm (σ.1 14000) (σ.1 14013) (σ.2.2.1 148)) from by first | exact tm_exit (by omega) hX31_2 (by assumption) | exact tm_ex20 hX31_2)] at q; exact q))⟩
            · skip
              refine R_iconst (pc := 38) (v := 0) dX9_findChains_38 (by decide) ?_
              refine st_11_6_i_i (pc := 39) dX9_findChains_39 ?_
              have HL41 : ∀ (q j41 : Nat) (σ41 : Sg) (g7_41 : Option Value) (g8_41 : Option Value) (g9_41 : Option Value) (g10_41 : Option Value), j41 + q = 20 → 0 ≤ j41 → Inv σ41 → Cor σ σ41 → LB (fun a b => lkM σ (nI a) (nI b)) (tm (σ.1 14000) (σ.1 14013) (σ.2.2.1 148)) u (σ41.2.2.1 152) j31 j41 → Fq fq2 σ σ41 → R G l yX9_findChains cX9_findChains 11 none 3 0 0 (QV (fun w2 => ∃ σ2, w2 = WW σ2 ∧ Inv σ2 ∧ Cor σ σ2 ∧ Fq fq2 σ σ2 ∧ ∀ x : Nat, x < (tm (σ.1 14000) (σ.1 14013) (σ.2.2.1 148)) → ¬ nI x = u → σ2.2.2.1 152 x = nI (lab (fun a b => lkM σ (nI a) (nI b)) (fun i => decide (i < (tm (σ.1 14000) (σ.1 14013) (σ.2.2.1 148))) && !decide (nI i = u)) x))) 41 [(some (.ref 140)), (some (.ref 152)), (some (.int 0)), (some (.int u)), (some (.int (nI (tm (σ.1 14000) (σ.1 14013) (σ.2.2.1 148))))), (some (.int (nI j31))), (some (.int (nI j41))), g7_41, g8_41, g9_41, g10_41] [] (WW σ41) 0 0 := by
                intro q
                induction q with
                | zero =>
                  intro j41 σ41 g7_41 g8_41 g9_41 g10_41 hj hs41 hI41 hC41 hX41_0 hX41_1
                  obtain rfl : j41 = 20 := by omega
                  refine R_iload (pc := 41) dX9_findChains_41 rfl ?_
                  refine R_iload (pc := 43) dX9_findChains_43 rfl ?_
                  refine R_icge (pc := 45) 204 dX9_findChains_45 (by decide) (fun _ => ?_) (fun h => absurd (Int32.not_lt.mp (inR_up hrg31 (Int32.le_refl _) (by decide)).2) h)
                  refine inc_11_5_1_i (pc := 204) dX9_findChains_204 ?_
                  have r176 : inR ((nI j31) + 1) 1 20 := inR_add (show inR (nI j31) 0 19 from hrg31) (show inR 1 1 1 from (inR_self _)) (by decide) (by decide)
                  have e177 := ti_add (l := 1) (h := 20) (show inR (nI j31) 0 19 from hrg31) (show inR 1 1 1 from (inR_self _)) (by decide) (by decide)
                  refine R_goto (pc := 207) 31 dX9_findChains_207 (by decide) ?_
                  rw [nI_1]
                  exact ih31 (j31 + 1) _ _ _ _ _ _ (by omega) (by omega) hI41 hC41 (lb_e hX41_0 (by omega)) hX41_1 (tm_next (by omega) b35_174)
                | succ q ih41 =>
                  intro j41 σ41 g7_41 g8_41 g9_41 g10_41 hj hs41 hI41 hC41 hX41_0 hX41_1
                  have hrg41 : inR (nI j41) 0 19 := inR_ix hs41 (show j41 < 20 by omega) (by decide) (by decide) (by decide)
                  have hlt41 : j41 < 20 := by omega
                  refine R_iload (pc := 41) dX9_findChains_41 rfl ?_
                  refine R_iload (pc := 43) dX9_findChains_43 rfl ?_
                  refine R_icge (pc := 45) 204 dX9_findChains_45 (by decide) (fun b45_178 => ?_) (fun b45_178 => ?_)
                  · skip
                    refine inc_11_5_1_i (pc := 204) dX9_findChains_204 ?_
                    have r179 : inR ((nI j31) + 1) 1 20 := inR_add (show inR (nI j31) 0 19 from hrg31) (show inR 1 1 1 from (inR_self _)) (by decide) (by decide)
                    have e180 := ti_add (l := 1) (h := 20) (show inR (nI j31) 0 19 from hrg31) (show inR 1 1 1 from (inR_self _)) (by decide) (by decide)
                    refine R_goto (pc := 207) 31 dX9_findChains_207 (by decide) ?_
                    rw [nI_1]
                    exact ih31 (j31 + 1) _ _ _ _ _ _ (by omega) (by omega) hI41 hC41 (lb_e hX41_0 ((nI_leI (by omega) (by omega)).mp b45_178)) hX41_1 (tm_next (by omega) b35_174)
                  · skip
                    refine R_iload (pc := 48) dX9_findChains_48 rfl ?_
                    refine R_iload_n (pc := 50) dX9_findChains_50 rfl rfl ?_
                    refine R_iceq (pc := 51) 104 dX9_findChains_51 (by decide) (fun b51_181 => ?_) (fun b51_181 => ?_)
                    · skip
                      refine R_iconst (pc := 104) (v := 0) dX9_findChains_104 (by decide) ?_
                      refine st_11_7_i_i (pc := 105) dX9_findChains_105 ?_
                      refine R_aload_n (pc := 107) dX9_findChains_107 rfl rfl ?_
                      refine R_iload (pc := 108) dX9_findChains_108 rfl ?_
                      have hx182 : vp_in (nI j31) 20 := (vp_in_nI (by omega) (by decide))
                      refine R_iaload (pc := 110) dX9_findChains_110 (c_152 _) hx182 ?_
                      refine R_aload_n (pc := 111) dX9_findChains_111 rfl rfl ?_
                      refine R_iload (pc := 112) dX9_findChains_112 rfl ?_
                      have hx183 : vp_in (nI j41) 20 := (vp_in_nI (by omega) (by decide))
                      refine R_iaload (pc := 114) dX9_findChains_114 (c_152 _) hx183 ?_
                      refine R_icge (pc := 115) 125 dX9_findChains_115 (by decide) (fun b115_184 => ?_) (fun b115_184 => ?_)
                      · skip
                        refine R_aload_n (pc := 125) dX9_findChains_125 rfl rfl ?_
                        refine R_iload (pc := 126) dX9_findChains_126 rfl ?_
                        have hx185 : vp_in (nI j41) 20 := (vp_in_nI (by omega) (by decide))
                        refine R_iaload (pc := 128) dX9_findChains_128 (c_152 _) hx185 ?_
                        refine st_11_8_i_i (pc := 129) dX9_findChains_129 ?_
                        refine R_aload_n (pc := 131) dX9_findChains_131 rfl rfl ?_
                        refine R_iload (pc := 132) dX9_findChains_132 rfl ?_
                        have hx186 : vp_in (nI j31) 20 := (vp_in_nI (by omega) (by decide))
                        refine R_iaload (pc := 134) dX9_findChains_134 (c_152 _) hx186 ?_
                        refine R_aload_n (pc := 135) dX9_findChains_135 rfl rfl ?_
                        refine R_iload (pc := 136) dX9_findChains_136 rfl ?_
                        have hx187 : vp_in (nI j41) 20 := (vp_in_nI (by omega) (by decide))
                        refine R_iaload (pc := 138) dX9_findChains_138 (c_152 _) hx187 ?_
                        refine R_icge (pc := 139) 149 dX9_findChains_139 (by decide) (fun _ => ?_) (fun h => absurd b115_184 h)
                        refine R_aload_n (pc := 149) dX9_findChains_149 rfl rfl ?_
                        refine R_iload (pc := 150) dX9_findChains_150 rfl ?_
                        have hx189 : vp_in (nI j31) 20 := (vp_in_nI (by omega) (by decide))
                        refine R_iaload (pc := 152) dX9_findChains_152 (c_152 _) hx189 ?_
                        refine st_11_9_i_i (pc := 153) dX9_findChains_153 ?_
                        refine R_iconst (pc := 155) (v := 0) dX9_findChains_155 (by decide) ?_
                        refine st_11_10_i_i (pc := 156) dX9_findChains_156 ?_
                        refine R_iload (pc := 158) dX9_findChains_158 rfl ?_
                        refine R_iload (pc := 160) dX9_findChains_160 rfl ?_
                        refine R_icge (pc := 162) 198 dX9_findChains_162 (by decide) (fun b162_190 => ?_) (fun b162_190 => ?_)
                        · skip
                          refine inc_11_6_1_i (pc := 198) dX9_findChains_198 ?_
                          have r191 : inR ((nI j41) + 1) 1 20 := inR_add (show inR (nI j41) 0 19 from hrg41) (show inR 1 1 1 from (inR_self _)) (by decide) (by decide)
                          have e192 := ti_add (l := 1) (h := 20) (show inR (nI j41) 0 19 from hrg41) (show inR 1 1 1 from (inR_self _)) (by decide) (by decide)
                          refine R_goto (pc := 201) 41 dX9_findChains_201 (by decide) ?_
                          rw [nI_1]
                          exact ih41 (j41 + 1) _ _ _ _ _ (by omega) (by omega) hI41 hC41 (lb_no hX41_0 (tm_next (by omega) b35_174) (Nat.lt_of_not_le (fun q => b45_178 ((nI_leI (by omega) (by omega)).mpr q))) (tm_le _ _ _) (Or.inl b51_181)) hX41_1
                        · skip
                          refine R_iload (pc := 165) dX9_findChains_165 rfl ?_
                          refine R_ifeq (pc := 167) 198 dX9_findChains_167 (by decide) (fun _ => ?_) (fun h => absurd (by decide) h)
                          refine inc_11_6_1_i (pc := 198) dX9_findChains_198 ?_
                          have r194 : inR ((nI j41) + 1) 1 20 := inR_add (show inR (nI j41) 0 19 from hrg41) (show inR 1 1 1 from (inR_self _)) (by decide) (by decide)
                          have e195 := ti_add (l := 1) (h := 20) (show inR (nI j41) 0 19 from hrg41) (show inR 1 1 1 from (inR_self _)) (by decide) (by decide)
                          refine R_goto (pc := 201) 41 dX9_findChains_201 (by decide) ?_
                          rw [nI_1]
                          exact ih41 (j41 + 1) _ _ _ _ _ (by omega) (by omega) hI41 hC41 (lb_no hX41_0 (tm_next (by omega) b35_174) (Nat.lt_of_not_le (fun q => b45_178 ((nI_leI (by omega) (by omega)).mpr q))) (tm_le _ _ _) (Or.inl b51_181)) hX41_1
                      · skip
                        refine R_aload_n (pc := 118) dX9_findChains_118 rfl rfl ?_
                        refine R_iload (pc := 119) dX9_findChains_119 rfl ?_
                        have hx196 : vp_in (nI j31) 20 := (vp_in_nI (by omega) (by decide))
                        refine R_iaload (pc := 121) dX9_findChains_121 (c_152 _) hx196 ?_
                        refine R_goto (pc := 122) 129 dX9_findChains_122 (by decide) ?_
                        refine st_11_8_i_i (pc := 129) dX9_findChains_129 ?_
                        refine R_aload_n (pc := 131) dX9_findChains_131 rfl rfl ?_
                        refine R_iload (pc := 132) dX9_findChains_132 rfl ?_
                        have hx197 : vp_in (nI j31) 20 := (vp_in_nI (by omega) (by decide))
                        refine R_iaload (pc := 134) dX9_findChains_134 (c_152 _) hx197 ?_
                        refine R_aload_n (pc := 135) dX9_findChains_135 rfl rfl ?_
                        refine R_iload (pc := 136) dX9_findChains_136 rfl ?_
                        have hx198 : vp_in (nI j41) 20 := (vp_in_nI (by omega) (by decide))
                        refine R_iaload (pc := 138) dX9_findChains_138 (c_152 _) hx198 ?_
                        refine R_icge (pc := 139) 149 dX9_findChains_139 (by decide) (fun h => absurd h b115_184) (fun _ => ?_)
                        refine R_aload_n (pc := 142) dX9_findChains_142 rfl rfl ?_
                        refine R_iload (pc := 143) dX9_findChains_143 rfl ?_
                        have hx200 : vp_in (nI j41) 20 := (vp_in_nI (by omega) (by decide))
                        refine R_iaload (pc := 145) dX9_findChains_145 (c_152 _) hx200 ?_
                        refine R_goto (pc := 146) 153 dX9_findChains_146 (by decide) ?_
                        refine st_11_9_i_i (pc := 153) dX9_findChains_153 ?_
                        refine R_iconst (pc := 155) (v := 0) dX9_findChains_155 (by decide) ?_
                        refine st_11_10_i_i (pc := 156) dX9_findChains_156 ?_
                        refine R_iload (pc := 158) dX9_findChains_158 rfl ?_
                        refine R_iload (pc := 160) dX9_findChains_160 rfl ?_
                        refine R_icge (pc := 162) 198 dX9_findChains_162 (by decide) (fun b162_201 => ?_) (fun b162_201 => ?_)
                        · skip
                          refine inc_11_6_1_i (pc := 198) dX9_findChains_198 ?_
                          have r202 : inR ((nI j41) + 1) 1 20 := inR_add (show inR (nI j41) 0 19 from hrg41) (show inR 1 1 1 from (inR_self _)) (by decide) (by decide)
                          have e203 := ti_add (l := 1) (h := 20) (show inR (nI j41) 0 19 from hrg41) (show inR 1 1 1 from (inR_self _)) (by decide) (by decide)
                          refine R_goto (pc := 201) 41 dX9_findChains_201 (by decide) ?_
                          rw [nI_1]
                          exact ih41 (j41 + 1) _ _ _ _ _ (by omega) (by omega) hI41 hC41 (lb_no hX41_0 (tm_next (by omega) b35_174) (Nat.lt_of_not_le (fun q => b45_178 ((nI_leI (by omega) (by omega)).mpr q))) (tm_le _ _ _) (Or.inl b51_181)) hX41_1
                        · skip
                          refine R_iload (pc := 165) dX9_findChains_165 rfl ?_
                          refine R_ifeq (pc := 167) 198 dX9_findChains_167 (by decide) (fun _ => ?_) (fun h => absurd (by decide) h)
                          refine inc_11_6_1_i (pc := 198) dX9_findChains_198 ?_
                          have r205 : inR ((nI j41) + 1) 1 20 := inR_add (show inR (nI j41) 0 19 from hrg41) (show inR 1 1 1 from (inR_self _)) (by decide) (by decide)
                          have e206 := ti_add (l := 1) (h := 20) (show inR (nI j41) 0 19 from hrg41) (show inR 1 1 1 from (inR_self _)) (by decide) (by decide)
                          refine R_goto (pc := 201) 41 dX9_findChains_201 (by decide) ?_
                          rw [nI_1]
                          exact ih41 (j41 + 1) _ _ _ _ _ (by omega) (by omega) hI41 hC41 (lb_no hX41_0 (tm_next (by omega) b35_174) (Nat.lt_of_not_le (fun q => b45_178 ((nI_leI (by omega) (by omega)).mpr q))) (tm_le _ _ _) (Or.inl b51_181)) hX41_1
                    · skip
                      refine R_iload (pc := 54) dX9_findChains_54 rfl ?_
                      refine R_iload_n (pc := 56) dX9_findChains_56 rfl rfl ?_
                      refine R_iceq (pc := 57) 104 dX9_findChains_57 (by decide) (fun b57_207 => ?_) (fun b57_207 => ?_)
                      · skip
                        refine R_iconst (pc := 104) (v := 0) dX9_findChains_104 (by decide) ?_
                        refine st_11_7_i_i (pc := 105) dX9_findChains_105 ?_
                        refine R_aload_n (pc := 107) dX9_findChains_107 rfl rfl ?_
                        refine R_iload (pc := 108) dX9_findChains_108 rfl ?_
                        have hx208 : vp_in (nI j31) 20 := (vp_in_nI (by omega) (by decide))
                        refine R_iaload (pc := 110) dX9_findChains_110 (c_152 _) hx208 ?_
                        refine R_aload_n (pc := 111) dX9_findChains_111 rfl rfl ?_
                        refine R_iload (pc := 112) dX9_findChains_112 rfl ?_
                        have hx209 : vp_in (nI j41) 20 := (vp_in_nI (by omega) (by decide))
                        refine R_iaload (pc := 114) dX9_findChains_114 (c_152 _) hx209 ?_
                        refine R_icge (pc := 115) 125 dX9_findChains_115 (by decide) (fun b115_210 => ?_) (fun b115_210 => ?_)
                        · skip
                          refine R_aload_n (pc := 125) dX9_findChains_125 rfl rfl ?_
                          refine R_iload (pc := 126) dX9_findChains_126 rfl ?_
                          have hx211 : vp_in (nI j41) 20 := (vp_in_nI (by omega) (by decide))
                          refine R_iaload (pc := 128) dX9_findChains_128 (c_152 _) hx211 ?_
                          refine st_11_8_i_i (pc := 129) dX9_findChains_129 ?_
                          refine R_aload_n (pc := 131) dX9_findChains_131 rfl rfl ?_
                          refine R_iload (pc := 132) dX9_findChains_132 rfl ?_
                          have hx212 : vp_in (nI j31) 20 := (vp_in_nI (by omega) (by decide))
                          refine R_iaload (pc := 134) dX9_findChains_134 (c_152 _) hx212 ?_
                          refine R_aload_n (pc := 135) dX9_findChains_135 rfl rfl ?_
                          refine R_iload (pc := 136) dX9_findChains_136 rfl ?_
                          have hx213 : vp_in (nI j41) 20 := (vp_in_nI (by omega) (by decide))
                          refine R_iaload (pc := 138) dX9_findChains_138 (c_152 _) hx213 ?_
                          refine R_icge (pc := 139) 149 dX9_findChains_139 (by decide) (fun _ => ?_) (fun h => absurd b115_210 h)
                          refine R_aload_n (pc := 149) dX9_findChains_149 rfl rfl ?_
                          refine R_iload (pc := 150) dX9_findChains_150 rfl ?_
                          have hx215 : vp_in (nI j31) 20 := (vp_in_nI (by omega) (by decide))
                          refine R_iaload (pc := 152) dX9_findChains_152 (c_152 _) hx215 ?_
                          refine st_11_9_i_i (pc := 153) dX9_findChains_153 ?_
                          refine R_iconst (pc := 155) (v := 0) dX9_findChains_155 (by decide) ?_
                          refine st_11_10_i_i (pc := 156) dX9_findChains_156 ?_
                          refine R_iload (pc := 158) dX9_findChains_158 rfl ?_
                          refine R_iload (pc := 160) dX9_findChains_160 rfl ?_
                          refine R_icge (pc := 162) 198 dX9_findChains_162 (by decide) (fun b162_216 => ?_) (fun b162_216 => ?_)
                          · skip
                            refine inc_11_6_1_i (pc := 198) dX9_findChains_198 ?_
                            have r217 : inR ((nI j41) + 1) 1 20 := inR_add (show inR (nI j41) 0 19 from hrg41) (show inR 1 1 1 from (inR_self _)) (by decide) (by decide)
                            have e218 := ti_add (l := 1) (h := 20) (show inR (nI j41) 0 19 from hrg41) (show inR 1 1 1 from (inR_self _)) (by decide) (by decide)
                            refine R_goto (pc := 201) 41 dX9_findChains_201 (by decide) ?_
                            rw [nI_1]
                            exact ih41 (j41 + 1) _ _ _ _ _ (by omega) (by omega) hI41 hC41 (lb_no hX41_0 (tm_next (by omega) b35_174) (Nat.lt_of_not_le (fun q => b45_178 ((nI_leI (by omega) (by omega)).mpr q))) (tm_le _ _ _) (Or.inr (Or.inl b57_207))) hX41_1
                          · skip
                            refine R_iload (pc := 165) dX9_findChains_165 rfl ?_
                            refine R_ifeq (pc := 167) 198 dX9_findChains_167 (by decide) (fun _ => ?_) (fun h => absurd (by decide) h)
                            refine inc_11_6_1_i (pc := 198) dX9_findChains_198 ?_
                            have r220 : inR ((nI j41) + 1) 1 20 := inR_add (show inR (nI j41) 0 19 from hrg41) (show inR 1 1 1 from (inR_self _)) (by decide) (by decide)
                            have e221 := ti_add (l := 1) (h := 20) (show inR (nI j41) 0 19 from hrg41) (show inR 1 1 1 from (inR_self _)) (by decide) (by decide)
                            refine R_goto (pc := 201) 41 dX9_findChains_201 (by decide) ?_
                            rw [nI_1]
                            exact ih41 (j41 + 1) _ _ _ _ _ (by omega) (by omega) hI41 hC41 (lb_no hX41_0 (tm_next (by omega) b35_174) (Nat.lt_of_not_le (fun q => b45_178 ((nI_leI (by omega) (by omega)).mpr q))) (tm_le _ _ _) (Or.inr (Or.inl b57_207))) hX41_1
                        · skip
                          refine R_aload_n (pc := 118) dX9_findChains_118 rfl rfl ?_
                          refine R_iload (pc := 119) dX9_findChains_119 rfl ?_
                          have hx222 : vp_in (nI j31) 20 := (vp_in_nI (by omega) (by decide))
                          refine R_iaload (pc := 121) dX9_findChains_121 (c_152 _) hx222 ?_
                          refine R_goto (pc := 122) 129 dX9_findChains_122 (by decide) ?_
                          refine st_11_8_i_i (pc := 129) dX9_findChains_129 ?_
                          refine R_aload_n (pc := 131) dX9_findChains_131 rfl rfl ?_
                          refine R_iload (pc := 132) dX9_findChains_132 rfl ?_
                          have hx223 : vp_in (nI j31) 20 := (vp_in_nI (by omega) (by decide))
                          refine R_iaload (pc := 134) dX9_findChains_134 (c_152 _) hx223 ?_
                          refine R_aload_n (pc := 135) dX9_findChains_135 rfl rfl ?_
                          refine R_iload (pc := 136) dX9_findChains_136 rfl ?_
                          have hx224 : vp_in (nI j41) 20 := (vp_in_nI (by omega) (by decide))
                          refine R_iaload (pc := 138) dX9_findChains_138 (c_152 _) hx224 ?_
                          refine R_icge (pc := 139) 149 dX9_findChains_139 (by decide) (fun h => absurd h b115_210) (fun _ => ?_)
                          refine R_aload_n (pc := 142) dX9_findChains_142 rfl rfl ?_
                          refine R_iload (pc := 143) dX9_findChains_143 rfl ?_
                          have hx226 : vp_in (nI j41) 20 := (vp_in_nI (by omega) (by decide))
                          refine R_iaload (pc := 145) dX9_findChains_145 (c_152 _) hx226 ?_
                          refine R_goto (pc := 146) 153 dX9_findChains_146 (by decide) ?_
                          refine st_11_9_i_i (pc := 153) dX9_findChains_153 ?_
                          refine R_iconst (pc := 155) (v := 0) dX9_findChains_155 (by decide) ?_
                          refine st_11_10_i_i (pc := 156) dX9_findChains_156 ?_
                          refine R_iload (pc := 158) dX9_findChains_158 rfl ?_
                          refine R_iload (pc := 160) dX9_findChains_160 rfl ?_
                          refine R_icge (pc := 162) 198 dX9_findChains_162 (by decide) (fun b162_227 => ?_) (fun b162_227 => ?_)
                          · skip
                            refine inc_11_6_1_i (pc := 198) dX9_findChains_198 ?_
                            have r228 : inR ((nI j41) + 1) 1 20 := inR_add (show inR (nI j41) 0 19 from hrg41) (show inR 1 1 1 from (inR_self _)) (by decide) (by decide)
                            have e229 := ti_add (l := 1) (h := 20) (show inR (nI j41) 0 19 from hrg41) (show inR 1 1 1 from (inR_self _)) (by decide) (by decide)
                            refine R_goto (pc := 201) 41 dX9_findChains_201 (by decide) ?_
                            rw [nI_1]
                            exact ih41 (j41 + 1) _ _ _ _ _ (by omega) (by omega) hI41 hC41 (lb_no hX41_0 (tm_next (by omega) b35_174) (Nat.lt_of_not_le (fun q => b45_178 ((nI_leI (by omega) (by omega)).mpr q))) (tm_le _ _ _) (Or.inr (Or.inl b57_207))) hX41_1
                          · skip
                            refine R_iload (pc := 165) dX9_findChains_165 rfl ?_
                            refine R_ifeq (pc := 167) 198 dX9_findChains_167 (by decide) (fun _ => ?_) (fun h => absurd (by decide) h)
                            refine inc_11_6_1_i (pc := 198) dX9_findChains_198 ?_
                            have r231 : inR ((nI j41) + 1) 1 20 := inR_add (show inR (nI j41) 0 19 from hrg41) (show inR 1 1 1 from (inR_self _)) (by decide) (by decide)
                            have e232 := ti_add (l := 1) (h := 20) (show inR (nI j41) 0 19 from hrg41) (show inR 1 1 1 from (inR_self _)) (by decide) (by decide)
                            refine R_goto (pc := 201) 41 dX9_findChains_201 (by decide) ?_
                            rw [nI_1]
                            exact ih41 (j41 + 1) _ _ _ _ _ (by omega) (by omega) hI41 hC41 (lb_no hX41_0 (tm_next (by omega) b35_174) (Nat.lt_of_not_le (fun q => b45_178 ((nI_leI (by omega) (by omega)).mpr q))) (tm_le _ _ _) (Or.inr (Or.inl b57_207))) hX41_1
                      · skip
                        refine R_aload_n (pc := 60) dX9_findChains_60 rfl rfl ?_
                        refine R_iload (pc := 61) dX9_findChains_61 rfl ?_
                        have hx233 : vp_in (nI j31) 20 := (vp_in_nI (by omega) (by decide))
                        refine R_iaload (pc := 63) dX9_findChains_63 (c_152 _) hx233 ?_
                        refine R_aload_n (pc := 64) dX9_findChains_64 rfl rfl ?_
                        refine R_iload (pc := 65) dX9_findChains_65 rfl ?_
                        have hx234 : vp_in (nI j41) 20 := (vp_in_nI (by omega) (by decide))
                        refine R_iaload (pc := 67) dX9_findChains_67 (c_152 _) hx234 ?_
                        refine R_iceq (pc := 68) 104 dX9_findChains_68 (by decide) (fun b68_235 => ?_) (fun b68_235 => ?_)
                        · skip
                          refine R_iconst (pc := 104) (v := 0) dX9_findChains_104 (by decide) ?_
                          refine st_11_7_i_i (pc := 105) dX9_findChains_105 ?_
                          refine R_aload_n (pc := 107) dX9_findChains_107 rfl rfl ?_
                          refine R_iload (pc := 108) dX9_findChains_108 rfl ?_
                          have hx236 : vp_in (nI j31) 20 := (vp_in_nI (by omega) (by decide))
                          refine R_iaload (pc := 110) dX9_findChains_110 (c_152 _) hx236 ?_
                          refine R_aload_n (pc := 111) dX9_findChains_111 rfl rfl ?_
                          refine R_iload (pc := 112) dX9_findChains_112 rfl ?_
                          have hx237 : vp_in (nI j41) 20 := (vp_in_nI (by omega) (by decide))
                          refine R_iaload (pc := 114) dX9_findChains_114 (c_152 _) hx237 ?_
                          refine R_icge (pc := 115) 125 dX9_findChains_115 (by decide) (fun b115_238 => ?_) (fun b115_238 => ?_)
                          · skip
                            refine R_aload_n (pc := 125) dX9_findChains_125 rfl rfl ?_
                            refine R_iload (pc := 126) dX9_findChains_126 rfl ?_
                            have hx239 : vp_in (nI j41) 20 := (vp_in_nI (by omega) (by decide))
                            refine R_iaload (pc := 128) dX9_findChains_128 (c_152 _) hx239 ?_
                            refine st_11_8_i_i (pc := 129) dX9_findChains_129 ?_
                            refine R_aload_n (pc := 131) dX9_findChains_131 rfl rfl ?_
                            refine R_iload (pc := 132) dX9_findChains_132 rfl ?_
                            have hx240 : vp_in (nI j31) 20 := (vp_in_nI (by omega) (by decide))
                            refine R_iaload (pc := 134) dX9_findChains_134 (c_152 _) hx240 ?_
                            refine R_aload_n (pc := 135) dX9_findChains_135 rfl rfl ?_
                            refine R_iload (pc := 136) dX9_findChains_136 rfl ?_
                            have hx241 : vp_in (nI j41) 20 := (vp_in_nI (by omega) (by decide))
                            refine R_iaload (pc := 138) dX9_findChains_138 (c_152 _) hx241 ?_
                            refine R_icge (pc := 139) 149 dX9_findChains_139 (by decide) (fun _ => ?_) (fun h => absurd b115_238 h)
                            refine R_aload_n (pc := 149) dX9_findChains_149 rfl rfl ?_
                            refine R_iload (pc := 150) dX9_findChains_150 rfl ?_
                            have hx243 : vp_in (nI j31) 20 := (vp_in_nI (by omega) (by decide))
                            refine R_iaload (pc := 152) dX9_findChains_152 (c_152 _) hx243 ?_
                            refine st_11_9_i_i (pc := 153) dX9_findChains_153 ?_
                            refine R_iconst (pc := 155) (v := 0) dX9_findChains_155 (by decide) ?_
                            refine st_11_10_i_i (pc := 156) dX9_findChains_156 ?_
                            refine R_iload (pc := 158) dX9_findChains_158 rfl ?_
                            refine R_iload (pc := 160) dX9_findChains_160 rfl ?_
                            refine R_icge (pc := 162) 198 dX9_findChains_162 (by decide) (fun b162_244 => ?_) (fun b162_244 => ?_)
                            · skip
                              refine inc_11_6_1_i (pc := 198) dX9_findChains_198 ?_
                              have r245 : inR ((nI j41) + 1) 1 20 := inR_add (show inR (nI j41) 0 19 from hrg41) (show inR 1 1 1 from (inR_self _)) (by decide) (by decide)
                              have e246 := ti_add (l := 1) (h := 20) (show inR (nI j41) 0 19 from hrg41) (show inR 1 1 1 from (inR_self _)) (by decide) (by decide)
                              refine R_goto (pc := 201) 41 dX9_findChains_201 (by decide) ?_
                              rw [nI_1]
                              exact ih41 (j41 + 1) _ _ _ _ _ (by omega) (by omega) hI41 hC41 (lb_nof hX41_0 (tm_next (by omega) b35_174) (Nat.lt_of_not_le (fun q => b45_178 ((nI_leI (by omega) (by omega)).mpr q))) (tm_le _ _ _) b68_235) hX41_1
                            · skip
                              refine R_iload (pc := 165) dX9_findChains_165 rfl ?_
                              refine R_ifeq (pc := 167) 198 dX9_findChains_167 (by decide) (fun _ => ?_) (fun h => absurd (by decide) h)
                              refine inc_11_6_1_i (pc := 198) dX9_findChains_198 ?_
                              have r248 : inR ((nI j41) + 1) 1 20 := inR_add (show inR (nI j41) 0 19 from hrg41) (show inR 1 1 1 from (inR_self _)) (by decide) (by decide)
                              have e249 := ti_add (l := 1) (h := 20) (show inR (nI j41) 0 19 from hrg41) (show inR 1 1 1 from (inR_self _)) (by decide) (by decide)
                              refine R_goto (pc := 201) 41 dX9_findChains_201 (by decide) ?_
                              rw [nI_1]
                              exact ih41 (j41 + 1) _ _ _ _ _ (by omega) (by omega) hI41 hC41 (lb_nof hX41_0 (tm_next (by omega) b35_174) (Nat.lt_of_not_le (fun q => b45_178 ((nI_leI (by omega) (by omega)).mpr q))) (tm_le _ _ _) b68_235) hX41_1
                          · skip
                            refine R_aload_n (pc := 118) dX9_findChains_118 rfl rfl ?_
                            refine R_iload (pc := 119) dX9_findChains_119 rfl ?_
                            have hx250 : vp_in (nI j31) 20 := (vp_in_nI (by omega) (by decide))
                            refine R_iaload (pc := 121) dX9_findChains_121 (c_152 _) hx250 ?_
                            refine R_goto (pc := 122) 129 dX9_findChains_122 (by decide) ?_
                            refine st_11_8_i_i (pc := 129) dX9_findChains_129 ?_
                            refine R_aload_n (pc := 131) dX9_findChains_131 rfl rfl ?_
                            refine R_iload (pc := 132) dX9_findChains_132 rfl ?_
                            have hx251 : vp_in (nI j31) 20 := (vp_in_nI (by omega) (by decide))
                            refine R_iaload (pc := 134) dX9_findChains_134 (c_152 _) hx251 ?_
                            refine R_aload_n (pc := 135) dX9_findChains_135 rfl rfl ?_
                            refine R_iload (pc := 136) dX9_findChains_136 rfl ?_
                            have hx252 : vp_in (nI j41) 20 := (vp_in_nI (by omega) (by decide))
                            refine R_iaload (pc := 138) dX9_findChains_138 (c_152 _) hx252 ?_
                            refine R_icge (pc := 139) 149 dX9_findChains_139 (by decide) (fun h => absurd h b115_238) (fun _ => ?_)
                            refine R_aload_n (pc := 142) dX9_findChains_142 rfl rfl ?_
                            refine R_iload (pc := 143) dX9_findChains_143 rfl ?_
                            have hx254 : vp_in (nI j41) 20 := (vp_in_nI (by omega) (by decide))
                            refine R_iaload (pc := 145) dX9_findChains_145 (c_152 _) hx254 ?_
                            refine R_goto (pc := 146) 153 dX9_findChains_146 (by decide) ?_
                            refine st_11_9_i_i (pc := 153) dX9_findChains_153 ?_
                            refine R_iconst (pc := 155) (v := 0) dX9_findChains_155 (by decide) ?_
                            refine st_11_10_i_i (pc := 156) dX9_findChains_156 ?_
                            refine R_iload (pc := 158) dX9_findChains_158 rfl ?_
                            refine R_iload (pc := 160) dX9_findChains_160 rfl ?_
                            refine R_icge (pc := 162) 198 dX9_findChains_162 (by decide) (fun b162_255 => ?_) (fun b162_255 => ?_)
                            · skip
                              refine inc_11_6_1_i (pc := 198) dX9_findChains_198 ?_
                              have r256 : inR ((nI j41) + 1) 1 20 := inR_add (show inR (nI j41) 0 19 from hrg41) (show inR 1 1 1 from (inR_self _)) (by decide) (by decide)
                              have e257 := ti_add (l := 1) (h := 20) (show inR (nI j41) 0 19 from hrg41) (show inR 1 1 1 from (inR_self _)) (by decide) (by decide)
                              refine R_goto (pc := 201) 41 dX9_findChains_201 (by decide) ?_
                              rw [nI_1]
                              exact ih41 (j41 + 1) _ _ _ _ _ (by omega) (by omega) hI41 hC41 (lb_nof hX41_0 (tm_next (by omega) b35_174) (Nat.lt_of_not_le (fun q => b45_178 ((nI_leI (by omega) (by omega)).mpr q))) (tm_le _ _ _) b68_235) hX41_1
                            · skip
                              refine R_iload (pc := 165) dX9_findChains_165 rfl ?_
                              refine R_ifeq (pc := 167) 198 dX9_findChains_167 (by decide) (fun _ => ?_) (fun h => absurd (by decide) h)
                              refine inc_11_6_1_i (pc := 198) dX9_findChains_198 ?_
                              have r259 : inR ((nI j41) + 1) 1 20 := inR_add (show inR (nI j41) 0 19 from hrg41) (show inR 1 1 1 from (inR_self _)) (by decide) (by decide)
                              have e260 := ti_add (l := 1) (h := 20) (show inR (nI j41) 0 19 from hrg41) (show inR 1 1 1 from (inR_self _)) (by decide) (by decide)
                              refine R_goto (pc := 201) 41 dX9_findChains_201 (by decide) ?_
                              rw [nI_1]
                              exact ih41 (j41 + 1) _ _ _ _ _ (by omega) (by omega) hI41 hC41 (lb_nof hX41_0 (tm_next (by omega) b35_174) (Nat.lt_of_not_le (fun q => b45_178 ((nI_leI (by omega) (by omega)).mpr q))) (tm_le _ _ _) b68_235) hX41_1
                        · skip
                          refine R_iload_n (pc := 71) dX9_findChains_71 rfl rfl ?_
                          refine R_ifeq (pc := 72) 89 dX9_findChains_72 (by decide) (fun _ => ?_) (fun h => absurd (by decide) h)
                          refine R_aload_n (pc := 89) dX9_findChains_89 rfl rfl ?_
                          refine R_iload (pc := 90) dX9_findChains_90 rfl ?_
                          refine R_iload (pc := 92) dX9_findChains_92 rfl ?_
                          refine k_X9_155 (pc := 94) (ge_X9_isLike _ _ _ hI41 hrg31 hrg41) rfl (c_140 _) (by decide) (Nat.le_refl _) (Nat.le_refl _) (Nat.le_of_ble_eq_true rfl) dX9_findChains_94 (fun x w2 h => ?_)
                          rcases h with ⟨rfl, ⟨h262, rfl⟩ | ⟨h262, rfl⟩⟩
                          · skip
                            refine R_ifeq (pc := 97) 104 dX9_findChains_97 (by decide) (fun h => absurd h (by decide)) (fun _ => ?_)
                            refine R_iconst (pc := 100) (v := 1) dX9_findChains_100 (by decide) ?_
                            refine R_goto (pc := 101) 105 dX9_findChains_101 (by decide) ?_
                            refine st_11_7_i_i (pc := 105) dX9_findChains_105 ?_
                            refine R_aload_n (pc := 107) dX9_findChains_107 rfl rfl ?_
                            refine R_iload (pc := 108) dX9_findChains_108 rfl ?_
                            have hx264 : vp_in (nI j31) 20 := (vp_in_nI (by omega) (by decide))
                            refine R_iaload (pc := 110) dX9_findChains_110 (c_152 _) hx264 ?_
                            refine R_aload_n (pc := 111) dX9_findChains_111 rfl rfl ?_
                            refine R_iload (pc := 112) dX9_findChains_112 rfl ?_
                            have hx265 : vp_in (nI j41) 20 := (vp_in_nI (by omega) (by decide))
                            refine R_iaload (pc := 114) dX9_findChains_114 (c_152 _) hx265 ?_
                            refine R_icge (pc := 115) 125 dX9_findChains_115 (by decide) (fun b115_266 => ?_) (fun b115_266 => ?_)
                            · skip
                              refine R_aload_n (pc := 125) dX9_findChains_125 rfl rfl ?_
                              refine R_iload (pc := 126) dX9_findChains_126 rfl ?_
                              have hx267 : vp_in (nI j41) 20 := (vp_in_nI (by omega) (by decide))
                              refine R_iaload (pc := 128) dX9_findChains_128 (c_152 _) hx267 ?_
                              refine st_11_8_i_i (pc := 129) dX9_findChains_129 ?_
                              refine R_aload_n (pc := 131) dX9_findChains_131 rfl rfl ?_
                              refine R_iload (pc := 132) dX9_findChains_132 rfl ?_
                              have hx268 : vp_in (nI j31) 20 := (vp_in_nI (by omega) (by decide))
                              refine R_iaload (pc := 134) dX9_findChains_134 (c_152 _) hx268 ?_
                              refine R_aload_n (pc := 135) dX9_findChains_135 rfl rfl ?_
                              refine R_iload (pc := 136) dX9_findChains_136 rfl ?_
                              have hx269 : vp_in (nI j41) 20 := (vp_in_nI (by omega) (by decide))
                              refine R_iaload (pc := 138) dX9_findChains_138 (c_152 _) hx269 ?_
                              refine R_icge (pc := 139) 149 dX9_findChains_139 (by decide) (fun _ => ?_) (fun h => absurd b115_266 h)
                              refine R_aload_n (pc := 149) dX9_findChains_149 rfl rfl ?_
                              refine R_iload (pc := 150) dX9_findChains_150 rfl ?_
                              have hx271 : vp_in (nI j31) 20 := (vp_in_nI (by omega) (by decide))
                              refine R_iaload (pc := 152) dX9_findChains_152 (c_152 _) hx271 ?_
                              refine st_11_9_i_i (pc := 153) dX9_findChains_153 ?_
                              refine R_iconst (pc := 155) (v := 0) dX9_findChains_155 (by decide) ?_
                              refine st_11_10_i_i (pc := 156) dX9_findChains_156 ?_
                              have HL158 : ∀ (q j158 : Nat) (σ158 : Sg), j158 + q = 20 → 0 ≤ j158 → Inv σ158 → Cor σ σ158 → MG (σ41.2.2.1 152) (σ41.2.2.1 152 (Int32.toNatClampNeg (nI j41))) (σ41.2.2.1 152 (Int32.toNatClampNeg (nI j31))) j158 (σ158.2.2.1 152) → Fq fq2 σ σ158 → j158 ≤ (tm (σ.1 14000) (σ.1 14013) (σ.2.2.1 148)) → R G l yX9_findChains cX9_findChains 11 none 3 0 0 (QV (fun w2 => ∃ σ2, w2 = WW σ2 ∧ Inv σ2 ∧ Cor σ σ2 ∧ Fq fq2 σ σ2 ∧ ∀ x : Nat, x < (tm (σ.1 14000) (σ.1 14013) (σ.2.2.1 148)) → ¬ nI x = u → σ2.2.2.1 152 x = nI (lab (fun a b => lkM σ (nI a) (nI b)) (fun i => decide (i < (tm (σ.1 14000) (σ.1 14013) (σ.2.2.1 148))) && !decide (nI i = u)) x))) 158 [(some (.ref 140)), (some (.ref 152)), (some (.int 0)), (some (.int u)), (some (.int (nI (tm (σ.1 14000) (σ.1 14013) (σ.2.2.1 148))))), (some (.int (nI j31))), (some (.int (nI j41))), (some (.int 1)), (some (.int (σ41.2.2.1 152 (Int32.toNatClampNeg (nI j41))))), (some (.int (σ41.2.2.1 152 (Int32.toNatClampNeg (nI j31))))), (some (.int (nI j158)))] [] (WW σ158) 0 0 := by
                                intro q
                                induction q with
                                | zero =>
                                  intro j158 σ158 hj hs158 hI158 hC158 hX158_0 hX158_1 hX158_2
                                  obtain rfl : j158 = 20 := by omega
                                  refine R_iload (pc := 158) dX9_findChains_158 rfl ?_
                                  refine R_iload (pc := 160) dX9_findChains_160 rfl ?_
                                  refine R_icge (pc := 162) 198 dX9_findChains_162 (by decide) (fun _ => ?_) (fun h => absurd (Int32.not_lt.mp (inR_up (tm_in (σ.1 14000) (σ.1 14013) (σ.2.2.1 148)) (Int32.le_refl _) (by decide)).2) h)
                                  refine inc_11_6_1_i (pc := 198) dX9_findChains_198 ?_
                                  have r273 : inR ((nI j41) + 1) 1 20 := inR_add (show inR (nI j41) 0 19 from hrg41) (show inR 1 1 1 from (inR_self _)) (by decide) (by decide)
                                  have e274 := ti_add (l := 1) (h := 20) (show inR (nI j41) 0 19 from hrg41) (show inR 1 1 1 from (inR_self _)) (by decide) (by decide)
                                  refine R_goto (pc := 201) 41 dX9_findChains_201 (by decide) ?_
                                  rw [nI_1]
                                  exact ih41 (j41 + 1) _ _ _ _ _ (by omega) (by omega) hI158 hC158 (lb_ge hX41_0 (tm_next (by omega) b35_174) (Nat.lt_of_not_le (fun q => b45_178 ((nI_leI (by omega) (by omega)).mpr q))) (tm_le _ _ _) b51_181 b57_207 b68_235 ((lkM_fq hX41_1 rfl _ _).symm.trans h262) hS (Int32.not_lt.mpr b115_266) (by have q := hX158_0; rw [(show 20 = (tm (σ.1 14000) (σ.1 14013) (σ.2.2.1 148)) from by first | exact tm_exit (by omega) hX158_2 (by assumption) | exact tm_ex20 hX158_2)] at q; exact q)) hX158_1
                                | succ q ih158 =>
                                  intro j158 σ158 hj hs158 hI158 hC158 hX158_0 hX158_1 hX158_2
                                  have hrg158 : inR (nI j158) 0 19 := inR_ix hs158 (show j158 < 20 by omega) (by decide) (by decide) (by decide)
                                  have hlt158 : j158 < 20 := by omega
                                  refine R_iload (pc := 158) dX9_findChains_158 rfl ?_
                                  refine R_iload (pc := 160) dX9_findChains_160 rfl ?_
                                  refine R_icge (pc := 162) 198 dX9_findChains_162 (by decide) (fun b162_275 => ?_) (fun b162_275 => ?_)
                                  · skip
                                    refine inc_11_6_1_i (pc := 198) dX9_findChains_198 ?_
                                    have r276 : inR ((nI j41) + 1) 1 20 := inR_add (show inR (nI j41) 0 19 from hrg41) (show inR 1 1 1 from (inR_self _)) (by decide) (by decide)
                                    have e277 := ti_add (l := 1) (h := 20) (show inR (nI j41) 0 19 from hrg41) (show inR 1 1 1 from (inR_self _)) (by decide) (by decide)
                                    refine R_goto (pc := 201) 41 dX9_findChains_201 (by decide) ?_
                                    rw [nI_1]
                                    exact ih41 (j41 + 1) _ _ _ _ _ (by omega) (by omega) hI158 hC158 (lb_ge hX41_0 (tm_next (by omega) b35_174) (Nat.lt_of_not_le (fun q => b45_178 ((nI_leI (by omega) (by omega)).mpr q))) (tm_le _ _ _) b51_181 b57_207 b68_235 ((lkM_fq hX41_1 rfl _ _).symm.trans h262) hS (Int32.not_lt.mpr b115_266) (by have q := hX158_0; rw [(show j158 = (tm (σ.1 14000) (σ.1 14013) (σ.2.2.1 148)) from by first | exact tm_exit (by omega) hX158_2 (by assumption) | exact tm_ex20 hX158_2)] at q; exact q)) hX158_1
                                  · skip
                                    refine R_iload (pc := 165) dX9_findChains_165 rfl ?_
                                    refine R_ifeq (pc := 167) 198 dX9_findChains_167 (by decide) (fun h => absurd h (by decide)) (fun _ => ?_)
                                    refine R_aload_n (pc := 170) dX9_findChains_170 rfl rfl ?_
                                    refine R_iload (pc := 171) dX9_findChains_171 rfl ?_
                                    refine R_aload_n (pc := 173) dX9_findChains_173 rfl rfl ?_
                                    refine R_iload (pc := 174) dX9_findChains_174 rfl ?_
                                    have hx279 : vp_in (nI j158) 20 := (vp_in_nI (by omega) (by decide))
                                    refine R_iaload (pc := 176) dX9_findChains_176 (c_152 _) hx279 ?_
                                    refine R_iload (pc := 177) dX9_findChains_177 rfl ?_
                                    refine R_icne (pc := 179) 187 dX9_findChains_179 (by decide) (fun b179_280 => ?_) (fun b179_280 => ?_)
                                    · skip
                                      refine R_aload_n (pc := 187) dX9_findChains_187 rfl rfl ?_
                                      refine R_iload (pc := 188) dX9_findChains_188 rfl ?_
                                      have hx281 : vp_in (nI j158) 20 := (vp_in_nI (by omega) (by decide))
                                      refine R_iaload (pc := 190) dX9_findChains_190 (c_152 _) hx281 ?_
                                      have hx282 : vp_in (nI j158) 20 := (vp_in_nI (by omega) (by decide))
                                      refine W_iastore (pc := 191) dX9_findChains_191 (c_152 _) hx282 (a_152 _ _) ?_
                                      have hV283 := sa_152 hI158 (Int32.toNatClampNeg (nI j158)) (iva_152 hI158 _ (lt_of_vp hx279))
                                      have hW284 := cor_sa 152 (upd (σ158.2.2.1 152) (Int32.toNatClampNeg (nI j158)) (σ158.2.2.1 152 (Int32.toNatClampNeg (nI j158)))) hC158 rfl
                                      refine inc_11_10_1_i (pc := 192) dX9_findChains_192 ?_
                                      have r285 : inR ((nI j158) + 1) 1 20 := inR_add (show inR (nI j158) 0 19 from hrg158) (show inR 1 1 1 from (inR_self _)) (by decide) (by decide)
                                      have e286 := ti_add (l := 1) (h := 20) (show inR (nI j158) 0 19 from hrg158) (show inR 1 1 1 from (inR_self _)) (by decide) (by decide)
                                      refine R_goto (pc := 195) 158 dX9_findChains_195 (by decide) ?_
                                      rw [nI_1]
                                      exact ih158 (j158 + 1) _ (by omega) (by omega) hV283 hW284 (mg_f (by omega) hX158_0 b179_280) (fq_a 152 _ hX158_1 rfl) (tm_next (by omega) b162_275)
                                    · skip
                                      refine R_iload (pc := 182) dX9_findChains_182 rfl ?_
                                      refine R_goto (pc := 184) 191 dX9_findChains_184 (by decide) ?_
                                      have hx287 : vp_in (nI j158) 20 := (vp_in_nI (by omega) (by decide))
                                      refine W_iastore (pc := 191) dX9_findChains_191 (c_152 _) hx287 (a_152 _ _) ?_
                                      have hV288 := sa_152 hI158 (Int32.toNatClampNeg (nI j158)) (iva_152 hI41 _ (lt_of_vp hx234))
                                      have hW289 := cor_sa 152 (upd (σ158.2.2.1 152) (Int32.toNatClampNeg (nI j158)) (σ41.2.2.1 152 (Int32.toNatClampNeg (nI j41)))) hC158 rfl
                                      refine inc_11_10_1_i (pc := 192) dX9_findChains_192 ?_
                                      have r290 : inR ((nI j158) + 1) 1 20 := inR_add (show inR (nI j158) 0 19 from hrg158) (show inR 1 1 1 from (inR_self _)) (by decide) (by decide)
                                      have e291 := ti_add (l := 1) (h := 20) (show inR (nI j158) 0 19 from hrg158) (show inR 1 1 1 from (inR_self _)) (by decide) (by decide)
                                      refine R_goto (pc := 195) 158 dX9_findChains_195 (by decide) ?_
                                      rw [nI_1]
                                      exact ih158 (j158 + 1) _ (by omega) (by omega) hV288 hW289 (mg_t (by omega) hX158_0 b179_280) (fq_a 152 _ hX158_1 rfl) (tm_next (by omega) b162_275)
                              exact HL158 20 0 _ (by omega) (by omega) hI41 hC41 mg_0 hX41_1 (Nat.zero_le _)
                            · skip
                              refine R_aload_n (pc := 118) dX9_findChains_118 rfl rfl ?_
                              refine R_iload (pc := 119) dX9_findChains_119 rfl ?_
                              have hx292 : vp_in (nI j31) 20 := (vp_in_nI (by omega) (by decide))
                              refine R_iaload (pc := 121) dX9_findChains_121 (c_152 _) hx292 ?_
                              refine R_goto (pc := 122) 129 dX9_findChains_122 (by decide) ?_
                              refine st_11_8_i_i (pc := 129) dX9_findChains_129 ?_
                              refine R_aload_n (pc := 131) dX9_findChains_131 rfl rfl ?_
                              refine R_iload (pc := 132) dX9_findChains_132 rfl ?_
                              have hx293 : vp_in (nI j31) 20 := (vp_in_nI (by omega) (by decide))
                              refine R_iaload (pc := 134) dX9_findChains_134 (c_152 _) hx293 ?_
                              refine R_aload_n (pc := 135) dX9_findChains_135 rfl rfl ?_
                              refine R_iload (pc := 136) dX9_findChains_136 rfl ?_
                              have hx294 : vp_in (nI j41) 20 := (vp_in_nI (by omega) (by decide))
                              refine R_iaload (pc := 138) dX9_findChains_138 (c_152 _) hx294 ?_
                              refine R_icge (pc := 139) 149 dX9_findChains_139 (by decide) (fun h => absurd h b115_266) (fun _ => ?_)
                              refine R_aload_n (pc := 142) dX9_findChains_142 rfl rfl ?_
                              refine R_iload (pc := 143) dX9_findChains_143 rfl ?_
                              have hx296 : vp_in (nI j41) 20 := (vp_in_nI (by omega) (by decide))
                              refine R_iaload (pc := 145) dX9_findChains_145 (c_152 _) hx296 ?_
                              refine R_goto (pc := 146) 153 dX9_findChains_146 (by decide) ?_
                              refine st_11_9_i_i (pc := 153) dX9_findChains_153 ?_
                              refine R_iconst (pc := 155) (v := 0) dX9_findChains_155 (by decide) ?_
                              refine st_11_10_i_i (pc := 156) dX9_findChains_156 ?_
                              have HL158 : ∀ (q j158 : Nat) (σ158 : Sg), j158 + q = 20 → 0 ≤ j158 → Inv σ158 → Cor σ σ158 → MG (σ41.2.2.1 152) (σ41.2.2.1 152 (Int32.toNatClampNeg (nI j31))) (σ41.2.2.1 152 (Int32.toNatClampNeg (nI j41))) j158 (σ158.2.2.1 152) → Fq fq2 σ σ158 → j158 ≤ (tm (σ.1 14000) (σ.1 14013) (σ.2.2.1 148)) → R G l yX9_findChains cX9_findChains 11 none 3 0 0 (QV (fun w2 => ∃ σ2, w2 = WW σ2 ∧ Inv σ2 ∧ Cor σ σ2 ∧ Fq fq2 σ σ2 ∧ ∀ x : Nat, x < (tm (σ.1 14000) (σ.1 14013) (σ.2.2.1 148)) → ¬ nI x = u → σ2.2.2.1 152 x = nI (lab (fun a b => lkM σ (nI a) (nI b)) (fun i => decide (i < (tm (σ.1 14000) (σ.1 14013) (σ.2.2.1 148))) && !decide (nI i = u)) x))) 158 [(some (.ref 140)), (some (.ref 152)), (some (.int 0)), (some (.int u)), (some (.int (nI (tm (σ.1 14000) (σ.1 14013) (σ.2.2.1 148))))), (some (.int (nI j31))), (some (.int (nI j41))), (some (.int 1)), (some (.int (σ41.2.2.1 152 (Int32.toNatClampNeg (nI j31))))), (some (.int (σ41.2.2.1 152 (Int32.toNatClampNeg (nI j41))))), (some (.int (nI j158)))] [] (WW σ158) 0 0 := by
                                intro q
                                induction q with
                                | zero =>
                                  intro j158 σ158 hj hs158 hI158 hC158 hX158_0 hX158_1 hX158_2
                                  obtain rfl : j158 = 20 := by omega
                                  refine R_iload (pc := 158) dX9_findChains_158 rfl ?_
                                  refine R_iload (pc := 160) dX9_findChains_160 rfl ?_
                                  refine R_icge (pc := 162) 198 dX9_findChains_162 (by decide) (fun _ => ?_) (fun h => absurd (Int32.not_lt.mp (inR_up (tm_in (σ.1 14000) (σ.1 14013) (σ.2.2.1 148)) (Int32.le_refl _) (by decide)).2) h)
                                  refine inc_11_6_1_i (pc := 198) dX9_findChains_198 ?_
                                  have r298 : inR ((nI j41) + 1) 1 20 := inR_add (show inR (nI j41) 0 19 from hrg41) (show inR 1 1 1 from (inR_self _)) (by decide) (by decide)
                                  have e299 := ti_add (l := 1) (h := 20) (show inR (nI j41) 0 19 from hrg41) (show inR 1 1 1 from (inR_self _)) (by decide) (by decide)
                                  refine R_goto (pc := 201) 41 dX9_findChains_201 (by decide) ?_
                                  rw [nI_1]
                                  exact ih41 (j41 + 1) _ _ _ _ _ (by omega) (by omega) hI158 hC158 (lb_lt hX41_0 (tm_next (by omega) b35_174) (Nat.lt_of_not_le (fun q => b45_178 ((nI_leI (by omega) (by omega)).mpr q))) (tm_le _ _ _) b51_181 b57_207 b68_235 ((lkM_fq hX41_1 rfl _ _).symm.trans h262) hS (Int32.not_le.mp b115_266) (by have q := hX158_0; rw [(show 20 = (tm (σ.1 14000) (σ.1 14013) (σ.2.2.1 148)) from by first | exact tm_exit (by omega) hX158_2 (by assumption) | exact tm_ex20 hX158_2)] at q; exact q)) hX158_1
                                | succ q ih158 =>
                                  intro j158 σ158 hj hs158 hI158 hC158 hX158_0 hX158_1 hX158_2
                                  have hrg158 : inR (nI j158) 0 19 := inR_ix hs158 (show j158 < 20 by omega) (by decide) (by decide) (by decide)
                                  have hlt158 : j158 < 20 := by omega
                                  refine R_iload (pc := 158) dX9_findChains_158 rfl ?_
                                  refine R_iload (pc := 160) dX9_findChains_160 rfl ?_
                                  refine R_icge (pc := 162) 198 dX9_findChains_162 (by decide) (fun b162_300 => ?_) (fun b162_300 => ?_)
                                  · skip
                                    refine inc_11_6_1_i (pc := 198) dX9_findChains_198 ?_
                                    have r301 : inR ((nI j41) + 1) 1 20 := inR_add (show inR (nI j41) 0 19 from hrg41) (show inR 1 1 1 from (inR_self _)) (by decide) (by decide)
                                    have e302 := ti_add (l := 1) (h := 20) (show inR (nI j41) 0 19 from hrg41) (show inR 1 1 1 from (inR_self _)) (by decide) (by decide)
                                    refine R_goto (pc := 201) 41 dX9_findChains_201 (by decide) ?_
                                    rw [nI_1]
                                    exact ih41 (j41 + 1) _ _ _ _ _ (by omega) (by omega) hI158 hC158 (lb_lt hX41_0 (tm_next (by omega) b35_174) (Nat.lt_of_not_le (fun q => b45_178 ((nI_leI (by omega) (by omega)).mpr q))) (tm_le _ _ _) b51_181 b57_207 b68_235 ((lkM_fq hX41_1 rfl _ _).symm.trans h262) hS (Int32.not_le.mp b115_266) (by have q := hX158_0; rw [(show j158 = (tm (σ.1 14000) (σ.1 14013) (σ.2.2.1 148)) from by first | exact tm_exit (by omega) hX158_2 (by assumption) | exact tm_ex20 hX158_2)] at q; exact q)) hX158_1
                                  · skip
                                    refine R_iload (pc := 165) dX9_findChains_165 rfl ?_
                                    refine R_ifeq (pc := 167) 198 dX9_findChains_167 (by decide) (fun h => absurd h (by decide)) (fun _ => ?_)
                                    refine R_aload_n (pc := 170) dX9_findChains_170 rfl rfl ?_
                                    refine R_iload (pc := 171) dX9_findChains_171 rfl ?_
                                    refine R_aload_n (pc := 173) dX9_findChains_173 rfl rfl ?_
                                    refine R_iload (pc := 174) dX9_findChains_174 rfl ?_
                                    have hx304 : vp_in (nI j158) 20 := (vp_in_nI (by omega) (by decide))
                                    refine R_iaload (pc := 176) dX9_findChains_176 (c_152 _) hx304 ?_
                                    refine R_iload (pc := 177) dX9_findChains_177 rfl ?_
                                    refine R_icne (pc := 179) 187 dX9_findChains_179 (by decide) (fun b179_305 => ?_) (fun b179_305 => ?_)
                                    · skip
                                      refine R_aload_n (pc := 187) dX9_findChains_187 rfl rfl ?_
                                      refine R_iload (pc := 188) dX9_findChains_188 rfl ?_
                                      have hx306 : vp_in (nI j158) 20 := (vp_in_nI (by omega) (by decide))
                                      refine R_iaload (pc := 190) dX9_findChains_190 (c_152 _) hx306 ?_
                                      have hx307 : vp_in (nI j158) 20 := (vp_in_nI (by omega) (by decide))
                                      refine W_iastore (pc := 191) dX9_findChains_191 (c_152 _) hx307 (a_152 _ _) ?_
                                      have hV308 := sa_152 hI158 (Int32.toNatClampNeg (nI j158)) (iva_152 hI158 _ (lt_of_vp hx304))
                                      have hW309 := cor_sa 152 (upd (σ158.2.2.1 152) (Int32.toNatClampNeg (nI j158)) (σ158.2.2.1 152 (Int32.toNatClampNeg (nI j158)))) hC158 rfl
                                      refine inc_11_10_1_i (pc := 192) dX9_findChains_192 ?_
                                      have r310 : inR ((nI j158) + 1) 1 20 := inR_add (show inR (nI j158) 0 19 from hrg158) (show inR 1 1 1 from (inR_self _)) (by decide) (by decide)
                                      have e311 := ti_add (l := 1) (h := 20) (show inR (nI j158) 0 19 from hrg158) (show inR 1 1 1 from (inR_self _)) (by decide) (by decide)
                                      refine R_goto (pc := 195) 158 dX9_findChains_195 (by decide) ?_
                                      rw [nI_1]
                                      exact ih158 (j158 + 1) _ (by omega) (by omega) hV308 hW309 (mg_f (by omega) hX158_0 b179_305) (fq_a 152 _ hX158_1 rfl) (tm_next (by omega) b162_300)
                                    · skip
                                      refine R_iload (pc := 182) dX9_findChains_182 rfl ?_
                                      refine R_goto (pc := 184) 191 dX9_findChains_184 (by decide) ?_
                                      have hx312 : vp_in (nI j158) 20 := (vp_in_nI (by omega) (by decide))
                                      refine W_iastore (pc := 191) dX9_findChains_191 (c_152 _) hx312 (a_152 _ _) ?_
                                      have hV313 := sa_152 hI158 (Int32.toNatClampNeg (nI j158)) (iva_152 hI41 _ (lt_of_vp hx233))
                                      have hW314 := cor_sa 152 (upd (σ158.2.2.1 152) (Int32.toNatClampNeg (nI j158)) (σ41.2.2.1 152 (Int32.toNatClampNeg (nI j31)))) hC158 rfl
                                      refine inc_11_10_1_i (pc := 192) dX9_findChains_192 ?_
                                      have r315 : inR ((nI j158) + 1) 1 20 := inR_add (show inR (nI j158) 0 19 from hrg158) (show inR 1 1 1 from (inR_self _)) (by decide) (by decide)
                                      have e316 := ti_add (l := 1) (h := 20) (show inR (nI j158) 0 19 from hrg158) (show inR 1 1 1 from (inR_self _)) (by decide) (by decide)
                                      refine R_goto (pc := 195) 158 dX9_findChains_195 (by decide) ?_
                                      rw [nI_1]
                                      exact ih158 (j158 + 1) _ (by omega) (by omega) hV313 hW314 (mg_t (by omega) hX158_0 b179_305) (fq_a 152 _ hX158_1 rfl) (tm_next (by omega) b162_300)
                              exact HL158 20 0 _ (by omega) (by omega) hI41 hC41 mg_0 hX41_1 (Nat.zero_le _)
                          · skip
                            refine R_ifeq (pc := 97) 104 dX9_findChains_97 (by decide) (fun _ => ?_) (fun h => absurd (by decide) h)
                            refine R_iconst (pc := 104) (v := 0) dX9_findChains_104 (by decide) ?_
                            refine st_11_7_i_i (pc := 105) dX9_findChains_105 ?_
                            refine R_aload_n (pc := 107) dX9_findChains_107 rfl rfl ?_
                            refine R_iload (pc := 108) dX9_findChains_108 rfl ?_
                            have hx318 : vp_in (nI j31) 20 := (vp_in_nI (by omega) (by decide))
                            refine R_iaload (pc := 110) dX9_findChains_110 (c_152 _) hx318 ?_
                            refine R_aload_n (pc := 111) dX9_findChains_111 rfl rfl ?_
                            refine R_iload (pc := 112) dX9_findChains_112 rfl ?_
                            have hx319 : vp_in (nI j41) 20 := (vp_in_nI (by omega) (by decide))
                            refine R_iaload (pc := 114) dX9_findChains_114 (c_152 _) hx319 ?_
                            refine R_icge (pc := 115) 125 dX9_findChains_115 (by decide) (fun b115_320 => ?_) (fun b115_320 => ?_)
                            · skip
                              refine R_aload_n (pc := 125) dX9_findChains_125 rfl rfl ?_
                              refine R_iload (pc := 126) dX9_findChains_126 rfl ?_
                              have hx321 : vp_in (nI j41) 20 := (vp_in_nI (by omega) (by decide))
                              refine R_iaload (pc := 128) dX9_findChains_128 (c_152 _) hx321 ?_
                              refine st_11_8_i_i (pc := 129) dX9_findChains_129 ?_
                              refine R_aload_n (pc := 131) dX9_findChains_131 rfl rfl ?_
                              refine R_iload (pc := 132) dX9_findChains_132 rfl ?_
                              have hx322 : vp_in (nI j31) 20 := (vp_in_nI (by omega) (by decide))
                              refine R_iaload (pc := 134) dX9_findChains_134 (c_152 _) hx322 ?_
                              refine R_aload_n (pc := 135) dX9_findChains_135 rfl rfl ?_
                              refine R_iload (pc := 136) dX9_findChains_136 rfl ?_
                              have hx323 : vp_in (nI j41) 20 := (vp_in_nI (by omega) (by decide))
                              refine R_iaload (pc := 138) dX9_findChains_138 (c_152 _) hx323 ?_
                              refine R_icge (pc := 139) 149 dX9_findChains_139 (by decide) (fun _ => ?_) (fun h => absurd b115_320 h)
                              refine R_aload_n (pc := 149) dX9_findChains_149 rfl rfl ?_
                              refine R_iload (pc := 150) dX9_findChains_150 rfl ?_
                              have hx325 : vp_in (nI j31) 20 := (vp_in_nI (by omega) (by decide))
                              refine R_iaload (pc := 152) dX9_findChains_152 (c_152 _) hx325 ?_
                              refine st_11_9_i_i (pc := 153) dX9_findChains_153 ?_
                              refine R_iconst (pc := 155) (v := 0) dX9_findChains_155 (by decide) ?_
                              refine st_11_10_i_i (pc := 156) dX9_findChains_156 ?_
                              refine R_iload (pc := 158) dX9_findChains_158 rfl ?_
                              refine R_iload (pc := 160) dX9_findChains_160 rfl ?_
                              refine R_icge (pc := 162) 198 dX9_findChains_162 (by decide) (fun b162_326 => ?_) (fun b162_326 => ?_)
                              · skip
                                refine inc_11_6_1_i (pc := 198) dX9_findChains_198 ?_
                                have r327 : inR ((nI j41) + 1) 1 20 := inR_add (show inR (nI j41) 0 19 from hrg41) (show inR 1 1 1 from (inR_self _)) (by decide) (by decide)
                                have e328 := ti_add (l := 1) (h := 20) (show inR (nI j41) 0 19 from hrg41) (show inR 1 1 1 from (inR_self _)) (by decide) (by decide)
                                refine R_goto (pc := 201) 41 dX9_findChains_201 (by decide) ?_
                                rw [nI_1]
                                exact ih41 (j41 + 1) _ _ _ _ _ (by omega) (by omega) hI41 hC41 (lb_no hX41_0 (tm_next (by omega) b35_174) (Nat.lt_of_not_le (fun q => b45_178 ((nI_leI (by omega) (by omega)).mpr q))) (tm_le _ _ _) (Or.inr (Or.inr (Or.inr ((lkM_fq hX41_1 rfl _ _).symm.trans h262))))) hX41_1
                              · skip
                                refine R_iload (pc := 165) dX9_findChains_165 rfl ?_
                                refine R_ifeq (pc := 167) 198 dX9_findChains_167 (by decide) (fun _ => ?_) (fun h => absurd (by decide) h)
                                refine inc_11_6_1_i (pc := 198) dX9_findChains_198 ?_
                                have r330 : inR ((nI j41) + 1) 1 20 := inR_add (show inR (nI j41) 0 19 from hrg41) (show inR 1 1 1 from (inR_self _)) (by decide) (by decide)
                                have e331 := ti_add (l := 1) (h := 20) (show inR (nI j41) 0 19 from hrg41) (show inR 1 1 1 from (inR_self _)) (by decide) (by decide)
                                refine R_goto (pc := 201) 41 dX9_findChains_201 (by decide) ?_
                                rw [nI_1]
                                exact ih41 (j41 + 1) _ _ _ _ _ (by omega) (by omega) hI41 hC41 (lb_no hX41_0 (tm_next (by omega) b35_174) (Nat.lt_of_not_le (fun q => b45_178 ((nI_leI (by omega) (by omega)).mpr q))) (tm_le _ _ _) (Or.inr (Or.inr (Or.inr ((lkM_fq hX41_1 rfl _ _).symm.trans h262))))) hX41_1
                            · skip
                              refine R_aload_n (pc := 118) dX9_findChains_118 rfl rfl ?_
                              refine R_iload (pc := 119) dX9_findChains_119 rfl ?_
                              have hx332 : vp_in (nI j31) 20 := (vp_in_nI (by omega) (by decide))
                              refine R_iaload (pc := 121) dX9_findChains_121 (c_152 _) hx332 ?_
                              refine R_goto (pc := 122) 129 dX9_findChains_122 (by decide) ?_
                              refine st_11_8_i_i (pc := 129) dX9_findChains_129 ?_
                              refine R_aload_n (pc := 131) dX9_findChains_131 rfl rfl ?_
                              refine R_iload (pc := 132) dX9_findChains_132 rfl ?_
                              have hx333 : vp_in (nI j31) 20 := (vp_in_nI (by omega) (by decide))
                              refine R_iaload (pc := 134) dX9_findChains_134 (c_152 _) hx333 ?_
                              refine R_aload_n (pc := 135) dX9_findChains_135 rfl rfl ?_
                              refine R_iload (pc := 136) dX9_findChains_136 rfl ?_
                              have hx334 : vp_in (nI j41) 20 := (vp_in_nI (by omega) (by decide))
                              refine R_iaload (pc := 138) dX9_findChains_138 (c_152 _) hx334 ?_
                              refine R_icge (pc := 139) 149 dX9_findChains_139 (by decide) (fun h => absurd h b115_320) (fun _ => ?_)
                              refine R_aload_n (pc := 142) dX9_findChains_142 rfl rfl ?_
                              refine R_iload (pc := 143) dX9_findChains_143 rfl ?_
                              have hx336 : vp_in (nI j41) 20 := (vp_in_nI (by omega) (by decide))
                              refine R_iaload (pc := 145) dX9_findChains_145 (c_152 _) hx336 ?_
                              refine R_goto (pc := 146) 153 dX9_findChains_146 (by decide) ?_
                              refine st_11_9_i_i (pc := 153) dX9_findChains_153 ?_
                              refine R_iconst (pc := 155) (v := 0) dX9_findChains_155 (by decide) ?_
                              refine st_11_10_i_i (pc := 156) dX9_findChains_156 ?_
                              refine R_iload (pc := 158) dX9_findChains_158 rfl ?_
                              refine R_iload (pc := 160) dX9_findChains_160 rfl ?_
                              refine R_icge (pc := 162) 198 dX9_findChains_162 (by decide) (fun b162_337 => ?_) (fun b162_337 => ?_)
                              · skip
                                refine inc_11_6_1_i (pc := 198) dX9_findChains_198 ?_
                                have r338 : inR ((nI j41) + 1) 1 20 := inR_add (show inR (nI j41) 0 19 from hrg41) (show inR 1 1 1 from (inR_self _)) (by decide) (by decide)
                                have e339 := ti_add (l := 1) (h := 20) (show inR (nI j41) 0 19 from hrg41) (show inR 1 1 1 from (inR_self _)) (by decide) (by decide)
                                refine R_goto (pc := 201) 41 dX9_findChains_201 (by decide) ?_
                                rw [nI_1]
                                exact ih41 (j41 + 1) _ _ _ _ _ (by omega) (by omega) hI41 hC41 (lb_no hX41_0 (tm_next (by omega) b35_174) (Nat.lt_of_not_le (fun q => b45_178 ((nI_leI (by omega) (by omega)).mpr q))) (tm_le _ _ _) (Or.inr (Or.inr (Or.inr ((lkM_fq hX41_1 rfl _ _).symm.trans h262))))) hX41_1
                              · skip
                                refine R_iload (pc := 165) dX9_findChains_165 rfl ?_
                                refine R_ifeq (pc := 167) 198 dX9_findChains_167 (by decide) (fun _ => ?_) (fun h => absurd (by decide) h)
                                refine inc_11_6_1_i (pc := 198) dX9_findChains_198 ?_
                                have r341 : inR ((nI j41) + 1) 1 20 := inR_add (show inR (nI j41) 0 19 from hrg41) (show inR 1 1 1 from (inR_self _)) (by decide) (by decide)
                                have e342 := ti_add (l := 1) (h := 20) (show inR (nI j41) 0 19 from hrg41) (show inR 1 1 1 from (inR_self _)) (by decide) (by decide)
                                refine R_goto (pc := 201) 41 dX9_findChains_201 (by decide) ?_
                                rw [nI_1]
                                exact ih41 (j41 + 1) _ _ _ _ _ (by omega) (by omega) hI41 hC41 (lb_no hX41_0 (tm_next (by omega) b35_174) (Nat.lt_of_not_le (fun q => b45_178 ((nI_leI (by omega) (by omega)).mpr q))) (tm_le _ _ _) (Or.inr (Or.inr (Or.inr ((lkM_fq hX41_1 rfl _ _).symm.trans h262))))) hX41_1
              exact HL41 20 0 _ _ _ _ _ (by omega) (by omega) hI31 hC31 hX31_0 hX31_1
        exact HL31 20 0 _ _ _ _ _ _ (by omega) (by omega) hI9 hC9 (lb_0 (by have q := hX9_0; rw [(show j9 = (tm (σ.1 14000) (σ.1 14013) (σ.2.2.1 148)) from by first | exact tm_exit (by omega) hX9_2 (by assumption) | exact tm_ex20 hX9_2)] at q; exact q)) hX9_1 (Nat.zero_le _)
      · skip
        refine R_aload_n (pc := 16) dX9_findChains_16 rfl rfl ?_
        refine R_iload (pc := 17) dX9_findChains_17 rfl ?_
        refine R_iload (pc := 19) dX9_findChains_19 rfl ?_
        have hx343 : vp_in (nI j9) 20 := (vp_in_nI (by omega) (by decide))
        refine W_iastore (pc := 21) dX9_findChains_21 (c_152 _) hx343 (a_152 _ _) ?_
        have hV344 := sa_152 hI9 (Int32.toNatClampNeg (nI j9)) hrg9
        have hW345 := cor_sa 152 (upd (σ9.2.2.1 152) (Int32.toNatClampNeg (nI j9)) (nI j9)) hC9 rfl
        refine inc_11_5_1_i (pc := 22) dX9_findChains_22 ?_
        have r346 : inR ((nI j9) + 1) 1 20 := inR_add (show inR (nI j9) 0 19 from hrg9) (show inR 1 1 1 from (inR_self _)) (by decide) (by decide)
        have e347 := ti_add (l := 1) (h := 20) (show inR (nI j9) 0 19 from hrg9) (show inR 1 1 1 from (inR_self _)) (by decide) (by decide)
        refine R_goto (pc := 25) 9 dX9_findChains_25 (by decide) ?_
        rw [nI_1]
        exact ih9 (j9 + 1) _ (by omega) (by omega) hV344 hW345 (in_s (by omega) hX9_0) (fq_a 152 _ hX9_1 rfl) (tm_next (by omega) b13_172)
  exact HL9 20 0 _ (by omega) (by omega) hI (show Cor σ σ from Cor.rfl' σ) (fun x hx => absurd hx (Nat.not_lt_zero x)) (fq_rfl _ σ) (Nat.zero_le _)
set_option maxRecDepth 100000 in
set_option maxHeartbeats 40000000 in
theorem gn_X9_findChains_153 {G : vG} {l : Launch} (σ : Sg) (u : Int32) (hI : Inv σ) (hS : Sym (fun a b => mtM σ (nI a) (nI b)) (fun i => decide (i < (tm (σ.1 14000) (σ.1 14013) (σ.2.2.1 148))) && !decide (nI i = u))) : Sp G l yX9_findChains cX9_findChains 11 none 3 0 0 [.ref 140, .ref 153, .int 1, .int u] (WW σ) (QV (fun w2 => ∃ σ2, w2 = WW σ2 ∧ Inv σ2 ∧ Cor σ σ2 ∧ Fq fq3 σ σ2 ∧ ∀ x : Nat, x < (tm (σ.1 14000) (σ.1 14013) (σ.2.2.1 148)) → ¬ nI x = u → σ2.2.2.1 153 x = nI (lab (fun a b => mtM σ (nI a) (nI b)) (fun i => decide (i < (tm (σ.1 14000) (σ.1 14013) (σ.2.2.1 148))) && !decide (nI i = u)) x))) := by
  refine Sp_of_R [(some (.ref 140)), (some (.ref 153)), (some (.int 1)), (some (.int u)), none, none, none, none, none, none, none] [none, none, none, none, none, none, none] rfl (by simp) rfl (Nat.le_of_ble_eq_true rfl) ?_
  refine R_aload_n (pc := 0) dX9_findChains_0 rfl rfl ?_
  refine k_X9_120 (pc := 1) (ge_X9_thereMany _ hI) rfl (c_140 _) (by decide) (Nat.le_refl _) (Nat.le_refl _) (Nat.le_of_ble_eq_true rfl) dX9_findChains_1 (fun x w2 h => ?_)
  obtain ⟨rfl, rfl⟩ := h
  refine st_11_4_i_i (pc := 4) dX9_findChains_4 ?_
  refine R_iconst (pc := 6) (v := 0) dX9_findChains_6 (by decide) ?_
  refine st_11_5_i_i (pc := 7) dX9_findChains_7 ?_
  have HL9 : ∀ (q j9 : Nat) (σ9 : Sg), j9 + q = 20 → 0 ≤ j9 → Inv σ9 → Cor σ σ9 → (∀ x : Nat, x < j9 → σ9.2.2.1 153 x = nI x) → Fq fq3 σ σ9 → j9 ≤ (tm (σ.1 14000) (σ.1 14013) (σ.2.2.1 148)) → R G l yX9_findChains cX9_findChains 11 none 3 0 0 (QV (fun w2 => ∃ σ2, w2 = WW σ2 ∧ Inv σ2 ∧ Cor σ σ2 ∧ Fq fq3 σ σ2 ∧ ∀ x : Nat, x < (tm (σ.1 14000) (σ.1 14013) (σ.2.2.1 148)) → ¬ nI x = u → σ2.2.2.1 153 x = nI (lab (fun a b => mtM σ (nI a) (nI b)) (fun i => decide (i < (tm (σ.1 14000) (σ.1 14013) (σ.2.2.1 148))) && !decide (nI i = u)) x))) 9 [(some (.ref 140)), (some (.ref 153)), (some (.int 1)), (some (.int u)), (some (.int (nI (tm (σ.1 14000) (σ.1 14013) (σ.2.2.1 148))))), (some (.int (nI j9))), none, none, none, none, none] [] (WW σ9) 0 0 := by
    intro q
    induction q with
    | zero =>
      intro j9 σ9 hj hs9 hI9 hC9 hX9_0 hX9_1 hX9_2
      obtain rfl : j9 = 20 := by omega
      refine R_iload (pc := 9) dX9_findChains_9 rfl ?_
      refine R_iload (pc := 11) dX9_findChains_11 rfl ?_
      refine R_icge (pc := 13) 28 dX9_findChains_13 (by decide) (fun _ => ?_) (fun h => absurd (Int32.not_lt.mp (inR_up (tm_in (σ.1 14000) (σ.1 14013) (σ.2.2.1 148)) (Int32.le_refl _) (by decide)).2) h)
      refine R_iconst (pc := 28) (v := 0) dX9_findChains_28 (by decide) ?_
      refine st_11_5_i_i (pc := 29) dX9_findChains_29 ?_
      have HL31 : ∀ (q j31 : Nat) (σ31 : Sg) (g6_31 : Option Value) (g7_31 : Option Value) (g8_31 : Option Value) (g9_31 : Option Value) (g10_31 : Option Value), j31 + q = 20 → 0 ≤ j31 → Inv σ31 → Cor σ σ31 → LB (fun a b => mtM σ (nI a) (nI b)) (tm (σ.1 14000) (σ.1 14013) (σ.2.2.1 148)) u (σ31.2.2.1 153) j31 0 → Fq fq3 σ σ31 → j31 ≤ (tm (σ.1 14000) (σ.1 14013) (σ.2.2.1 148)) → R G l yX9_findChains cX9_findChains 11 none 3 0 0 (QV (fun w2 => ∃ σ2, w2 = WW σ2 ∧ Inv σ2 ∧ Cor σ σ2 ∧ Fq fq3 σ σ2 ∧ ∀ x : Nat, x < (tm (σ.1 14000) (σ.1 14013) (σ.2.2.1 148)) → ¬ nI x = u → σ2.2.2.1 153 x = nI (lab (fun a b => mtM σ (nI a) (nI b)) (fun i => decide (i < (tm (σ.1 14000) (σ.1 14013) (σ.2.2.1 148))) && !decide (nI i = u)) x))) 31 [(some (.ref 140)), (some (.ref 153)), (some (.int 1)), (some (.int u)), (some (.int (nI (tm (σ.1 14000) (σ.1 14013) (σ.2.2.1 148))))), (some (.int (nI j31))), g6_31, g7_31, g8_31, g9_31, g10_31] [] (WW σ31) 0 0 := by
        intro q
        induction q with
        | zero =>
          intro j31 σ31 g6_31 g7_31 g8_31 g9_31 g10_31 hj hs31 hI31 hC31 hX31_0 hX31_1 hX31_2
          obtain rfl : j31 = 20 := by omega
          refine R_iload (pc := 31) dX9_findChains_31 rfl ?_
          refine R_iload (pc := 33) dX9_findChains_33 rfl ?_
          refine R_icge (pc := 35) 210 dX9_findChains_35 (by decide) (fun _ => ?_) (fun h => absurd (Int32.not_lt.mp (inR_up (tm_in (σ.1 14000) (σ.1 14013) (σ.2.2.1 148)) (Int32.le_refl _) (by decide)).2) h)
          exact R_vret (pc := 210) dX9_findChains_210 rfl (Nat.zero_le _) (Nat.zero_le _) ⟨rfl, _, rfl, hI31, hC31, hX31_1, (lb_end (tm_le _ _ _) hS (by have q := hX31_0; rw [(show 20 = (tm (σ.1 14000) (σ.1 14013) (σ.2.2.1 148)) from by first | exact tm_exit (by omega) hX31_2 (by assumption) | exact tm_ex20 hX31_2)] at q; exact q))⟩
        | succ q ih31 =>
          intro j31 σ31 g6_31 g7_31 g8_31 g9_31 g10_31 hj hs31 hI31 hC31 hX31_0 hX31_1 hX31_2
          have hrg31 : inR (nI j31) 0 19 := inR_ix hs31 (show j31 < 20 by omega) (by decide) (by decide) (by decide)
          have hlt31 : j31 < 20 := by omega
          refine R_iload (pc := 31) dX9_findChains_31 rfl ?_
          refine R_iload (pc := 33) dX9_findChains_33 rfl ?_
          refine R_icge (pc := 35) 210 dX9_findChains_35 (by decide) (fun b35_3 => ?_) (fun b35_3 => ?_)
          · skip
            exact R_vret (pc := 210) dX9_findChains_210 rfl (Nat.zero_le _) (Nat.zero_le _) ⟨rfl, _, rfl, hI31, hC31, hX31_1, (lb_end (tm_le _ _ _) hS (by have q := hX31_0; rw [(show j31 = (tm (σ.1 14000) (σ.1 14013) (σ.2.2.1 148)) from by first | exact tm_exit (by omega) hX31_2 (by assumption) | exact tm_ex20 hX31_2)] at q; exact q))⟩
          · skip
            refine R_iconst (pc := 38) (v := 0) dX9_findChains_38 (by decide) ?_
            refine st_11_6_i_i (pc := 39) dX9_findChains_39 ?_
            have HL41 : ∀ (q j41 : Nat) (σ41 : Sg) (g7_41 : Option Value) (g8_41 : Option Value) (g9_41 : Option Value) (g10_41 : Option Value), j41 + q = 20 → 0 ≤ j41 → Inv σ41 → Cor σ σ41 → LB (fun a b => mtM σ (nI a) (nI b)) (tm (σ.1 14000) (σ.1 14013) (σ.2.2.1 148)) u (σ41.2.2.1 153) j31 j41 → Fq fq3 σ σ41 → R G l yX9_findChains cX9_findChains 11 none 3 0 0 (QV (fun w2 => ∃ σ2, w2 = WW σ2 ∧ Inv σ2 ∧ Cor σ σ2 ∧ Fq fq3 σ σ2 ∧ ∀ x : Nat, x < (tm (σ.1 14000) (σ.1 14013) (σ.2.2.1 148)) → ¬ nI x = u → σ2.2.2.1 153 x = nI (lab (fun a b => mtM σ (nI a) (nI b)) (fun i => decide (i < (tm (σ.1 14000) (σ.1 14013) (σ.2.2.1 148))) && !decide (nI i = u)) x))) 41 [(some (.ref 140)), (some (.ref 153)), (some (.int 1)), (some (.int u)), (some (.int (nI (tm (σ.1 14000) (σ.1 14013) (σ.2.2.1 148))))), (some (.int (nI j31))), (some (.int (nI j41))), g7_41, g8_41, g9_41, g10_41] [] (WW σ41) 0 0 := by
              intro q
              induction q with
              | zero =>
                intro j41 σ41 g7_41 g8_41 g9_41 g10_41 hj hs41 hI41 hC41 hX41_0 hX41_1
                obtain rfl : j41 = 20 := by omega
                refine R_iload (pc := 41) dX9_findChains_41 rfl ?_
                refine R_iload (pc := 43) dX9_findChains_43 rfl ?_
                refine R_icge (pc := 45) 204 dX9_findChains_45 (by decide) (fun _ => ?_) (fun h => absurd (Int32.not_lt.mp (inR_up hrg31 (Int32.le_refl _) (by decide)).2) h)
                refine inc_11_5_1_i (pc := 204) dX9_findChains_204 ?_
                have r5 : inR ((nI j31) + 1) 1 20 := inR_add (show inR (nI j31) 0 19 from hrg31) (show inR 1 1 1 from (inR_self _)) (by decide) (by decide)
                have e6 := ti_add (l := 1) (h := 20) (show inR (nI j31) 0 19 from hrg31) (show inR 1 1 1 from (inR_self _)) (by decide) (by decide)
                refine R_goto (pc := 207) 31 dX9_findChains_207 (by decide) ?_
                rw [nI_1]
                exact ih31 (j31 + 1) _ _ _ _ _ _ (by omega) (by omega) hI41 hC41 (lb_e hX41_0 (by omega)) hX41_1 (tm_next (by omega) b35_3)
              | succ q ih41 =>
                intro j41 σ41 g7_41 g8_41 g9_41 g10_41 hj hs41 hI41 hC41 hX41_0 hX41_1
                have hrg41 : inR (nI j41) 0 19 := inR_ix hs41 (show j41 < 20 by omega) (by decide) (by decide) (by decide)
                have hlt41 : j41 < 20 := by omega
                refine R_iload (pc := 41) dX9_findChains_41 rfl ?_
                refine R_iload (pc := 43) dX9_findChains_43 rfl ?_
                refine R_icge (pc := 45) 204 dX9_findChains_45 (by decide) (fun b45_7 => ?_) (fun b45_7 => ?_)
                · skip
                  refine inc_11_5_1_i (pc := 204) dX9_findChains_204 ?_
                  have r8 : inR ((nI j31) + 1) 1 20 := inR_add (show inR (nI j31) 0 19 from hrg31) (show inR 1 1 1 from (inR_self _)) (by decide) (by decide)
                  have e9 := ti_add (l := 1) (h := 20) (show inR (nI j31) 0 19 from hrg31) (show inR 1 1 1 from (inR_self _)) (by decide) (by decide)
                  refine R_goto (pc := 207) 31 dX9_findChains_207 (by decide) ?_
                  rw [nI_1]
                  exact ih31 (j31 + 1) _ _ _ _ _ _ (by omega) (by omega) hI41 hC41 (lb_e hX41_0 ((nI_leI (by omega) (by omega)).mp b45_7)) hX41_1 (tm_next (by omega) b35_3)
                · skip
                  refine R_iload (pc := 48) dX9_findChains_48 rfl ?_
                  refine R_iload_n (pc := 50) dX9_findChains_50 rfl rfl ?_
                  refine R_iceq (pc := 51) 104 dX9_findChains_51 (by decide) (fun b51_10 => ?_) (fun b51_10 => ?_)
                  · skip
                    refine R_iconst (pc := 104) (v := 0) dX9_findChains_104 (by decide) ?_
                    refine st_11_7_i_i (pc := 105) dX9_findChains_105 ?_
                    refine R_aload_n (pc := 107) dX9_findChains_107 rfl rfl ?_
                    refine R_iload (pc := 108) dX9_findChains_108 rfl ?_
                    have hx11 : vp_in (nI j31) 20 := (vp_in_nI (by omega) (by decide))
                    refine R_iaload (pc := 110) dX9_findChains_110 (c_153 _) hx11 ?_
                    refine R_aload_n (pc := 111) dX9_findChains_111 rfl rfl ?_
                    refine R_iload (pc := 112) dX9_findChains_112 rfl ?_
                    have hx12 : vp_in (nI j41) 20 := (vp_in_nI (by omega) (by decide))
                    refine R_iaload (pc := 114) dX9_findChains_114 (c_153 _) hx12 ?_
                    refine R_icge (pc := 115) 125 dX9_findChains_115 (by decide) (fun b115_13 => ?_) (fun b115_13 => ?_)
                    · skip
                      refine R_aload_n (pc := 125) dX9_findChains_125 rfl rfl ?_
                      refine R_iload (pc := 126) dX9_findChains_126 rfl ?_
                      have hx14 : vp_in (nI j41) 20 := (vp_in_nI (by omega) (by decide))
                      refine R_iaload (pc := 128) dX9_findChains_128 (c_153 _) hx14 ?_
                      refine st_11_8_i_i (pc := 129) dX9_findChains_129 ?_
                      refine R_aload_n (pc := 131) dX9_findChains_131 rfl rfl ?_
                      refine R_iload (pc := 132) dX9_findChains_132 rfl ?_
                      have hx15 : vp_in (nI j31) 20 := (vp_in_nI (by omega) (by decide))
                      refine R_iaload (pc := 134) dX9_findChains_134 (c_153 _) hx15 ?_
                      refine R_aload_n (pc := 135) dX9_findChains_135 rfl rfl ?_
                      refine R_iload (pc := 136) dX9_findChains_136 rfl ?_
                      have hx16 : vp_in (nI j41) 20 := (vp_in_nI (by omega) (by decide))
                      refine R_iaload (pc := 138) dX9_findChains_138 (c_153 _) hx16 ?_
                      refine R_icge (pc := 139) 149 dX9_findChains_139 (by decide) (fun _ => ?_) (fun h => absurd b115_13 h)
                      refine R_aload_n (pc := 149) dX9_findChains_149 rfl rfl ?_
                      refine R_iload (pc := 150) dX9_findChains_150 rfl ?_
                      have hx18 : vp_in (nI j31) 20 := (vp_in_nI (by omega) (by decide))
                      refine R_iaload (pc := 152) dX9_findChains_152 (c_153 _) hx18 ?_
                      refine st_11_9_i_i (pc := 153) dX9_findChains_153 ?_
                      refine R_iconst (pc := 155) (v := 0) dX9_findChains_155 (by decide) ?_
                      refine st_11_10_i_i (pc := 156) dX9_findChains_156 ?_
                      refine R_iload (pc := 158) dX9_findChains_158 rfl ?_
                      refine R_iload (pc := 160) dX9_findChains_160 rfl ?_
                      refine R_icge (pc := 162) 198 dX9_findChains_162 (by decide) (fun b162_19 => ?_) (fun b162_19 => ?_)
                      · skip
                        refine inc_11_6_1_i (pc := 198) dX9_findChains_198 ?_
                        have r20 : inR ((nI j41) + 1) 1 20 := inR_add (show inR (nI j41) 0 19 from hrg41) (show inR 1 1 1 from (inR_self _)) (by decide) (by decide)
                        have e21 := ti_add (l := 1) (h := 20) (show inR (nI j41) 0 19 from hrg41) (show inR 1 1 1 from (inR_self _)) (by decide) (by decide)
                        refine R_goto (pc := 201) 41 dX9_findChains_201 (by decide) ?_
                        rw [nI_1]
                        exact ih41 (j41 + 1) _ _ _ _ _ (by omega) (by omega) hI41 hC41 (lb_no hX41_0 (tm_next (by omega) b35_3) (Nat.lt_of_not_le (fun q => b45_7 ((nI_leI (by omega) (by omega)).mpr q))) (tm_le _ _ _) (Or.inl b51_10)) hX41_1
                      · skip
                        refine R_iload (pc := 165) dX9_findChains_165 rfl ?_
                        refine R_ifeq (pc := 167) 198 dX9_findChains_167 (by decide) (fun _ => ?_) (fun h => absurd (by decide) h)
                        refine inc_11_6_1_i (pc := 198) dX9_findChains_198 ?_
                        have r23 : inR ((nI j41) + 1) 1 20 := inR_add (show inR (nI j41) 0 19 from hrg41) (show inR 1 1 1 from (inR_self _)) (by decide) (by decide)
                        have e24 := ti_add (l := 1) (h := 20) (show inR (nI j41) 0 19 from hrg41) (show inR 1 1 1 from (inR_self _)) (by decide) (by decide)
                        refine R_goto (pc := 201) 41 dX9_findChains_201 (by decide) ?_
                        rw [nI_1]
                        exact ih41 (j41 + 1) _ _ _ _ _ (by omega) (by omega) hI41 hC41 (lb_no hX41_0 (tm_next (by omega) b35_3) (Nat.lt_of_not_le (fun q => b45_7 ((nI_leI (by omega) (by omega)).mpr q))) (tm_le _ _ _) (Or.inl b51_10)) hX41_1
                    · skip
                      refine R_aload_n (pc := 118) dX9_findChains_118 rfl rfl ?_
                      refine R_iload (pc := 119) dX9_findChains_119 rfl ?_
                      have hx25 : vp_in (nI j31) 20 := (vp_in_nI (by omega) (by decide))
                      refine R_iaload (pc := 121) dX9_findChains_121 (c_153 _) hx25 ?_
                      refine R_goto (pc := 122) 129 dX9_findChains_122 (by decide) ?_
                      refine st_11_8_i_i (pc := 129) dX9_findChains_129 ?_
                      refine R_aload_n (pc := 131) dX9_findChains_131 rfl rfl ?_
                      refine R_iload (pc := 132) dX9_findChains_132 rfl ?_
                      have hx26 : vp_in (nI j31) 20 := (vp_in_nI (by omega) (by decide))
                      refine R_iaload (pc := 134) dX9_findChains_134 (c_153 _) hx26 ?_
                      refine R_aload_n (pc := 135) dX9_findChains_135 rfl rfl ?_
                      refine R_iload (pc := 136) dX9_findChains_136 rfl ?_
                      have hx27 : vp_in (nI j41) 20 := (vp_in_nI (by omega) (by decide))
                      refine R_iaload (pc := 138) dX9_findChains_138 (c_153 _) hx27 ?_
                      refine R_icge (pc := 139) 149 dX9_findChains_139 (by decide) (fun h => absurd h b115_13) (fun _ => ?_)
                      refine R_aload_n (pc := 142) dX9_findChains_142 rfl rfl ?_
                      refine R_iload (pc := 143) dX9_findChains_143 rfl ?_
                      have hx29 : vp_in (nI j41) 20 := (vp_in_nI (by omega) (by decide))
                      refine R_iaload (pc := 145) dX9_findChains_145 (c_153 _) hx29 ?_
                      refine R_goto (pc := 146) 153 dX9_findChains_146 (by decide) ?_
                      refine st_11_9_i_i (pc := 153) dX9_findChains_153 ?_
                      refine R_iconst (pc := 155) (v := 0) dX9_findChains_155 (by decide) ?_
                      refine st_11_10_i_i (pc := 156) dX9_findChains_156 ?_
                      refine R_iload (pc := 158) dX9_findChains_158 rfl ?_
                      refine R_iload (pc := 160) dX9_findChains_160 rfl ?_
                      refine R_icge (pc := 162) 198 dX9_findChains_162 (by decide) (fun b162_30 => ?_) (fun b162_30 => ?_)
                      · skip
                        refine inc_11_6_1_i (pc := 198) dX9_findChains_198 ?_
                        have r31 : inR ((nI j41) + 1) 1 20 := inR_add (show inR (nI j41) 0 19 from hrg41) (show inR 1 1 1 from (inR_self _)) (by decide) (by decide)
                        have e32 := ti_add (l := 1) (h := 20) (show inR (nI j41) 0 19 from hrg41) (show inR 1 1 1 from (inR_self _)) (by decide) (by decide)
                        refine R_goto (pc := 201) 41 dX9_findChains_201 (by decide) ?_
                        rw [nI_1]
                        exact ih41 (j41 + 1) _ _ _ _ _ (by omega) (by omega) hI41 hC41 (lb_no hX41_0 (tm_next (by omega) b35_3) (Nat.lt_of_not_le (fun q => b45_7 ((nI_leI (by omega) (by omega)).mpr q))) (tm_le _ _ _) (Or.inl b51_10)) hX41_1
                      · skip
                        refine R_iload (pc := 165) dX9_findChains_165 rfl ?_
                        refine R_ifeq (pc := 167) 198 dX9_findChains_167 (by decide) (fun _ => ?_) (fun h => absurd (by decide) h)
                        refine inc_11_6_1_i (pc := 198) dX9_findChains_198 ?_
                        have r34 : inR ((nI j41) + 1) 1 20 := inR_add (show inR (nI j41) 0 19 from hrg41) (show inR 1 1 1 from (inR_self _)) (by decide) (by decide)
                        have e35 := ti_add (l := 1) (h := 20) (show inR (nI j41) 0 19 from hrg41) (show inR 1 1 1 from (inR_self _)) (by decide) (by decide)
                        refine R_goto (pc := 201) 41 dX9_findChains_201 (by decide) ?_
                        rw [nI_1]
                        exact ih41 (j41 + 1) _ _ _ _ _ (by omega) (by omega) hI41 hC41 (lb_no hX41_0 (tm_next (by omega) b35_3) (Nat.lt_of_not_le (fun q => b45_7 ((nI_leI (by omega) (by omega)).mpr q))) (tm_le _ _ _) (Or.inl b51_10)) hX41_1
                  · skip
                    refine R_iload (pc := 54) dX9_findChains_54 rfl ?_
                    refine R_iload_n (pc := 56) dX9_findChains_56 rfl rfl ?_
                    refine R_iceq (pc := 57) 104 dX9_findChains_57 (by decide) (fun b57_36 => ?_) (fun b57_36 => ?_)
                    · skip
                      refine R_iconst (pc := 104) (v := 0) dX9_findChains_104 (by decide) ?_
                      refine st_11_7_i_i (pc := 105) dX9_findChains_105 ?_
                      refine R_aload_n (pc := 107) dX9_findChains_107 rfl rfl ?_
                      refine R_iload (pc := 108) dX9_findChains_108 rfl ?_
                      have hx37 : vp_in (nI j31) 20 := (vp_in_nI (by omega) (by decide))
                      refine R_iaload (pc := 110) dX9_findChains_110 (c_153 _) hx37 ?_
                      refine R_aload_n (pc := 111) dX9_findChains_111 rfl rfl ?_
                      refine R_iload (pc := 112) dX9_findChains_112 rfl ?_
                      have hx38 : vp_in (nI j41) 20 := (vp_in_nI (by omega) (by decide))
                      refine R_iaload (pc := 114) dX9_findChains_114 (c_153 _) hx38 ?_
                      refine R_icge (pc := 115) 125 dX9_findChains_115 (by decide) (fun b115_39 => ?_) (fun b115_39 => ?_)
                      · skip
                        refine R_aload_n (pc := 125) dX9_findChains_125 rfl rfl ?_
                        refine R_iload (pc := 126) dX9_findChains_126 rfl ?_
                        have hx40 : vp_in (nI j41) 20 := (vp_in_nI (by omega) (by decide))
                        refine R_iaload (pc := 128) dX9_findChains_128 (c_153 _) hx40 ?_
                        refine st_11_8_i_i (pc := 129) dX9_findChains_129 ?_
                        refine R_aload_n (pc := 131) dX9_findChains_131 rfl rfl ?_
                        refine R_iload (pc := 132) dX9_findChains_132 rfl ?_
                        have hx41 : vp_in (nI j31) 20 := (vp_in_nI (by omega) (by decide))
                        refine R_iaload (pc := 134) dX9_findChains_134 (c_153 _) hx41 ?_
                        refine R_aload_n (pc := 135) dX9_findChains_135 rfl rfl ?_
                        refine R_iload (pc := 136) dX9_findChains_136 rfl ?_
                        have hx42 : vp_in (nI j41) 20 := (vp_in_nI (by omega) (by decide))
                        refine R_iaload (pc := 138) dX9_findChains_138 (c_153 _) hx42 ?_
                        refine R_icge (pc := 139) 149 dX9_findChains_139 (by decide) (fun _ => ?_) (fun h => absurd b115_39 h)
                        refine R_aload_n (pc := 149) dX9_findChains_149 rfl rfl ?_
                        refine R_iload (pc := 150) dX9_findChains_150 rfl ?_
                        have hx44 : vp_in (nI j31) 20 := (vp_in_nI (by omega) (by decide))
                        refine R_iaload (pc := 152) dX9_findChains_152 (c_153 _) hx44 ?_
                        refine st_11_9_i_i (pc := 153) dX9_findChains_153 ?_
                        refine R_iconst (pc := 155) (v := 0) dX9_findChains_155 (by decide) ?_
                        refine st_11_10_i_i (pc := 156) dX9_findChains_156 ?_
                        refine R_iload (pc := 158) dX9_findChains_158 rfl ?_
                        refine R_iload (pc := 160) dX9_findChains_160 rfl ?_
                        refine R_icge (pc := 162) 198 dX9_findChains_162 (by decide) (fun b162_45 => ?_) (fun b162_45 => ?_)
                        · skip
                          refine inc_11_6_1_i (pc := 198) dX9_findChains_198 ?_
                          have r46 : inR ((nI j41) + 1) 1 20 := inR_add (show inR (nI j41) 0 19 from hrg41) (show inR 1 1 1 from (inR_self _)) (by decide) (by decide)
                          have e47 := ti_add (l := 1) (h := 20) (show inR (nI j41) 0 19 from hrg41) (show inR 1 1 1 from (inR_self _)) (by decide) (by decide)
                          refine R_goto (pc := 201) 41 dX9_findChains_201 (by decide) ?_
                          rw [nI_1]
                          exact ih41 (j41 + 1) _ _ _ _ _ (by omega) (by omega) hI41 hC41 (lb_no hX41_0 (tm_next (by omega) b35_3) (Nat.lt_of_not_le (fun q => b45_7 ((nI_leI (by omega) (by omega)).mpr q))) (tm_le _ _ _) (Or.inr (Or.inl b57_36))) hX41_1
                        · skip
                          refine R_iload (pc := 165) dX9_findChains_165 rfl ?_
                          refine R_ifeq (pc := 167) 198 dX9_findChains_167 (by decide) (fun _ => ?_) (fun h => absurd (by decide) h)
                          refine inc_11_6_1_i (pc := 198) dX9_findChains_198 ?_
                          have r49 : inR ((nI j41) + 1) 1 20 := inR_add (show inR (nI j41) 0 19 from hrg41) (show inR 1 1 1 from (inR_self _)) (by decide) (by decide)
                          have e50 := ti_add (l := 1) (h := 20) (show inR (nI j41) 0 19 from hrg41) (show inR 1 1 1 from (inR_self _)) (by decide) (by decide)
                          refine R_goto (pc := 201) 41 dX9_findChains_201 (by decide) ?_
                          rw [nI_1]
                          exact ih41 (j41 + 1) _ _ _ _ _ (by omega) (by omega) hI41 hC41 (lb_no hX41_0 (tm_next (by omega) b35_3) (Nat.lt_of_not_le (fun q => b45_7 ((nI_leI (by omega) (by omega)).mpr q))) (tm_le _ _ _) (Or.inr (Or.inl b57_36))) hX41_1
                      · skip
                        refine R_aload_n (pc := 118) dX9_findChains_118 rfl rfl ?_
                        refine R_iload (pc := 119) dX9_findChains_119 rfl ?_
                        have hx51 : vp_in (nI j31) 20 := (vp_in_nI (by omega) (by decide))
                        refine R_iaload (pc := 121) dX9_findChains_121 (c_153 _) hx51 ?_
                        refine R_goto (pc := 122) 129 dX9_findChains_122 (by decide) ?_
                        refine st_11_8_i_i (pc := 129) dX9_findChains_129 ?_
                        refine R_aload_n (pc := 131) dX9_findChains_131 rfl rfl ?_
                        refine R_iload (pc := 132) dX9_findChains_132 rfl ?_
                        have hx52 : vp_in (nI j31) 20 := (vp_in_nI (by omega) (by decide))
                        refine R_iaload (pc := 134) dX9_findChains_134 (c_153 _) hx52 ?_
                        refine R_aload_n (pc := 135) dX9_findChains_135 rfl rfl ?_
                        refine R_iload (pc := 136) dX9_findChains_136 rfl ?_
                        have hx53 : vp_in (nI j41) 20 := (vp_in_nI (by omega) (by decide))
                        refine R_iaload (pc := 138) dX9_findChains_138 (c_153 _) hx53 ?_
                        refine R_icge (pc := 139) 149 dX9_findChains_139 (by decide) (fun h => absurd h b115_39) (fun _ => ?_)
                        refine R_aload_n (pc := 142) dX9_findChains_142 rfl rfl ?_
                        refine R_iload (pc := 143) dX9_findChains_143 rfl ?_
                        have hx55 : vp_in (nI j41) 20 := (vp_in_nI (by omega) (by decide))
                        refine R_iaload (pc := 145) dX9_findChains_145 (c_153 _) hx55 ?_
                        refine R_goto (pc := 146) 153 dX9_findChains_146 (by decide) ?_
                        refine st_11_9_i_i (pc := 153) dX9_findChains_153 ?_
                        refine R_iconst (pc := 155) (v := 0) dX9_findChains_155 (by decide) ?_
                        refine st_11_10_i_i (pc := 156) dX9_findChains_156 ?_
                        refine R_iload (pc := 158) dX9_findChains_158 rfl ?_
                        refine R_iload (pc := 160) dX9_findChains_160 rfl ?_
                        refine R_icge (pc := 162) 198 dX9_findChains_162 (by decide) (fun b162_56 => ?_) (fun b162_56 => ?_)
                        · skip
                          refine inc_11_6_1_i (pc := 198) dX9_findChains_198 ?_
                          have r57 : inR ((nI j41) + 1) 1 20 := inR_add (show inR (nI j41) 0 19 from hrg41) (show inR 1 1 1 from (inR_self _)) (by decide) (by decide)
                          have e58 := ti_add (l := 1) (h := 20) (show inR (nI j41) 0 19 from hrg41) (show inR 1 1 1 from (inR_self _)) (by decide) (by decide)
                          refine R_goto (pc := 201) 41 dX9_findChains_201 (by decide) ?_
                          rw [nI_1]
                          exact ih41 (j41 + 1) _ _ _ _ _ (by omega) (by omega) hI41 hC41 (lb_no hX41_0 (tm_next (by omega) b35_3) (Nat.lt_of_not_le (fun q => b45_7 ((nI_leI (by omega) (by omega)).mpr q))) (tm_le _ _ _) (Or.inr (Or.inl b57_36))) hX41_1
                        · skip
                          refine R_iload (pc := 165) dX9_findChains_165 rfl ?_
                          refine R_ifeq (pc := 167) 198 dX9_findChains_167 (by decide) (fun _ => ?_) (fun h => absurd (by decide) h)
                          refine inc_11_6_1_i (pc := 198) dX9_findChains_198 ?_
                          have r60 : inR ((nI j41) + 1) 1 20 := inR_add (show inR (nI j41) 0 19 from hrg41) (show inR 1 1 1 from (inR_self _)) (by decide) (by decide)
                          have e61 := ti_add (l := 1) (h := 20) (show inR (nI j41) 0 19 from hrg41) (show inR 1 1 1 from (inR_self _)) (by decide) (by decide)
                          refine R_goto (pc := 201) 41 dX9_findChains_201 (by decide) ?_
                          rw [nI_1]
                          exact ih41 (j41 + 1) _ _ _ _ _ (by omega) (by omega) hI41 hC41 (lb_no hX41_0 (tm_next (by omega) b35_3) (Nat.lt_of_not_le (fun q => b45_7 ((nI_leI (by omega) (by omega)).mpr q))) (tm_le _ _ _) (Or.inr (Or.inl b57_36))) hX41_1
                    · skip
                      refine R_aload_n (pc := 60) dX9_findChains_60 rfl rfl ?_
                      refine R_iload (pc := 61) dX9_findChains_61 rfl ?_
                      have hx62 : vp_in (nI j31) 20 := (vp_in_nI (by omega) (by decide))
                      refine R_iaload (pc := 63) dX9_findChains_63 (c_153 _) hx62 ?_
                      refine R_aload_n (pc := 64) dX9_findChains_64 rfl rfl ?_
                      refine R_iload (pc := 65) dX9_findChains_65 rfl ?_
                      have hx63 : vp_in (nI j41) 20 := (vp_in_nI (by omega) (by decide))
                      refine R_iaload (pc := 67) dX9_findChains_67 (c_153 _) hx63 ?_
                      refine R_iceq (pc := 68) 104 dX9_findChains_68 (by decide) (fun b68_64 => ?_) (fun b68_64 => ?_)
                      · skip
                        refine R_iconst (pc := 104) (v := 0) dX9_findChains_104 (by decide) ?_
                        refine st_11_7_i_i (pc := 105) dX9_findChains_105 ?_
                        refine R_aload_n (pc := 107) dX9_findChains_107 rfl rfl ?_
                        refine R_iload (pc := 108) dX9_findChains_108 rfl ?_
                        have hx65 : vp_in (nI j31) 20 := (vp_in_nI (by omega) (by decide))
                        refine R_iaload (pc := 110) dX9_findChains_110 (c_153 _) hx65 ?_
                        refine R_aload_n (pc := 111) dX9_findChains_111 rfl rfl ?_
                        refine R_iload (pc := 112) dX9_findChains_112 rfl ?_
                        have hx66 : vp_in (nI j41) 20 := (vp_in_nI (by omega) (by decide))
                        refine R_iaload (pc := 114) dX9_findChains_114 (c_153 _) hx66 ?_
                        refine R_icge (pc := 115) 125 dX9_findChains_115 (by decide) (fun b115_67 => ?_) (fun b115_67 => ?_)
                        · skip
                          refine R_aload_n (pc := 125) dX9_findChains_125 rfl rfl ?_
                          refine R_iload (pc := 126) dX9_findChains_126 rfl ?_
                          have hx68 : vp_in (nI j41) 20 := (vp_in_nI (by omega) (by decide))
                          refine R_iaload (pc := 128) dX9_findChains_128 (c_153 _) hx68 ?_
                          refine st_11_8_i_i (pc := 129) dX9_findChains_129 ?_
                          refine R_aload_n (pc := 131) dX9_findChains_131 rfl rfl ?_
                          refine R_iload (pc := 132) dX9_findChains_132 rfl ?_
                          have hx69 : vp_in (nI j31) 20 := (vp_in_nI (by omega) (by decide))
                          refine R_iaload (pc := 134) dX9_findChains_134 (c_153 _) hx69 ?_
                          refine R_aload_n (pc := 135) dX9_findChains_135 rfl rfl ?_
                          refine R_iload (pc := 136) dX9_findChains_136 rfl ?_
                          have hx70 : vp_in (nI j41) 20 := (vp_in_nI (by omega) (by decide))
                          refine R_iaload (pc := 138) dX9_findChains_138 (c_153 _) hx70 ?_
                          refine R_icge (pc := 139) 149 dX9_findChains_139 (by decide) (fun _ => ?_) (fun h => absurd b115_67 h)
                          refine R_aload_n (pc := 149) dX9_findChains_149 rfl rfl ?_
                          refine R_iload (pc := 150) dX9_findChains_150 rfl ?_
                          have hx72 : vp_in (nI j31) 20 := (vp_in_nI (by omega) (by decide))
                          refine R_iaload (pc := 152) dX9_findChains_152 (c_153 _) hx72 ?_
                          refine st_11_9_i_i (pc := 153) dX9_findChains_153 ?_
                          refine R_iconst (pc := 155) (v := 0) dX9_findChains_155 (by decide) ?_
                          refine st_11_10_i_i (pc := 156) dX9_findChains_156 ?_
                          refine R_iload (pc := 158) dX9_findChains_158 rfl ?_
                          refine R_iload (pc := 160) dX9_findChains_160 rfl ?_
                          refine R_icge (pc := 162) 198 dX9_findChains_162 (by decide) (fun b162_73 => ?_) (fun b162_73 => ?_)
                          · skip
                            refine inc_11_6_1_i (pc := 198) dX9_findChains_198 ?_
                            have r74 : inR ((nI j41) + 1) 1 20 := inR_add (show inR (nI j41) 0 19 from hrg41) (show inR 1 1 1 from (inR_self _)) (by decide) (by decide)
                            have e75 := ti_add (l := 1) (h := 20) (show inR (nI j41) 0 19 from hrg41) (show inR 1 1 1 from (inR_self _)) (by decide) (by decide)
                            refine R_goto (pc := 201) 41 dX9_findChains_201 (by decide) ?_
                            rw [nI_1]
                            exact ih41 (j41 + 1) _ _ _ _ _ (by omega) (by omega) hI41 hC41 (lb_nof hX41_0 (tm_next (by omega) b35_3) (Nat.lt_of_not_le (fun q => b45_7 ((nI_leI (by omega) (by omega)).mpr q))) (tm_le _ _ _) b68_64) hX41_1
                          · skip
                            refine R_iload (pc := 165) dX9_findChains_165 rfl ?_
                            refine R_ifeq (pc := 167) 198 dX9_findChains_167 (by decide) (fun _ => ?_) (fun h => absurd (by decide) h)
                            refine inc_11_6_1_i (pc := 198) dX9_findChains_198 ?_
                            have r77 : inR ((nI j41) + 1) 1 20 := inR_add (show inR (nI j41) 0 19 from hrg41) (show inR 1 1 1 from (inR_self _)) (by decide) (by decide)
                            have e78 := ti_add (l := 1) (h := 20) (show inR (nI j41) 0 19 from hrg41) (show inR 1 1 1 from (inR_self _)) (by decide) (by decide)
                            refine R_goto (pc := 201) 41 dX9_findChains_201 (by decide) ?_
                            rw [nI_1]
                            exact ih41 (j41 + 1) _ _ _ _ _ (by omega) (by omega) hI41 hC41 (lb_nof hX41_0 (tm_next (by omega) b35_3) (Nat.lt_of_not_le (fun q => b45_7 ((nI_leI (by omega) (by omega)).mpr q))) (tm_le _ _ _) b68_64) hX41_1
                        · skip
                          refine R_aload_n (pc := 118) dX9_findChains_118 rfl rfl ?_
                          refine R_iload (pc := 119) dX9_findChains_119 rfl ?_
                          have hx79 : vp_in (nI j31) 20 := (vp_in_nI (by omega) (by decide))
                          refine R_iaload (pc := 121) dX9_findChains_121 (c_153 _) hx79 ?_
                          refine R_goto (pc := 122) 129 dX9_findChains_122 (by decide) ?_
                          refine st_11_8_i_i (pc := 129) dX9_findChains_129 ?_
                          refine R_aload_n (pc := 131) dX9_findChains_131 rfl rfl ?_
                          refine R_iload (pc := 132) dX9_findChains_132 rfl ?_
                          have hx80 : vp_in (nI j31) 20 := (vp_in_nI (by omega) (by decide))
                          refine R_iaload (pc := 134) dX9_findChains_134 (c_153 _) hx80 ?_
                          refine R_aload_n (pc := 135) dX9_findChains_135 rfl rfl ?_
                          refine R_iload (pc := 136) dX9_findChains_136 rfl ?_
                          have hx81 : vp_in (nI j41) 20 := (vp_in_nI (by omega) (by decide))
                          refine R_iaload (pc := 138) dX9_findChains_138 (c_153 _) hx81 ?_
                          refine R_icge (pc := 139) 149 dX9_findChains_139 (by decide) (fun h => absurd h b115_67) (fun _ => ?_)
                          refine R_aload_n (pc := 142) dX9_findChains_142 rfl rfl ?_
                          refine R_iload (pc := 143) dX9_findChains_143 rfl ?_
                          have hx83 : vp_in (nI j41) 20 := (vp_in_nI (by omega) (by decide))
                          refine R_iaload (pc := 145) dX9_findChains_145 (c_153 _) hx83 ?_
                          refine R_goto (pc := 146) 153 dX9_findChains_146 (by decide) ?_
                          refine st_11_9_i_i (pc := 153) dX9_findChains_153 ?_
                          refine R_iconst (pc := 155) (v := 0) dX9_findChains_155 (by decide) ?_
                          refine st_11_10_i_i (pc := 156) dX9_findChains_156 ?_
                          refine R_iload (pc := 158) dX9_findChains_158 rfl ?_
                          refine R_iload (pc := 160) dX9_findChains_160 rfl ?_
                          refine R_icge (pc := 162) 198 dX9_findChains_162 (by decide) (fun b162_84 => ?_) (fun b162_84 => ?_)
                          · skip
                            refine inc_11_6_1_i (pc := 198) dX9_findChains_198 ?_
                            have r85 : inR ((nI j41) + 1) 1 20 := inR_add (show inR (nI j41) 0 19 from hrg41) (show inR 1 1 1 from (inR_self _)) (by decide) (by decide)
                            have e86 := ti_add (l := 1) (h := 20) (show inR (nI j41) 0 19 from hrg41) (show inR 1 1 1 from (inR_self _)) (by decide) (by decide)
                            refine R_goto (pc := 201) 41 dX9_findChains_201 (by decide) ?_
                            rw [nI_1]
                            exact ih41 (j41 + 1) _ _ _ _ _ (by omega) (by omega) hI41 hC41 (lb_nof hX41_0 (tm_next (by omega) b35_3) (Nat.lt_of_not_le (fun q => b45_7 ((nI_leI (by omega) (by omega)).mpr q))) (tm_le _ _ _) b68_64) hX41_1
                          · skip
                            refine R_iload (pc := 165) dX9_findChains_165 rfl ?_
                            refine R_ifeq (pc := 167) 198 dX9_findChains_167 (by decide) (fun _ => ?_) (fun h => absurd (by decide) h)
                            refine inc_11_6_1_i (pc := 198) dX9_findChains_198 ?_
                            have r88 : inR ((nI j41) + 1) 1 20 := inR_add (show inR (nI j41) 0 19 from hrg41) (show inR 1 1 1 from (inR_self _)) (by decide) (by decide)
                            have e89 := ti_add (l := 1) (h := 20) (show inR (nI j41) 0 19 from hrg41) (show inR 1 1 1 from (inR_self _)) (by decide) (by decide)
                            refine R_goto (pc := 201) 41 dX9_findChains_201 (by decide) ?_
                            rw [nI_1]
                            exact ih41 (j41 + 1) _ _ _ _ _ (by omega) (by omega) hI41 hC41 (lb_nof hX41_0 (tm_next (by omega) b35_3) (Nat.lt_of_not_le (fun q => b45_7 ((nI_leI (by omega) (by omega)).mpr q))) (tm_le _ _ _) b68_64) hX41_1
                      · skip
                        refine R_iload_n (pc := 71) dX9_findChains_71 rfl rfl ?_
                        refine R_ifeq (pc := 72) 89 dX9_findChains_72 (by decide) (fun h => absurd h (by decide)) (fun _ => ?_)
                        refine R_aload_n (pc := 75) dX9_findChains_75 rfl rfl ?_
                        refine R_iload (pc := 76) dX9_findChains_76 rfl ?_
                        refine R_iload (pc := 78) dX9_findChains_78 rfl ?_
                        refine k_X9_159 (pc := 80) (gn_X9_isMatch _ _ _ hI41 hrg31 hrg41) rfl (c_140 _) (by decide) (Nat.le_refl _) (Nat.le_refl _) (Nat.le_of_ble_eq_true rfl) dX9_findChains_80 (fun x w2 h => ?_)
                        obtain ⟨σx92, rfl, hV91, hW93, hq94, hb⟩ := h
                        have hW96 := Cor.trans hC41 hW93
                        have hq97 := fq_trans hX41_1 (fq_up hq94 fqF_3)
                        rcases hb with ⟨hb95, rfl⟩ | ⟨hb95, rfl⟩
                        · skip
                          refine R_ifeq (pc := 83) 104 dX9_findChains_83 (by decide) (fun h => absurd h (by decide)) (fun _ => ?_)
                          refine R_goto (pc := 86) 100 dX9_findChains_86 (by decide) ?_
                          refine R_iconst (pc := 100) (v := 1) dX9_findChains_100 (by decide) ?_
                          refine R_goto (pc := 101) 105 dX9_findChains_101 (by decide) ?_
                          refine st_11_7_i_i (pc := 105) dX9_findChains_105 ?_
                          refine R_aload_n (pc := 107) dX9_findChains_107 rfl rfl ?_
                          refine R_iload (pc := 108) dX9_findChains_108 rfl ?_
                          have hx99 : vp_in (nI j31) 20 := (vp_in_nI (by omega) (by decide))
                          refine R_iaload (pc := 110) dX9_findChains_110 (c_153 _) hx99 ?_
                          refine R_aload_n (pc := 111) dX9_findChains_111 rfl rfl ?_
                          refine R_iload (pc := 112) dX9_findChains_112 rfl ?_
                          have hx100 : vp_in (nI j41) 20 := (vp_in_nI (by omega) (by decide))
                          refine R_iaload (pc := 114) dX9_findChains_114 (c_153 _) hx100 ?_
                          refine R_icge (pc := 115) 125 dX9_findChains_115 (by decide) (fun b115_101 => ?_) (fun b115_101 => ?_)
                          · skip
                            refine R_aload_n (pc := 125) dX9_findChains_125 rfl rfl ?_
                            refine R_iload (pc := 126) dX9_findChains_126 rfl ?_
                            have hx102 : vp_in (nI j41) 20 := (vp_in_nI (by omega) (by decide))
                            refine R_iaload (pc := 128) dX9_findChains_128 (c_153 _) hx102 ?_
                            refine st_11_8_i_i (pc := 129) dX9_findChains_129 ?_
                            refine R_aload_n (pc := 131) dX9_findChains_131 rfl rfl ?_
                            refine R_iload (pc := 132) dX9_findChains_132 rfl ?_
                            have hx103 : vp_in (nI j31) 20 := (vp_in_nI (by omega) (by decide))
                            refine R_iaload (pc := 134) dX9_findChains_134 (c_153 _) hx103 ?_
                            refine R_aload_n (pc := 135) dX9_findChains_135 rfl rfl ?_
                            refine R_iload (pc := 136) dX9_findChains_136 rfl ?_
                            have hx104 : vp_in (nI j41) 20 := (vp_in_nI (by omega) (by decide))
                            refine R_iaload (pc := 138) dX9_findChains_138 (c_153 _) hx104 ?_
                            refine R_icge (pc := 139) 149 dX9_findChains_139 (by decide) (fun _ => ?_) (fun h => absurd b115_101 h)
                            refine R_aload_n (pc := 149) dX9_findChains_149 rfl rfl ?_
                            refine R_iload (pc := 150) dX9_findChains_150 rfl ?_
                            have hx106 : vp_in (nI j31) 20 := (vp_in_nI (by omega) (by decide))
                            refine R_iaload (pc := 152) dX9_findChains_152 (c_153 _) hx106 ?_
                            refine st_11_9_i_i (pc := 153) dX9_findChains_153 ?_
                            refine R_iconst (pc := 155) (v := 0) dX9_findChains_155 (by decide) ?_
                            refine st_11_10_i_i (pc := 156) dX9_findChains_156 ?_
                            have HL158 : ∀ (q j158 : Nat) (σ158 : Sg), j158 + q = 20 → 0 ≤ j158 → Inv σ158 → Cor σ σ158 → MG (σx92.2.2.1 153) (σx92.2.2.1 153 (Int32.toNatClampNeg (nI j41))) (σx92.2.2.1 153 (Int32.toNatClampNeg (nI j31))) j158 (σ158.2.2.1 153) → Fq fq3 σ σ158 → j158 ≤ (tm (σ.1 14000) (σ.1 14013) (σ.2.2.1 148)) → R G l yX9_findChains cX9_findChains 11 none 3 0 0 (QV (fun w2 => ∃ σ2, w2 = WW σ2 ∧ Inv σ2 ∧ Cor σ σ2 ∧ Fq fq3 σ σ2 ∧ ∀ x : Nat, x < (tm (σ.1 14000) (σ.1 14013) (σ.2.2.1 148)) → ¬ nI x = u → σ2.2.2.1 153 x = nI (lab (fun a b => mtM σ (nI a) (nI b)) (fun i => decide (i < (tm (σ.1 14000) (σ.1 14013) (σ.2.2.1 148))) && !decide (nI i = u)) x))) 158 [(some (.ref 140)), (some (.ref 153)), (some (.int 1)), (some (.int u)), (some (.int (nI (tm (σ.1 14000) (σ.1 14013) (σ.2.2.1 148))))), (some (.int (nI j31))), (some (.int (nI j41))), (some (.int 1)), (some (.int (σx92.2.2.1 153 (Int32.toNatClampNeg (nI j41))))), (some (.int (σx92.2.2.1 153 (Int32.toNatClampNeg (nI j31))))), (some (.int (nI j158)))] [] (WW σ158) 0 0 := by
                              intro q
                              induction q with
                              | zero =>
                                intro j158 σ158 hj hs158 hI158 hC158 hX158_0 hX158_1 hX158_2
                                obtain rfl : j158 = 20 := by omega
                                refine R_iload (pc := 158) dX9_findChains_158 rfl ?_
                                refine R_iload (pc := 160) dX9_findChains_160 rfl ?_
                                refine R_icge (pc := 162) 198 dX9_findChains_162 (by decide) (fun _ => ?_) (fun h => absurd (Int32.not_lt.mp (inR_up (tm_in (σ.1 14000) (σ.1 14013) (σ.2.2.1 148)) (Int32.le_refl _) (by decide)).2) h)
                                refine inc_11_6_1_i (pc := 198) dX9_findChains_198 ?_
                                have r108 : inR ((nI j41) + 1) 1 20 := inR_add (show inR (nI j41) 0 19 from hrg41) (show inR 1 1 1 from (inR_self _)) (by decide) (by decide)
                                have e109 := ti_add (l := 1) (h := 20) (show inR (nI j41) 0 19 from hrg41) (show inR 1 1 1 from (inR_self _)) (by decide) (by decide)
                                refine R_goto (pc := 201) 41 dX9_findChains_201 (by decide) ?_
                                rw [nI_1]
                                exact ih41 (j41 + 1) _ _ _ _ _ (by omega) (by omega) hI158 hC158 (lb_ge (by have q := hX41_0; rw [← (show (σx92.2.2.1 153) = (σ41.2.2.1 153) from hq94.2.2.1 153 rfl)] at q; exact q) (tm_next (by omega) b35_3) (Nat.lt_of_not_le (fun q => b45_7 ((nI_leI (by omega) (by omega)).mpr q))) (tm_le _ _ _) b51_10 b57_36 (by have q := b68_64; rw [← (show (σx92.2.2.1 153) = (σ41.2.2.1 153) from hq94.2.2.1 153 rfl)] at q; exact q) ((mtM_fq hX41_1 rfl rfl rfl rfl rfl rfl rfl _ _).symm.trans hb95) hS (Int32.not_lt.mpr b115_101) (by have q := hX158_0; rw [(show 20 = (tm (σ.1 14000) (σ.1 14013) (σ.2.2.1 148)) from by first | exact tm_exit (by omega) hX158_2 (by assumption) | exact tm_ex20 hX158_2)] at q; exact q)) hX158_1
                              | succ q ih158 =>
                                intro j158 σ158 hj hs158 hI158 hC158 hX158_0 hX158_1 hX158_2
                                have hrg158 : inR (nI j158) 0 19 := inR_ix hs158 (show j158 < 20 by omega) (by decide) (by decide) (by decide)
                                have hlt158 : j158 < 20 := by omega
                                refine R_iload (pc := 158) dX9_findChains_158 rfl ?_
                                refine R_iload (pc := 160) dX9_findChains_160 rfl ?_
                                refine R_icge (pc := 162) 198 dX9_findChains_162 (by decide) (fun b162_110 => ?_) (fun b162_110 => ?_)
                                · skip
                                  refine inc_11_6_1_i (pc := 198) dX9_findChains_198 ?_
                                  have r111 : inR ((nI j41) + 1) 1 20 := inR_add (show inR (nI j41) 0 19 from hrg41) (show inR 1 1 1 from (inR_self _)) (by decide) (by decide)
                                  have e112 := ti_add (l := 1) (h := 20) (show inR (nI j41) 0 19 from hrg41) (show inR 1 1 1 from (inR_self _)) (by decide) (by decide)
                                  refine R_goto (pc := 201) 41 dX9_findChains_201 (by decide) ?_
                                  rw [nI_1]
                                  exact ih41 (j41 + 1) _ _ _ _ _ (by omega) (by omega) hI158 hC158 (lb_ge (by have q := hX41_0; rw [← (show (σx92.2.2.1 153) = (σ41.2.2.1 153) from hq94.2.2.1 153 rfl)] at q; exact q) (tm_next (by omega) b35_3) (Nat.lt_of_not_le (fun q => b45_7 ((nI_leI (by omega) (by omega)).mpr q))) (tm_le _ _ _) b51_10 b57_36 (by have q := b68_64; rw [← (show (σx92.2.2.1 153) = (σ41.2.2.1 153) from hq94.2.2.1 153 rfl)] at q; exact q) ((mtM_fq hX41_1 rfl rfl rfl rfl rfl rfl rfl _ _).symm.trans hb95) hS (Int32.not_lt.mpr b115_101) (by have q := hX158_0; rw [(show j158 = (tm (σ.1 14000) (σ.1 14013) (σ.2.2.1 148)) from by first | exact tm_exit (by omega) hX158_2 (by assumption) | exact tm_ex20 hX158_2)] at q; exact q)) hX158_1
                                · skip
                                  refine R_iload (pc := 165) dX9_findChains_165 rfl ?_
                                  refine R_ifeq (pc := 167) 198 dX9_findChains_167 (by decide) (fun h => absurd h (by decide)) (fun _ => ?_)
                                  refine R_aload_n (pc := 170) dX9_findChains_170 rfl rfl ?_
                                  refine R_iload (pc := 171) dX9_findChains_171 rfl ?_
                                  refine R_aload_n (pc := 173) dX9_findChains_173 rfl rfl ?_
                                  refine R_iload (pc := 174) dX9_findChains_174 rfl ?_
                                  have hx114 : vp_in (nI j158) 20 := (vp_in_nI (by omega) (by decide))
                                  refine R_iaload (pc := 176) dX9_findChains_176 (c_153 _) hx114 ?_
                                  refine R_iload (pc := 177) dX9_findChains_177 rfl ?_
                                  refine R_icne (pc := 179) 187 dX9_findChains_179 (by decide) (fun b179_115 => ?_) (fun b179_115 => ?_)
                                  · skip
                                    refine R_aload_n (pc := 187) dX9_findChains_187 rfl rfl ?_
                                    refine R_iload (pc := 188) dX9_findChains_188 rfl ?_
                                    have hx116 : vp_in (nI j158) 20 := (vp_in_nI (by omega) (by decide))
                                    refine R_iaload (pc := 190) dX9_findChains_190 (c_153 _) hx116 ?_
                                    have hx117 : vp_in (nI j158) 20 := (vp_in_nI (by omega) (by decide))
                                    refine W_iastore (pc := 191) dX9_findChains_191 (c_153 _) hx117 (a_153 _ _) ?_
                                    have hV118 := sa_153 hI158 (Int32.toNatClampNeg (nI j158)) (iva_153 hI158 _ (lt_of_vp hx114))
                                    have hW119 := cor_sa 153 (upd (σ158.2.2.1 153) (Int32.toNatClampNeg (nI j158)) (σ158.2.2.1 153 (Int32.toNatClampNeg (nI j158)))) hC158 rfl
                                    refine inc_11_10_1_i (pc := 192) dX9_findChains_192 ?_
                                    have r120 : inR ((nI j158) + 1) 1 20 := inR_add (show inR (nI j158) 0 19 from hrg158) (show inR 1 1 1 from (inR_self _)) (by decide) (by decide)
                                    have e121 := ti_add (l := 1) (h := 20) (show inR (nI j158) 0 19 from hrg158) (show inR 1 1 1 from (inR_self _)) (by decide) (by decide)
                                    refine R_goto (pc := 195) 158 dX9_findChains_195 (by decide) ?_
                                    rw [nI_1]
                                    exact ih158 (j158 + 1) _ (by omega) (by omega) hV118 hW119 (mg_f (by omega) hX158_0 b179_115) (fq_a 153 _ hX158_1 rfl) (tm_next (by omega) b162_110)
                                  · skip
                                    refine R_iload (pc := 182) dX9_findChains_182 rfl ?_
                                    refine R_goto (pc := 184) 191 dX9_findChains_184 (by decide) ?_
                                    have hx122 : vp_in (nI j158) 20 := (vp_in_nI (by omega) (by decide))
                                    refine W_iastore (pc := 191) dX9_findChains_191 (c_153 _) hx122 (a_153 _ _) ?_
                                    have hV123 := sa_153 hI158 (Int32.toNatClampNeg (nI j158)) (iva_153 hV91 _ (lt_of_vp hx100))
                                    have hW124 := cor_sa 153 (upd (σ158.2.2.1 153) (Int32.toNatClampNeg (nI j158)) (σx92.2.2.1 153 (Int32.toNatClampNeg (nI j41)))) hC158 rfl
                                    refine inc_11_10_1_i (pc := 192) dX9_findChains_192 ?_
                                    have r125 : inR ((nI j158) + 1) 1 20 := inR_add (show inR (nI j158) 0 19 from hrg158) (show inR 1 1 1 from (inR_self _)) (by decide) (by decide)
                                    have e126 := ti_add (l := 1) (h := 20) (show inR (nI j158) 0 19 from hrg158) (show inR 1 1 1 from (inR_self _)) (by decide) (by decide)
                                    refine R_goto (pc := 195) 158 dX9_findChains_195 (by decide) ?_
                                    rw [nI_1]
                                    exact ih158 (j158 + 1) _ (by omega) (by omega) hV123 hW124 (mg_t (by omega) hX158_0 b179_115) (fq_a 153 _ hX158_1 rfl) (tm_next (by omega) b162_110)
                            exact HL158 20 0 _ (by omega) (by omega) hV91 hW96 mg_0 hq97 (Nat.zero_le _)
                          · skip
                            refine R_aload_n (pc := 118) dX9_findChains_118 rfl rfl ?_
                            refine R_iload (pc := 119) dX9_findChains_119 rfl ?_
                            have hx127 : vp_in (nI j31) 20 := (vp_in_nI (by omega) (by decide))
                            refine R_iaload (pc := 121) dX9_findChains_121 (c_153 _) hx127 ?_
                            refine R_goto (pc := 122) 129 dX9_findChains_122 (by decide) ?_
                            refine st_11_8_i_i (pc := 129) dX9_findChains_129 ?_
                            refine R_aload_n (pc := 131) dX9_findChains_131 rfl rfl ?_
                            refine R_iload (pc := 132) dX9_findChains_132 rfl ?_
                            have hx128 : vp_in (nI j31) 20 := (vp_in_nI (by omega) (by decide))
                            refine R_iaload (pc := 134) dX9_findChains_134 (c_153 _) hx128 ?_
                            refine R_aload_n (pc := 135) dX9_findChains_135 rfl rfl ?_
                            refine R_iload (pc := 136) dX9_findChains_136 rfl ?_
                            have hx129 : vp_in (nI j41) 20 := (vp_in_nI (by omega) (by decide))
                            refine R_iaload (pc := 138) dX9_findChains_138 (c_153 _) hx129 ?_
                            refine R_icge (pc := 139) 149 dX9_findChains_139 (by decide) (fun h => absurd h b115_101) (fun _ => ?_)
                            refine R_aload_n (pc := 142) dX9_findChains_142 rfl rfl ?_
                            refine R_iload (pc := 143) dX9_findChains_143 rfl ?_
                            have hx131 : vp_in (nI j41) 20 := (vp_in_nI (by omega) (by decide))
                            refine R_iaload (pc := 145) dX9_findChains_145 (c_153 _) hx131 ?_
                            refine R_goto (pc := 146) 153 dX9_findChains_146 (by decide) ?_
                            refine st_11_9_i_i (pc := 153) dX9_findChains_153 ?_
                            refine R_iconst (pc := 155) (v := 0) dX9_findChains_155 (by decide) ?_
                            refine st_11_10_i_i (pc := 156) dX9_findChains_156 ?_
                            have HL158 : ∀ (q j158 : Nat) (σ158 : Sg), j158 + q = 20 → 0 ≤ j158 → Inv σ158 → Cor σ σ158 → MG (σx92.2.2.1 153) (σx92.2.2.1 153 (Int32.toNatClampNeg (nI j31))) (σx92.2.2.1 153 (Int32.toNatClampNeg (nI j41))) j158 (σ158.2.2.1 153) → Fq fq3 σ σ158 → j158 ≤ (tm (σ.1 14000) (σ.1 14013) (σ.2.2.1 148)) → R G l yX9_findChains cX9_findChains 11 none 3 0 0 (QV (fun w2 => ∃ σ2, w2 = WW σ2 ∧ Inv σ2 ∧ Cor σ σ2 ∧ Fq fq3 σ σ2 ∧ ∀ x : Nat, x < (tm (σ.1 14000) (σ.1 14013) (σ.2.2.1 148)) → ¬ nI x = u → σ2.2.2.1 153 x = nI (lab (fun a b => mtM σ (nI a) (nI b)) (fun i => decide (i < (tm (σ.1 14000) (σ.1 14013) (σ.2.2.1 148))) && !decide (nI i = u)) x))) 158 [(some (.ref 140)), (some (.ref 153)), (some (.int 1)), (some (.int u)), (some (.int (nI (tm (σ.1 14000) (σ.1 14013) (σ.2.2.1 148))))), (some (.int (nI j31))), (some (.int (nI j41))), (some (.int 1)), (some (.int (σx92.2.2.1 153 (Int32.toNatClampNeg (nI j31))))), (some (.int (σx92.2.2.1 153 (Int32.toNatClampNeg (nI j41))))), (some (.int (nI j158)))] [] (WW σ158) 0 0 := by
                              intro q
                              induction q with
                              | zero =>
                                intro j158 σ158 hj hs158 hI158 hC158 hX158_0 hX158_1 hX158_2
                                obtain rfl : j158 = 20 := by omega
                                refine R_iload (pc := 158) dX9_findChains_158 rfl ?_
                                refine R_iload (pc := 160) dX9_findChains_160 rfl ?_
                                refine R_icge (pc := 162) 198 dX9_findChains_162 (by decide) (fun _ => ?_) (fun h => absurd (Int32.not_lt.mp (inR_up (tm_in (σ.1 14000) (σ.1 14013) (σ.2.2.1 148)) (Int32.le_refl _) (by decide)).2) h)
                                refine inc_11_6_1_i (pc := 198) dX9_findChains_198 ?_
                                have r133 : inR ((nI j41) + 1) 1 20 := inR_add (show inR (nI j41) 0 19 from hrg41) (show inR 1 1 1 from (inR_self _)) (by decide) (by decide)
                                have e134 := ti_add (l := 1) (h := 20) (show inR (nI j41) 0 19 from hrg41) (show inR 1 1 1 from (inR_self _)) (by decide) (by decide)
                                refine R_goto (pc := 201) 41 dX9_findChains_201 (by decide) ?_
                                rw [nI_1]
                                exact ih41 (j41 + 1) _ _ _ _ _ (by omega) (by omega) hI158 hC158 (lb_lt (by have q := hX41_0; rw [← (show (σx92.2.2.1 153) = (σ41.2.2.1 153) from hq94.2.2.1 153 rfl)] at q; exact q) (tm_next (by omega) b35_3) (Nat.lt_of_not_le (fun q => b45_7 ((nI_leI (by omega) (by omega)).mpr q))) (tm_le _ _ _) b51_10 b57_36 (by have q := b68_64; rw [← (show (σx92.2.2.1 153) = (σ41.2.2.1 153) from hq94.2.2.1 153 rfl)] at q; exact q) ((mtM_fq hX41_1 rfl rfl rfl rfl rfl rfl rfl _ _).symm.trans hb95) hS (Int32.not_le.mp b115_101) (by have q := hX158_0; rw [(show 20 = (tm (σ.1 14000) (σ.1 14013) (σ.2.2.1 148)) from by first | exact tm_exit (by omega) hX158_2 (by assumption) | exact tm_ex20 hX158_2)] at q; exact q)) hX158_1
                              | succ q ih158 =>
                                intro j158 σ158 hj hs158 hI158 hC158 hX158_0 hX158_1 hX158_2
                                have hrg158 : inR (nI j158) 0 19 := inR_ix hs158 (show j158 < 20 by omega) (by decide) (by decide) (by decide)
                                have hlt158 : j158 < 20 := by omega
                                refine R_iload (pc := 158) dX9_findChains_158 rfl ?_
                                refine R_iload (pc := 160) dX9_findChains_160 rfl ?_
                                refine R_icge (pc := 162) 198 dX9_findChains_162 (by decide) (fun b162_135 => ?_) (fun b162_135 => ?_)
                                · skip
                                  refine inc_11_6_1_i (pc := 198) dX9_findChains_198 ?_
                                  have r136 : inR ((nI j41) + 1) 1 20 := inR_add (show inR (nI j41) 0 19 from hrg41) (show inR 1 1 1 from (inR_self _)) (by decide) (by decide)
                                  have e137 := ti_add (l := 1) (h := 20) (show inR (nI j41) 0 19 from hrg41) (show inR 1 1 1 from (inR_self _)) (by decide) (by decide)
                                  refine R_goto (pc := 201) 41 dX9_findChains_201 (by decide) ?_
                                  rw [nI_1]
                                  exact ih41 (j41 + 1) _ _ _ _ _ (by omega) (by omega) hI158 hC158 (lb_lt (by have q := hX41_0; rw [← (show (σx92.2.2.1 153) = (σ41.2.2.1 153) from hq94.2.2.1 153 rfl)] at q; exact q) (tm_next (by omega) b35_3) (Nat.lt_of_not_le (fun q => b45_7 ((nI_leI (by omega) (by omega)).mpr q))) (tm_le _ _ _) b51_10 b57_36 (by have q := b68_64; rw [← (show (σx92.2.2.1 153) = (σ41.2.2.1 153) from hq94.2.2.1 153 rfl)] at q; exact q) ((mtM_fq hX41_1 rfl rfl rfl rfl rfl rfl rfl _ _).symm.trans hb95) hS (Int32.not_le.mp b115_101) (by have q := hX158_0; rw [(show j158 = (tm (σ.1 14000) (σ.1 14013) (σ.2.2.1 148)) from by first | exact tm_exit (by omega) hX158_2 (by assumption) | exact tm_ex20 hX158_2)] at q; exact q)) hX158_1
                                · skip
                                  refine R_iload (pc := 165) dX9_findChains_165 rfl ?_
                                  refine R_ifeq (pc := 167) 198 dX9_findChains_167 (by decide) (fun h => absurd h (by decide)) (fun _ => ?_)
                                  refine R_aload_n (pc := 170) dX9_findChains_170 rfl rfl ?_
                                  refine R_iload (pc := 171) dX9_findChains_171 rfl ?_
                                  refine R_aload_n (pc := 173) dX9_findChains_173 rfl rfl ?_
                                  refine R_iload (pc := 174) dX9_findChains_174 rfl ?_
                                  have hx139 : vp_in (nI j158) 20 := (vp_in_nI (by omega) (by decide))
                                  refine R_iaload (pc := 176) dX9_findChains_176 (c_153 _) hx139 ?_
                                  refine R_iload (pc := 177) dX9_findChains_177 rfl ?_
                                  refine R_icne (pc := 179) 187 dX9_findChains_179 (by decide) (fun b179_140 => ?_) (fun b179_140 => ?_)
                                  · skip
                                    refine R_aload_n (pc := 187) dX9_findChains_187 rfl rfl ?_
                                    refine R_iload (pc := 188) dX9_findChains_188 rfl ?_
                                    have hx141 : vp_in (nI j158) 20 := (vp_in_nI (by omega) (by decide))
                                    refine R_iaload (pc := 190) dX9_findChains_190 (c_153 _) hx141 ?_
                                    have hx142 : vp_in (nI j158) 20 := (vp_in_nI (by omega) (by decide))
                                    refine W_iastore (pc := 191) dX9_findChains_191 (c_153 _) hx142 (a_153 _ _) ?_
                                    have hV143 := sa_153 hI158 (Int32.toNatClampNeg (nI j158)) (iva_153 hI158 _ (lt_of_vp hx139))
                                    have hW144 := cor_sa 153 (upd (σ158.2.2.1 153) (Int32.toNatClampNeg (nI j158)) (σ158.2.2.1 153 (Int32.toNatClampNeg (nI j158)))) hC158 rfl
                                    refine inc_11_10_1_i (pc := 192) dX9_findChains_192 ?_
                                    have r145 : inR ((nI j158) + 1) 1 20 := inR_add (show inR (nI j158) 0 19 from hrg158) (show inR 1 1 1 from (inR_self _)) (by decide) (by decide)
                                    have e146 := ti_add (l := 1) (h := 20) (show inR (nI j158) 0 19 from hrg158) (show inR 1 1 1 from (inR_self _)) (by decide) (by decide)
                                    refine R_goto (pc := 195) 158 dX9_findChains_195 (by decide) ?_
                                    rw [nI_1]
                                    exact ih158 (j158 + 1) _ (by omega) (by omega) hV143 hW144 (mg_f (by omega) hX158_0 b179_140) (fq_a 153 _ hX158_1 rfl) (tm_next (by omega) b162_135)
                                  · skip
                                    refine R_iload (pc := 182) dX9_findChains_182 rfl ?_
                                    refine R_goto (pc := 184) 191 dX9_findChains_184 (by decide) ?_
                                    have hx147 : vp_in (nI j158) 20 := (vp_in_nI (by omega) (by decide))
                                    refine W_iastore (pc := 191) dX9_findChains_191 (c_153 _) hx147 (a_153 _ _) ?_
                                    have hV148 := sa_153 hI158 (Int32.toNatClampNeg (nI j158)) (iva_153 hV91 _ (lt_of_vp hx99))
                                    have hW149 := cor_sa 153 (upd (σ158.2.2.1 153) (Int32.toNatClampNeg (nI j158)) (σx92.2.2.1 153 (Int32.toNatClampNeg (nI j31)))) hC158 rfl
                                    refine inc_11_10_1_i (pc := 192) dX9_findChains_192 ?_
                                    have r150 : inR ((nI j158) + 1) 1 20 := inR_add (show inR (nI j158) 0 19 from hrg158) (show inR 1 1 1 from (inR_self _)) (by decide) (by decide)
                                    have e151 := ti_add (l := 1) (h := 20) (show inR (nI j158) 0 19 from hrg158) (show inR 1 1 1 from (inR_self _)) (by decide) (by decide)
                                    refine R_goto (pc := 195) 158 dX9_findChains_195 (by decide) ?_
                                    rw [nI_1]
                                    exact ih158 (j158 + 1) _ (by omega) (by omega) hV148 hW149 (mg_t (by omega) hX158_0 b179_140) (fq_a 153 _ hX158_1 rfl) (tm_next (by omega) b162_135)
                            exact HL158 20 0 _ (by omega) (by omega) hV91 hW96 mg_0 hq97 (Nat.zero_le _)
                        · skip
                          refine R_ifeq (pc := 83) 104 dX9_findChains_83 (by decide) (fun _ => ?_) (fun h => absurd (by decide) h)
                          refine R_iconst (pc := 104) (v := 0) dX9_findChains_104 (by decide) ?_
                          refine st_11_7_i_i (pc := 105) dX9_findChains_105 ?_
                          refine R_aload_n (pc := 107) dX9_findChains_107 rfl rfl ?_
                          refine R_iload (pc := 108) dX9_findChains_108 rfl ?_
                          have hx153 : vp_in (nI j31) 20 := (vp_in_nI (by omega) (by decide))
                          refine R_iaload (pc := 110) dX9_findChains_110 (c_153 _) hx153 ?_
                          refine R_aload_n (pc := 111) dX9_findChains_111 rfl rfl ?_
                          refine R_iload (pc := 112) dX9_findChains_112 rfl ?_
                          have hx154 : vp_in (nI j41) 20 := (vp_in_nI (by omega) (by decide))
                          refine R_iaload (pc := 114) dX9_findChains_114 (c_153 _) hx154 ?_
                          refine R_icge (pc := 115) 125 dX9_findChains_115 (by decide) (fun b115_155 => ?_) (fun b115_155 => ?_)
                          · skip
                            refine R_aload_n (pc := 125) dX9_findChains_125 rfl rfl ?_
                            refine R_iload (pc := 126) dX9_findChains_126 rfl ?_
                            have hx156 : vp_in (nI j41) 20 := (vp_in_nI (by omega) (by decide))
                            refine R_iaload (pc := 128) dX9_findChains_128 (c_153 _) hx156 ?_
                            refine st_11_8_i_i (pc := 129) dX9_findChains_129 ?_
                            refine R_aload_n (pc := 131) dX9_findChains_131 rfl rfl ?_
                            refine R_iload (pc := 132) dX9_findChains_132 rfl ?_
                            have hx157 : vp_in (nI j31) 20 := (vp_in_nI (by omega) (by decide))
                            refine R_iaload (pc := 134) dX9_findChains_134 (c_153 _) hx157 ?_
                            refine R_aload_n (pc := 135) dX9_findChains_135 rfl rfl ?_
                            refine R_iload (pc := 136) dX9_findChains_136 rfl ?_
                            have hx158 : vp_in (nI j41) 20 := (vp_in_nI (by omega) (by decide))
                            refine R_iaload (pc := 138) dX9_findChains_138 (c_153 _) hx158 ?_
                            refine R_icge (pc := 139) 149 dX9_findChains_139 (by decide) (fun _ => ?_) (fun h => absurd b115_155 h)
                            refine R_aload_n (pc := 149) dX9_findChains_149 rfl rfl ?_
                            refine R_iload (pc := 150) dX9_findChains_150 rfl ?_
                            have hx160 : vp_in (nI j31) 20 := (vp_in_nI (by omega) (by decide))
                            refine R_iaload (pc := 152) dX9_findChains_152 (c_153 _) hx160 ?_
                            refine st_11_9_i_i (pc := 153) dX9_findChains_153 ?_
                            refine R_iconst (pc := 155) (v := 0) dX9_findChains_155 (by decide) ?_
                            refine st_11_10_i_i (pc := 156) dX9_findChains_156 ?_
                            refine R_iload (pc := 158) dX9_findChains_158 rfl ?_
                            refine R_iload (pc := 160) dX9_findChains_160 rfl ?_
                            refine R_icge (pc := 162) 198 dX9_findChains_162 (by decide) (fun b162_161 => ?_) (fun b162_161 => ?_)
                            · skip
                              refine inc_11_6_1_i (pc := 198) dX9_findChains_198 ?_
                              have r162 : inR ((nI j41) + 1) 1 20 := inR_add (show inR (nI j41) 0 19 from hrg41) (show inR 1 1 1 from (inR_self _)) (by decide) (by decide)
                              have e163 := ti_add (l := 1) (h := 20) (show inR (nI j41) 0 19 from hrg41) (show inR 1 1 1 from (inR_self _)) (by decide) (by decide)
                              refine R_goto (pc := 201) 41 dX9_findChains_201 (by decide) ?_
                              rw [nI_1]
                              exact ih41 (j41 + 1) _ _ _ _ _ (by omega) (by omega) hV91 hW96 (by rw [(show (σx92.2.2.1 153) = (σ41.2.2.1 153) from hq94.2.2.1 153 rfl)]; exact (lb_no hX41_0 (tm_next (by omega) b35_3) (Nat.lt_of_not_le (fun q => b45_7 ((nI_leI (by omega) (by omega)).mpr q))) (tm_le _ _ _) (Or.inr (Or.inr (Or.inr ((mtM_fq hX41_1 rfl rfl rfl rfl rfl rfl rfl _ _).symm.trans hb95)))))) hq97
                            · skip
                              refine R_iload (pc := 165) dX9_findChains_165 rfl ?_
                              refine R_ifeq (pc := 167) 198 dX9_findChains_167 (by decide) (fun _ => ?_) (fun h => absurd (by decide) h)
                              refine inc_11_6_1_i (pc := 198) dX9_findChains_198 ?_
                              have r165 : inR ((nI j41) + 1) 1 20 := inR_add (show inR (nI j41) 0 19 from hrg41) (show inR 1 1 1 from (inR_self _)) (by decide) (by decide)
                              have e166 := ti_add (l := 1) (h := 20) (show inR (nI j41) 0 19 from hrg41) (show inR 1 1 1 from (inR_self _)) (by decide) (by decide)
                              refine R_goto (pc := 201) 41 dX9_findChains_201 (by decide) ?_
                              rw [nI_1]
                              exact ih41 (j41 + 1) _ _ _ _ _ (by omega) (by omega) hV91 hW96 (by rw [(show (σx92.2.2.1 153) = (σ41.2.2.1 153) from hq94.2.2.1 153 rfl)]; exact (lb_no hX41_0 (tm_next (by omega) b35_3) (Nat.lt_of_not_le (fun q => b45_7 ((nI_leI (by omega) (by omega)).mpr q))) (tm_le _ _ _) (Or.inr (Or.inr (Or.inr ((mtM_fq hX41_1 rfl rfl rfl rfl rfl rfl rfl _ _).symm.trans hb95)))))) hq97
                          · skip
                            refine R_aload_n (pc := 118) dX9_findChains_118 rfl rfl ?_
                            refine R_iload (pc := 119) dX9_findChains_119 rfl ?_
                            have hx167 : vp_in (nI j31) 20 := (vp_in_nI (by omega) (by decide))
                            refine R_iaload (pc := 121) dX9_findChains_121 (c_153 _) hx167 ?_
                            refine R_goto (pc := 122) 129 dX9_findChains_122 (by decide) ?_
                            refine st_11_8_i_i (pc := 129) dX9_findChains_129 ?_
                            refine R_aload_n (pc := 131) dX9_findChains_131 rfl rfl ?_
                            refine R_iload (pc := 132) dX9_findChains_132 rfl ?_
                            have hx168 : vp_in (nI j31) 20 := (vp_in_nI (by omega) (by decide))
                            refine R_iaload (pc := 134) dX9_findChains_134 (c_153 _) hx168 ?_
                            refine R_aload_n (pc := 135) dX9_findChains_135 rfl rfl ?_
                            refine R_iload (pc := 136) dX9_findChains_136 rfl ?_
                            have hx169 : vp_in (nI j41) 20 := (vp_in_nI (by omega) (by decide))
                            refine R_iaload (pc := 138) dX9_findChains_138 (c_153 _) hx169 ?_
                            refine R_icge (pc := 139) 149 dX9_findChains_139 (by decide) (fun h => absurd h b115_155) (fun _ => ?_)
                            refine R_aload_n (pc := 142) dX9_findChains_142 rfl rfl ?_
                            refine R_iload (pc := 143) dX9_findChains_143 rfl ?_
                            have hx171 : vp_in (nI j41) 20 := (vp_in_nI (by omega) (by decide))
                            refine R_iaload (pc := 145) dX9_findChains_145 (c_153 _) hx171 ?_
                            refine R_goto (pc := 146) 153 dX9_findChains_146 (by decide) ?_
                            refine st_11_9_i_i (pc := 153) dX9_findChains_153 ?_
                            refine R_iconst (pc := 155) (v := 0) dX9_findChains_155 (by decide) ?_
                            refine st_11_10_i_i (pc := 156) dX9_findChains_156 ?_
                            refine R_iload (pc := 158) dX9_findChains_158 rfl ?_
                            refine R_iload (pc := 160) dX9_findChains_160 rfl ?_
                            refine R_icge (pc := 162) 198 dX9_findChains_162 (by decide) (fun b162_172 => ?_) (fun b162_172 => ?_)
                            · skip
                              refine inc_11_6_1_i (pc := 198) dX9_findChains_198 ?_
                              have r173 : inR ((nI j41) + 1) 1 20 := inR_add (show inR (nI j41) 0 19 from hrg41) (show inR 1 1 1 from (inR_self _)) (by decide) (by decide)
                              have e174 := ti_add (l := 1) (h := 20) (show inR (nI j41) 0 19 from hrg41) (show inR 1 1 1 from (inR_self _)) (by decide) (by decide)
                              refine R_goto (pc := 201) 41 dX9_findChains_201 (by decide) ?_
                              rw [nI_1]
                              exact ih41 (j41 + 1) _ _ _ _ _ (by omega) (by omega) hV91 hW96 (by rw [(show (σx92.2.2.1 153) = (σ41.2.2.1 153) from hq94.2.2.1 153 rfl)]; exact (lb_no hX41_0 (tm_next (by omega) b35_3) (Nat.lt_of_not_le (fun q => b45_7 ((nI_leI (by omega) (by omega)).mpr q))) (tm_le _ _ _) (Or.inr (Or.inr (Or.inr ((mtM_fq hX41_1 rfl rfl rfl rfl rfl rfl rfl _ _).symm.trans hb95)))))) hq97
                            · skip
                              refine R_iload (pc := 165) dX9_findChains_165 rfl ?_
                              refine R_ifeq (pc := 167) 198 dX9_findChains_167 (by decide) (fun _ => ?_) (fun h => absurd (by decide) h)
                              refine inc_11_6_1_i (pc := 198) dX9_findChains_198 ?_
                              have r176 : inR ((nI j41) + 1) 1 20 := inR_add (show inR (nI j41) 0 19 from hrg41) (show inR 1 1 1 from (inR_self _)) (by decide) (by decide)
                              have e177 := ti_add (l := 1) (h := 20) (show inR (nI j41) 0 19 from hrg41) (show inR 1 1 1 from (inR_self _)) (by decide) (by decide)
                              refine R_goto (pc := 201) 41 dX9_findChains_201 (by decide) ?_
                              rw [nI_1]
                              exact ih41 (j41 + 1) _ _ _ _ _ (by omega) (by omega) hV91 hW96 (by rw [(show (σx92.2.2.1 153) = (σ41.2.2.1 153) from hq94.2.2.1 153 rfl)]; exact (lb_no hX41_0 (tm_next (by omega) b35_3) (Nat.lt_of_not_le (fun q => b45_7 ((nI_leI (by omega) (by omega)).mpr q))) (tm_le _ _ _) (Or.inr (Or.inr (Or.inr ((mtM_fq hX41_1 rfl rfl rfl rfl rfl rfl rfl _ _).symm.trans hb95)))))) hq97
            exact HL41 20 0 _ _ _ _ _ (by omega) (by omega) hI31 hC31 hX31_0 hX31_1
      exact HL31 20 0 _ _ _ _ _ _ (by omega) (by omega) hI9 hC9 (lb_0 (by have q := hX9_0; rw [(show 20 = (tm (σ.1 14000) (σ.1 14013) (σ.2.2.1 148)) from by first | exact tm_exit (by omega) hX9_2 (by assumption) | exact tm_ex20 hX9_2)] at q; exact q)) hX9_1 (Nat.zero_le _)
    | succ q ih9 =>
      intro j9 σ9 hj hs9 hI9 hC9 hX9_0 hX9_1 hX9_2
      have hrg9 : inR (nI j9) 0 19 := inR_ix hs9 (show j9 < 20 by omega) (by decide) (by decide) (by decide)
      have hlt9 : j9 < 20 := by omega
      refine R_iload (pc := 9) dX9_findChains_9 rfl ?_
      refine R_iload (pc := 11) dX9_findChains_11 rfl ?_
      refine R_icge (pc := 13) 28 dX9_findChains_13 (by decide) (fun b13_178 => ?_) (fun b13_178 => ?_)
      · skip
        refine R_iconst (pc := 28) (v := 0) dX9_findChains_28 (by decide) ?_
        refine st_11_5_i_i (pc := 29) dX9_findChains_29 ?_
        have HL31 : ∀ (q j31 : Nat) (σ31 : Sg) (g6_31 : Option Value) (g7_31 : Option Value) (g8_31 : Option Value) (g9_31 : Option Value) (g10_31 : Option Value), j31 + q = 20 → 0 ≤ j31 → Inv σ31 → Cor σ σ31 → LB (fun a b => mtM σ (nI a) (nI b)) (tm (σ.1 14000) (σ.1 14013) (σ.2.2.1 148)) u (σ31.2.2.1 153) j31 0 → Fq fq3 σ σ31 → j31 ≤ (tm (σ.1 14000) (σ.1 14013) (σ.2.2.1 148)) → R G l yX9_findChains cX9_findChains 11 none 3 0 0 (QV (fun w2 => ∃ σ2, w2 = WW σ2 ∧ Inv σ2 ∧ Cor σ σ2 ∧ Fq fq3 σ σ2 ∧ ∀ x : Nat, x < (tm (σ.1 14000) (σ.1 14013) (σ.2.2.1 148)) → ¬ nI x = u → σ2.2.2.1 153 x = nI (lab (fun a b => mtM σ (nI a) (nI b)) (fun i => decide (i < (tm (σ.1 14000) (σ.1 14013) (σ.2.2.1 148))) && !decide (nI i = u)) x))) 31 [(some (.ref 140)), (some (.ref 153)), (some (.int 1)), (some (.int u)), (some (.int (nI (tm (σ.1 14000) (σ.1 14013) (σ.2.2.1 148))))), (some (.int (nI j31))), g6_31, g7_31, g8_31, g9_31, g10_31] [] (WW σ31) 0 0 := by
          intro q
          induction q with
          | zero =>
            intro j31 σ31 g6_31 g7_31 g8_31 g9_31 g10_31 hj hs31 hI31 hC31 hX31_0 hX31_1 hX31_2
            obtain rfl : j31 = 20 := by omega
            refine R_iload (pc := 31) dX9_findChains_31 rfl ?_
            refine R_iload (pc := 33) dX9_findChains_33 rfl ?_
            refine R_icge (pc := 35) 210 dX9_findChains_35 (by decide) (fun _ => ?_) (fun h => absurd (Int32.not_lt.mp (inR_up (tm_in (σ.1 14000) (σ.1 14013) (σ.2.2.1 148)) (Int32.le_refl _) (by decide)).2) h)
            exact R_vret (pc := 210) dX9_findChains_210 rfl (Nat.zero_le _) (Nat.zero_le _) ⟨rfl, _, rfl, hI31, hC31, hX31_1, (lb_end (tm_le _ _ _) hS (by have q := hX31_0; rw [(show 20 = (tm (σ.1 14000) (σ.1 14013) (σ.2.2.1 148)) from by first | exact tm_exit (by omega) hX31_2 (by assumption) | exact tm_ex20 hX31_2)] at q; exact q))⟩
          | succ q ih31 =>
            intro j31 σ31 g6_31 g7_31 g8_31 g9_31 g10_31 hj hs31 hI31 hC31 hX31_0 hX31_1 hX31_2
            have hrg31 : inR (nI j31) 0 19 := inR_ix hs31 (show j31 < 20 by omega) (by decide) (by decide) (by decide)
            have hlt31 : j31 < 20 := by omega
            refine R_iload (pc := 31) dX9_findChains_31 rfl ?_
            refine R_iload (pc := 33) dX9_findChains_33 rfl ?_
            refine R_icge (pc := 35) 210 dX9_findChains_35 (by decide) (fun b35_180 => ?_) (fun b35_180 => ?_)
            · skip
              exact R_vret (pc := 210) dX9_findChains_210 rfl (Nat.zero_le _) (Nat.zero_le _) ⟨rfl, _, rfl, hI31, hC31, hX31_1, (lb_end (tm_le _ _ _) hS (by have q := hX31_0; rw [(show j31 = (tm (σ.1 14000) (σ.1 14013) (σ.2.2.1 148)) from by first | exact tm_exit (by omega) hX31_2 (by assumption) | exact tm_ex20 hX31_2)] at q; exact q))⟩
            · skip
              refine R_iconst (pc := 38) (v := 0) dX9_findChains_38 (by decide) ?_
              refine st_11_6_i_i (pc := 39) dX9_findChains_39 ?_
              have HL41 : ∀ (q j41 : Nat) (σ41 : Sg) (g7_41 : Option Value) (g8_41 : Option Value) (g9_41 : Option Value) (g10_41 : Option Value), j41 + q = 20 → 0 ≤ j41 → Inv σ41 → Cor σ σ41 → LB (fun a b => mtM σ (nI a) (nI b)) (tm (σ.1 14000) (σ.1 14013) (σ.2.2.1 148)) u (σ41.2.2.1 153) j31 j41 → Fq fq3 σ σ41 → R G l yX9_findChains cX9_findChains 11 none 3 0 0 (QV (fun w2 => ∃ σ2, w2 = WW σ2 ∧ Inv σ2 ∧ Cor σ σ2 ∧ Fq fq3 σ σ2 ∧ ∀ x : Nat, x < (tm (σ.1 14000) (σ.1 14013) (σ.2.2.1 148)) → ¬ nI x = u → σ2.2.2.1 153 x = nI (lab (fun a b => mtM σ (nI a) (nI b)) (fun i => decide (i < (tm (σ.1 14000) (σ.1 14013) (σ.2.2.1 148))) && !decide (nI i = u)) x))) 41 [(some (.ref 140)), (some (.ref 153)), (some (.int 1)), (some (.int u)), (some (.int (nI (tm (σ.1 14000) (σ.1 14013) (σ.2.2.1 148))))), (some (.int (nI j31))), (some (.int (nI j41))), g7_41, g8_41, g9_41, g10_41] [] (WW σ41) 0 0 := by
                intro q
                induction q with
                | zero =>
                  intro j41 σ41 g7_41 g8_41 g9_41 g10_41 hj hs41 hI41 hC41 hX41_0 hX41_1
                  obtain rfl : j41 = 20 := by omega
                  refine R_iload (pc := 41) dX9_findChains_41 rfl ?_
                  refine R_iload (pc := 43) dX9_findChains_43 rfl ?_
                  refine R_icge (pc := 45) 204 dX9_findChains_45 (by decide) (fun _ => ?_) (fun h => absurd (Int32.not_lt.mp (inR_up hrg31 (Int32.le_refl _) (by decide)).2) h)
                  refine inc_11_5_1_i (pc := 204) dX9_findChains_204 ?_
                  have r182 : inR ((nI j31) + 1) 1 20 := inR_add (show inR (nI j31) 0 19 from hrg31) (show inR 1 1 1 from (inR_self _)) (by decide) (by decide)
                  have e183 := ti_add (l := 1) (h := 20) (show inR (nI j31) 0 19 from hrg31) (show inR 1 1 1 from (inR_self _)) (by decide) (by decide)
                  refine R_goto (pc := 207) 31 dX9_findChains_207 (by decide) ?_
                  rw [nI_1]
                  exact ih31 (j31 + 1) _ _ _ _ _ _ (by omega) (by omega) hI41 hC41 (lb_e hX41_0 (by omega)) hX41_1 (tm_next (by omega) b35_180)
                | succ q ih41 =>
                  intro j41 σ41 g7_41 g8_41 g9_41 g10_41 hj hs41 hI41 hC41 hX41_0 hX41_1
                  have hrg41 : inR (nI j41) 0 19 := inR_ix hs41 (show j41 < 20 by omega) (by decide) (by decide) (by decide)
                  have hlt41 : j41 < 20 := by omega
                  refine R_iload (pc := 41) dX9_findChains_41 rfl ?_
                  refine R_iload (pc := 43) dX9_findChains_43 rfl ?_
                  refine R_icge (pc := 45) 204 dX9_findChains_45 (by decide) (fun b45_184 => ?_) (fun b45_184 => ?_)
                  · skip
                    refine inc_11_5_1_i (pc := 204) dX9_findChains_204 ?_
                    have r185 : inR ((nI j31) + 1) 1 20 := inR_add (show inR (nI j31) 0 19 from hrg31) (show inR 1 1 1 from (inR_self _)) (by decide) (by decide)
                    have e186 := ti_add (l := 1) (h := 20) (show inR (nI j31) 0 19 from hrg31) (show inR 1 1 1 from (inR_self _)) (by decide) (by decide)
                    refine R_goto (pc := 207) 31 dX9_findChains_207 (by decide) ?_
                    rw [nI_1]
                    exact ih31 (j31 + 1) _ _ _ _ _ _ (by omega) (by omega) hI41 hC41 (lb_e hX41_0 ((nI_leI (by omega) (by omega)).mp b45_184)) hX41_1 (tm_next (by omega) b35_180)
                  · skip
                    refine R_iload (pc := 48) dX9_findChains_48 rfl ?_
                    refine R_iload_n (pc := 50) dX9_findChains_50 rfl rfl ?_
                    refine R_iceq (pc := 51) 104 dX9_findChains_51 (by decide) (fun b51_187 => ?_) (fun b51_187 => ?_)
                    · skip
                      refine R_iconst (pc := 104) (v := 0) dX9_findChains_104 (by decide) ?_
                      refine st_11_7_i_i (pc := 105) dX9_findChains_105 ?_
                      refine R_aload_n (pc := 107) dX9_findChains_107 rfl rfl ?_
                      refine R_iload (pc := 108) dX9_findChains_108 rfl ?_
                      have hx188 : vp_in (nI j31) 20 := (vp_in_nI (by omega) (by decide))
                      refine R_iaload (pc := 110) dX9_findChains_110 (c_153 _) hx188 ?_
                      refine R_aload_n (pc := 111) dX9_findChains_111 rfl rfl ?_
                      refine R_iload (pc := 112) dX9_findChains_112 rfl ?_
                      have hx189 : vp_in (nI j41) 20 := (vp_in_nI (by omega) (by decide))
                      refine R_iaload (pc := 114) dX9_findChains_114 (c_153 _) hx189 ?_
                      refine R_icge (pc := 115) 125 dX9_findChains_115 (by decide) (fun b115_190 => ?_) (fun b115_190 => ?_)
                      · skip
                        refine R_aload_n (pc := 125) dX9_findChains_125 rfl rfl ?_
                        refine R_iload (pc := 126) dX9_findChains_126 rfl ?_
                        have hx191 : vp_in (nI j41) 20 := (vp_in_nI (by omega) (by decide))
                        refine R_iaload (pc := 128) dX9_findChains_128 (c_153 _) hx191 ?_
                        refine st_11_8_i_i (pc := 129) dX9_findChains_129 ?_
                        refine R_aload_n (pc := 131) dX9_findChains_131 rfl rfl ?_
                        refine R_iload (pc := 132) dX9_findChains_132 rfl ?_
                        have hx192 : vp_in (nI j31) 20 := (vp_in_nI (by omega) (by decide))
                        refine R_iaload (pc := 134) dX9_findChains_134 (c_153 _) hx192 ?_
                        refine R_aload_n (pc := 135) dX9_findChains_135 rfl rfl ?_
                        refine R_iload (pc := 136) dX9_findChains_136 rfl ?_
                        have hx193 : vp_in (nI j41) 20 := (vp_in_nI (by omega) (by decide))
                        refine R_iaload (pc := 138) dX9_findChains_138 (c_153 _) hx193 ?_
                        refine R_icge (pc := 139) 149 dX9_findChains_139 (by decide) (fun _ => ?_) (fun h => absurd b115_190 h)
                        refine R_aload_n (pc := 149) dX9_findChains_149 rfl rfl ?_
                        refine R_iload (pc := 150) dX9_findChains_150 rfl ?_
                        have hx195 : vp_in (nI j31) 20 := (vp_in_nI (by omega) (by decide))
                        refine R_iaload (pc := 152) dX9_findChains_152 (c_153 _) hx195 ?_
                        refine st_11_9_i_i (pc := 153) dX9_findChains_153 ?_
                        refine R_iconst (pc := 155) (v := 0) dX9_findChains_155 (by decide) ?_
                        refine st_11_10_i_i (pc := 156) dX9_findChains_156 ?_
                        refine R_iload (pc := 158) dX9_findChains_158 rfl ?_
                        refine R_iload (pc := 160) dX9_findChains_160 rfl ?_
                        refine R_icge (pc := 162) 198 dX9_findChains_162 (by decide) (fun b162_196 => ?_) (fun b162_196 => ?_)
                        · skip
                          refine inc_11_6_1_i (pc := 198) dX9_findChains_198 ?_
                          have r197 : inR ((nI j41) + 1) 1 20 := inR_add (show inR (nI j41) 0 19 from hrg41) (show inR 1 1 1 from (inR_self _)) (by decide) (by decide)
                          have e198 := ti_add (l := 1) (h := 20) (show inR (nI j41) 0 19 from hrg41) (show inR 1 1 1 from (inR_self _)) (by decide) (by decide)
                          refine R_goto (pc := 201) 41 dX9_findChains_201 (by decide) ?_
                          rw [nI_1]
                          exact ih41 (j41 + 1) _ _ _ _ _ (by omega) (by omega) hI41 hC41 (lb_no hX41_0 (tm_next (by omega) b35_180) (Nat.lt_of_not_le (fun q => b45_184 ((nI_leI (by omega) (by omega)).mpr q))) (tm_le _ _ _) (Or.inl b51_187)) hX41_1
                        · skip
                          refine R_iload (pc := 165) dX9_findChains_165 rfl ?_
                          refine R_ifeq (pc := 167) 198 dX9_findChains_167 (by decide) (fun _ => ?_) (fun h => absurd (by decide) h)
                          refine inc_11_6_1_i (pc := 198) dX9_findChains_198 ?_
                          have r200 : inR ((nI j41) + 1) 1 20 := inR_add (show inR (nI j41) 0 19 from hrg41) (show inR 1 1 1 from (inR_self _)) (by decide) (by decide)
                          have e201 := ti_add (l := 1) (h := 20) (show inR (nI j41) 0 19 from hrg41) (show inR 1 1 1 from (inR_self _)) (by decide) (by decide)
                          refine R_goto (pc := 201) 41 dX9_findChains_201 (by decide) ?_
                          rw [nI_1]
                          exact ih41 (j41 + 1) _ _ _ _ _ (by omega) (by omega) hI41 hC41 (lb_no hX41_0 (tm_next (by omega) b35_180) (Nat.lt_of_not_le (fun q => b45_184 ((nI_leI (by omega) (by omega)).mpr q))) (tm_le _ _ _) (Or.inl b51_187)) hX41_1
                      · skip
                        refine R_aload_n (pc := 118) dX9_findChains_118 rfl rfl ?_
                        refine R_iload (pc := 119) dX9_findChains_119 rfl ?_
                        have hx202 : vp_in (nI j31) 20 := (vp_in_nI (by omega) (by decide))
                        refine R_iaload (pc := 121) dX9_findChains_121 (c_153 _) hx202 ?_
                        refine R_goto (pc := 122) 129 dX9_findChains_122 (by decide) ?_
                        refine st_11_8_i_i (pc := 129) dX9_findChains_129 ?_
                        refine R_aload_n (pc := 131) dX9_findChains_131 rfl rfl ?_
                        refine R_iload (pc := 132) dX9_findChains_132 rfl ?_
                        have hx203 : vp_in (nI j31) 20 := (vp_in_nI (by omega) (by decide))
                        refine R_iaload (pc := 134) dX9_findChains_134 (c_153 _) hx203 ?_
                        refine R_aload_n (pc := 135) dX9_findChains_135 rfl rfl ?_
                        refine R_iload (pc := 136) dX9_findChains_136 rfl ?_
                        have hx204 : vp_in (nI j41) 20 := (vp_in_nI (by omega) (by decide))
                        refine R_iaload (pc := 138) dX9_findChains_138 (c_153 _) hx204 ?_
                        refine R_icge (pc := 139) 149 dX9_findChains_139 (by decide) (fun h => absurd h b115_190) (fun _ => ?_)
                        refine R_aload_n (pc := 142) dX9_findChains_142 rfl rfl ?_
                        refine R_iload (pc := 143) dX9_findChains_143 rfl ?_
                        have hx206 : vp_in (nI j41) 20 := (vp_in_nI (by omega) (by decide))
                        refine R_iaload (pc := 145) dX9_findChains_145 (c_153 _) hx206 ?_
                        refine R_goto (pc := 146) 153 dX9_findChains_146 (by decide) ?_
                        refine st_11_9_i_i (pc := 153) dX9_findChains_153 ?_
                        refine R_iconst (pc := 155) (v := 0) dX9_findChains_155 (by decide) ?_
                        refine st_11_10_i_i (pc := 156) dX9_findChains_156 ?_
                        refine R_iload (pc := 158) dX9_findChains_158 rfl ?_
                        refine R_iload (pc := 160) dX9_findChains_160 rfl ?_
                        refine R_icge (pc := 162) 198 dX9_findChains_162 (by decide) (fun b162_207 => ?_) (fun b162_207 => ?_)
                        · skip
                          refine inc_11_6_1_i (pc := 198) dX9_findChains_198 ?_
                          have r208 : inR ((nI j41) + 1) 1 20 := inR_add (show inR (nI j41) 0 19 from hrg41) (show inR 1 1 1 from (inR_self _)) (by decide) (by decide)
                          have e209 := ti_add (l := 1) (h := 20) (show inR (nI j41) 0 19 from hrg41) (show inR 1 1 1 from (inR_self _)) (by decide) (by decide)
                          refine R_goto (pc := 201) 41 dX9_findChains_201 (by decide) ?_
                          rw [nI_1]
                          exact ih41 (j41 + 1) _ _ _ _ _ (by omega) (by omega) hI41 hC41 (lb_no hX41_0 (tm_next (by omega) b35_180) (Nat.lt_of_not_le (fun q => b45_184 ((nI_leI (by omega) (by omega)).mpr q))) (tm_le _ _ _) (Or.inl b51_187)) hX41_1
                        · skip
                          refine R_iload (pc := 165) dX9_findChains_165 rfl ?_
                          refine R_ifeq (pc := 167) 198 dX9_findChains_167 (by decide) (fun _ => ?_) (fun h => absurd (by decide) h)
                          refine inc_11_6_1_i (pc := 198) dX9_findChains_198 ?_
                          have r211 : inR ((nI j41) + 1) 1 20 := inR_add (show inR (nI j41) 0 19 from hrg41) (show inR 1 1 1 from (inR_self _)) (by decide) (by decide)
                          have e212 := ti_add (l := 1) (h := 20) (show inR (nI j41) 0 19 from hrg41) (show inR 1 1 1 from (inR_self _)) (by decide) (by decide)
                          refine R_goto (pc := 201) 41 dX9_findChains_201 (by decide) ?_
                          rw [nI_1]
                          exact ih41 (j41 + 1) _ _ _ _ _ (by omega) (by omega) hI41 hC41 (lb_no hX41_0 (tm_next (by omega) b35_180) (Nat.lt_of_not_le (fun q => b45_184 ((nI_leI (by omega) (by omega)).mpr q))) (tm_le _ _ _) (Or.inl b51_187)) hX41_1
                    · skip
                      refine R_iload (pc := 54) dX9_findChains_54 rfl ?_
                      refine R_iload_n (pc := 56) dX9_findChains_56 rfl rfl ?_
                      refine R_iceq (pc := 57) 104 dX9_findChains_57 (by decide) (fun b57_213 => ?_) (fun b57_213 => ?_)
                      · skip
                        refine R_iconst (pc := 104) (v := 0) dX9_findChains_104 (by decide) ?_
                        refine st_11_7_i_i (pc := 105) dX9_findChains_105 ?_
                        refine R_aload_n (pc := 107) dX9_findChains_107 rfl rfl ?_
                        refine R_iload (pc := 108) dX9_findChains_108 rfl ?_
                        have hx214 : vp_in (nI j31) 20 := (vp_in_nI (by omega) (by decide))
                        refine R_iaload (pc := 110) dX9_findChains_110 (c_153 _) hx214 ?_
                        refine R_aload_n (pc := 111) dX9_findChains_111 rfl rfl ?_
                        refine R_iload (pc := 112) dX9_findChains_112 rfl ?_
                        have hx215 : vp_in (nI j41) 20 := (vp_in_nI (by omega) (by decide))
                        refine R_iaload (pc := 114) dX9_findChains_114 (c_153 _) hx215 ?_
                        refine R_icge (pc := 115) 125 dX9_findChains_115 (by decide) (fun b115_216 => ?_) (fun b115_216 => ?_)
                        · skip
                          refine R_aload_n (pc := 125) dX9_findChains_125 rfl rfl ?_
                          refine R_iload (pc := 126) dX9_findChains_126 rfl ?_
                          have hx217 : vp_in (nI j41) 20 := (vp_in_nI (by omega) (by decide))
                          refine R_iaload (pc := 128) dX9_findChains_128 (c_153 _) hx217 ?_
                          refine st_11_8_i_i (pc := 129) dX9_findChains_129 ?_
                          refine R_aload_n (pc := 131) dX9_findChains_131 rfl rfl ?_
                          refine R_iload (pc := 132) dX9_findChains_132 rfl ?_
                          have hx218 : vp_in (nI j31) 20 := (vp_in_nI (by omega) (by decide))
                          refine R_iaload (pc := 134) dX9_findChains_134 (c_153 _) hx218 ?_
                          refine R_aload_n (pc := 135) dX9_findChains_135 rfl rfl ?_
                          refine R_iload (pc := 136) dX9_findChains_136 rfl ?_
                          have hx219 : vp_in (nI j41) 20 := (vp_in_nI (by omega) (by decide))
                          refine R_iaload (pc := 138) dX9_findChains_138 (c_153 _) hx219 ?_
                          refine R_icge (pc := 139) 149 dX9_findChains_139 (by decide) (fun _ => ?_) (fun h => absurd b115_216 h)
                          refine R_aload_n (pc := 149) dX9_findChains_149 rfl rfl ?_
                          refine R_iload (pc := 150) dX9_findChains_150 rfl ?_
                          have hx221 : vp_in (nI j31) 20 := (vp_in_nI (by omega) (by decide))
                          refine R_iaload (pc := 152) dX9_findChains_152 (c_153 _) hx221 ?_
                          refine st_11_9_i_i (pc := 153) dX9_findChains_153 ?_
                          refine R_iconst (pc := 155) (v := 0) dX9_findChains_155 (by decide) ?_
                          refine st_11_10_i_i (pc := 156) dX9_findChains_156 ?_
                          refine R_iload (pc := 158) dX9_findChains_158 rfl ?_
                          refine R_iload (pc := 160) dX9_findChains_160 rfl ?_
                          refine R_icge (pc := 162) 198 dX9_findChains_162 (by decide) (fun b162_222 => ?_) (fun b162_222 => ?_)
                          · skip
                            refine inc_11_6_1_i (pc := 198) dX9_findChains_198 ?_
                            have r223 : inR ((nI j41) + 1) 1 20 := inR_add (show inR (nI j41) 0 19 from hrg41) (show inR 1 1 1 from (inR_self _)) (by decide) (by decide)
                            have e224 := ti_add (l := 1) (h := 20) (show inR (nI j41) 0 19 from hrg41) (show inR 1 1 1 from (inR_self _)) (by decide) (by decide)
                            refine R_goto (pc := 201) 41 dX9_findChains_201 (by decide) ?_
                            rw [nI_1]
                            exact ih41 (j41 + 1) _ _ _ _ _ (by omega) (by omega) hI41 hC41 (lb_no hX41_0 (tm_next (by omega) b35_180) (Nat.lt_of_not_le (fun q => b45_184 ((nI_leI (by omega) (by omega)).mpr q))) (tm_le _ _ _) (Or.inr (Or.inl b57_213))) hX41_1
                          · skip
                            refine R_iload (pc := 165) dX9_findChains_165 rfl ?_
                            refine R_ifeq (pc := 167) 198 dX9_findChains_167 (by decide) (fun _ => ?_) (fun h => absurd (by decide) h)
                            refine inc_11_6_1_i (pc := 198) dX9_findChains_198 ?_
                            have r226 : inR ((nI j41) + 1) 1 20 := inR_add (show inR (nI j41) 0 19 from hrg41) (show inR 1 1 1 from (inR_self _)) (by decide) (by decide)
                            have e227 := ti_add (l := 1) (h := 20) (show inR (nI j41) 0 19 from hrg41) (show inR 1 1 1 from (inR_self _)) (by decide) (by decide)
                            refine R_goto (pc := 201) 41 dX9_findChains_201 (by decide) ?_
                            rw [nI_1]
                            exact ih41 (j41 + 1) _ _ _ _ _ (by omega) (by omega) hI41 hC41 (lb_no hX41_0 (tm_next (by omega) b35_180) (Nat.lt_of_not_le (fun q => b45_184 ((nI_leI (by omega) (by omega)).mpr q))) (tm_le _ _ _) (Or.inr (Or.inl b57_213))) hX41_1
                        · skip
                          refine R_aload_n (pc := 118) dX9_findChains_118 rfl rfl ?_
                          refine R_iload (pc := 119) dX9_findChains_119 rfl ?_
                          have hx228 : vp_in (nI j31) 20 := (vp_in_nI (by omega) (by decide))
                          refine R_iaload (pc := 121) dX9_findChains_121 (c_153 _) hx228 ?_
                          refine R_goto (pc := 122) 129 dX9_findChains_122 (by decide) ?_
                          refine st_11_8_i_i (pc := 129) dX9_findChains_129 ?_
                          refine R_aload_n (pc := 131) dX9_findChains_131 rfl rfl ?_
                          refine R_iload (pc := 132) dX9_findChains_132 rfl ?_
                          have hx229 : vp_in (nI j31) 20 := (vp_in_nI (by omega) (by decide))
                          refine R_iaload (pc := 134) dX9_findChains_134 (c_153 _) hx229 ?_
                          refine R_aload_n (pc := 135) dX9_findChains_135 rfl rfl ?_
                          refine R_iload (pc := 136) dX9_findChains_136 rfl ?_
                          have hx230 : vp_in (nI j41) 20 := (vp_in_nI (by omega) (by decide))
                          refine R_iaload (pc := 138) dX9_findChains_138 (c_153 _) hx230 ?_
                          refine R_icge (pc := 139) 149 dX9_findChains_139 (by decide) (fun h => absurd h b115_216) (fun _ => ?_)
                          refine R_aload_n (pc := 142) dX9_findChains_142 rfl rfl ?_
                          refine R_iload (pc := 143) dX9_findChains_143 rfl ?_
                          have hx232 : vp_in (nI j41) 20 := (vp_in_nI (by omega) (by decide))
                          refine R_iaload (pc := 145) dX9_findChains_145 (c_153 _) hx232 ?_
                          refine R_goto (pc := 146) 153 dX9_findChains_146 (by decide) ?_
                          refine st_11_9_i_i (pc := 153) dX9_findChains_153 ?_
                          refine R_iconst (pc := 155) (v := 0) dX9_findChains_155 (by decide) ?_
                          refine st_11_10_i_i (pc := 156) dX9_findChains_156 ?_
                          refine R_iload (pc := 158) dX9_findChains_158 rfl ?_
                          refine R_iload (pc := 160) dX9_findChains_160 rfl ?_
                          refine R_icge (pc := 162) 198 dX9_findChains_162 (by decide) (fun b162_233 => ?_) (fun b162_233 => ?_)
                          · skip
                            refine inc_11_6_1_i (pc := 198) dX9_findChains_198 ?_
                            have r234 : inR ((nI j41) + 1) 1 20 := inR_add (show inR (nI j41) 0 19 from hrg41) (show inR 1 1 1 from (inR_self _)) (by decide) (by decide)
                            have e235 := ti_add (l := 1) (h := 20) (show inR (nI j41) 0 19 from hrg41) (show inR 1 1 1 from (inR_self _)) (by decide) (by decide)
                            refine R_goto (pc := 201) 41 dX9_findChains_201 (by decide) ?_
                            rw [nI_1]
                            exact ih41 (j41 + 1) _ _ _ _ _ (by omega) (by omega) hI41 hC41 (lb_no hX41_0 (tm_next (by omega) b35_180) (Nat.lt_of_not_le (fun q => b45_184 ((nI_leI (by omega) (by omega)).mpr q))) (tm_le _ _ _) (Or.inr (Or.inl b57_213))) hX41_1
                          · skip
                            refine R_iload (pc := 165) dX9_findChains_165 rfl ?_
                            refine R_ifeq (pc := 167) 198 dX9_findChains_167 (by decide) (fun _ => ?_) (fun h => absurd (by decide) h)
                            refine inc_11_6_1_i (pc := 198) dX9_findChains_198 ?_
                            have r237 : inR ((nI j41) + 1) 1 20 := inR_add (show inR (nI j41) 0 19 from hrg41) (show inR 1 1 1 from (inR_self _)) (by decide) (by decide)
                            have e238 := ti_add (l := 1) (h := 20) (show inR (nI j41) 0 19 from hrg41) (show inR 1 1 1 from (inR_self _)) (by decide) (by decide)
                            refine R_goto (pc := 201) 41 dX9_findChains_201 (by decide) ?_
                            rw [nI_1]
                            exact ih41 (j41 + 1) _ _ _ _ _ (by omega) (by omega) hI41 hC41 (lb_no hX41_0 (tm_next (by omega) b35_180) (Nat.lt_of_not_le (fun q => b45_184 ((nI_leI (by omega) (by omega)).mpr q))) (tm_le _ _ _) (Or.inr (Or.inl b57_213))) hX41_1
                      · skip
                        refine R_aload_n (pc := 60) dX9_findChains_60 rfl rfl ?_
                        refine R_iload (pc := 61) dX9_findChains_61 rfl ?_
                        have hx239 : vp_in (nI j31) 20 := (vp_in_nI (by omega) (by decide))
                        refine R_iaload (pc := 63) dX9_findChains_63 (c_153 _) hx239 ?_
                        refine R_aload_n (pc := 64) dX9_findChains_64 rfl rfl ?_
                        refine R_iload (pc := 65) dX9_findChains_65 rfl ?_
                        have hx240 : vp_in (nI j41) 20 := (vp_in_nI (by omega) (by decide))
                        refine R_iaload (pc := 67) dX9_findChains_67 (c_153 _) hx240 ?_
                        refine R_iceq (pc := 68) 104 dX9_findChains_68 (by decide) (fun b68_241 => ?_) (fun b68_241 => ?_)
                        · skip
                          refine R_iconst (pc := 104) (v := 0) dX9_findChains_104 (by decide) ?_
                          refine st_11_7_i_i (pc := 105) dX9_findChains_105 ?_
                          refine R_aload_n (pc := 107) dX9_findChains_107 rfl rfl ?_
                          refine R_iload (pc := 108) dX9_findChains_108 rfl ?_
                          have hx242 : vp_in (nI j31) 20 := (vp_in_nI (by omega) (by decide))
                          refine R_iaload (pc := 110) dX9_findChains_110 (c_153 _) hx242 ?_
                          refine R_aload_n (pc := 111) dX9_findChains_111 rfl rfl ?_
                          refine R_iload (pc := 112) dX9_findChains_112 rfl ?_
                          have hx243 : vp_in (nI j41) 20 := (vp_in_nI (by omega) (by decide))
                          refine R_iaload (pc := 114) dX9_findChains_114 (c_153 _) hx243 ?_
                          refine R_icge (pc := 115) 125 dX9_findChains_115 (by decide) (fun b115_244 => ?_) (fun b115_244 => ?_)
                          · skip
                            refine R_aload_n (pc := 125) dX9_findChains_125 rfl rfl ?_
                            refine R_iload (pc := 126) dX9_findChains_126 rfl ?_
                            have hx245 : vp_in (nI j41) 20 := (vp_in_nI (by omega) (by decide))
                            refine R_iaload (pc := 128) dX9_findChains_128 (c_153 _) hx245 ?_
                            refine st_11_8_i_i (pc := 129) dX9_findChains_129 ?_
                            refine R_aload_n (pc := 131) dX9_findChains_131 rfl rfl ?_
                            refine R_iload (pc := 132) dX9_findChains_132 rfl ?_
                            have hx246 : vp_in (nI j31) 20 := (vp_in_nI (by omega) (by decide))
                            refine R_iaload (pc := 134) dX9_findChains_134 (c_153 _) hx246 ?_
                            refine R_aload_n (pc := 135) dX9_findChains_135 rfl rfl ?_
                            refine R_iload (pc := 136) dX9_findChains_136 rfl ?_
                            have hx247 : vp_in (nI j41) 20 := (vp_in_nI (by omega) (by decide))
                            refine R_iaload (pc := 138) dX9_findChains_138 (c_153 _) hx247 ?_
                            refine R_icge (pc := 139) 149 dX9_findChains_139 (by decide) (fun _ => ?_) (fun h => absurd b115_244 h)
                            refine R_aload_n (pc := 149) dX9_findChains_149 rfl rfl ?_
                            refine R_iload (pc := 150) dX9_findChains_150 rfl ?_
                            have hx249 : vp_in (nI j31) 20 := (vp_in_nI (by omega) (by decide))
                            refine R_iaload (pc := 152) dX9_findChains_152 (c_153 _) hx249 ?_
                            refine st_11_9_i_i (pc := 153) dX9_findChains_153 ?_
                            refine R_iconst (pc := 155) (v := 0) dX9_findChains_155 (by decide) ?_
                            refine st_11_10_i_i (pc := 156) dX9_findChains_156 ?_
                            refine R_iload (pc := 158) dX9_findChains_158 rfl ?_
                            refine R_iload (pc := 160) dX9_findChains_160 rfl ?_
                            refine R_icge (pc := 162) 198 dX9_findChains_162 (by decide) (fun b162_250 => ?_) (fun b162_250 => ?_)
                            · skip
                              refine inc_11_6_1_i (pc := 198) dX9_findChains_198 ?_
                              have r251 : inR ((nI j41) + 1) 1 20 := inR_add (show inR (nI j41) 0 19 from hrg41) (show inR 1 1 1 from (inR_self _)) (by decide) (by decide)
                              have e252 := ti_add (l := 1) (h := 20) (show inR (nI j41) 0 19 from hrg41) (show inR 1 1 1 from (inR_self _)) (by decide) (by decide)
                              refine R_goto (pc := 201) 41 dX9_findChains_201 (by decide) ?_
                              rw [nI_1]
                              exact ih41 (j41 + 1) _ _ _ _ _ (by omega) (by omega) hI41 hC41 (lb_nof hX41_0 (tm_next (by omega) b35_180) (Nat.lt_of_not_le (fun q => b45_184 ((nI_leI (by omega) (by omega)).mpr q))) (tm_le _ _ _) b68_241) hX41_1
                            · skip
                              refine R_iload (pc := 165) dX9_findChains_165 rfl ?_
                              refine R_ifeq (pc := 167) 198 dX9_findChains_167 (by decide) (fun _ => ?_) (fun h => absurd (by decide) h)
                              refine inc_11_6_1_i (pc := 198) dX9_findChains_198 ?_
                              have r254 : inR ((nI j41) + 1) 1 20 := inR_add (show inR (nI j41) 0 19 from hrg41) (show inR 1 1 1 from (inR_self _)) (by decide) (by decide)
                              have e255 := ti_add (l := 1) (h := 20) (show inR (nI j41) 0 19 from hrg41) (show inR 1 1 1 from (inR_self _)) (by decide) (by decide)
                              refine R_goto (pc := 201) 41 dX9_findChains_201 (by decide) ?_
                              rw [nI_1]
                              exact ih41 (j41 + 1) _ _ _ _ _ (by omega) (by omega) hI41 hC41 (lb_nof hX41_0 (tm_next (by omega) b35_180) (Nat.lt_of_not_le (fun q => b45_184 ((nI_leI (by omega) (by omega)).mpr q))) (tm_le _ _ _) b68_241) hX41_1
                          · skip
                            refine R_aload_n (pc := 118) dX9_findChains_118 rfl rfl ?_
                            refine R_iload (pc := 119) dX9_findChains_119 rfl ?_
                            have hx256 : vp_in (nI j31) 20 := (vp_in_nI (by omega) (by decide))
                            refine R_iaload (pc := 121) dX9_findChains_121 (c_153 _) hx256 ?_
                            refine R_goto (pc := 122) 129 dX9_findChains_122 (by decide) ?_
                            refine st_11_8_i_i (pc := 129) dX9_findChains_129 ?_
                            refine R_aload_n (pc := 131) dX9_findChains_131 rfl rfl ?_
                            refine R_iload (pc := 132) dX9_findChains_132 rfl ?_
                            have hx257 : vp_in (nI j31) 20 := (vp_in_nI (by omega) (by decide))
                            refine R_iaload (pc := 134) dX9_findChains_134 (c_153 _) hx257 ?_
                            refine R_aload_n (pc := 135) dX9_findChains_135 rfl rfl ?_
                            refine R_iload (pc := 136) dX9_findChains_136 rfl ?_
                            have hx258 : vp_in (nI j41) 20 := (vp_in_nI (by omega) (by decide))
                            refine R_iaload (pc := 138) dX9_findChains_138 (c_153 _) hx258 ?_
                            refine R_icge (pc := 139) 149 dX9_findChains_139 (by decide) (fun h => absurd h b115_244) (fun _ => ?_)
                            refine R_aload_n (pc := 142) dX9_findChains_142 rfl rfl ?_
                            refine R_iload (pc := 143) dX9_findChains_143 rfl ?_
                            have hx260 : vp_in (nI j41) 20 := (vp_in_nI (by omega) (by decide))
                            refine R_iaload (pc := 145) dX9_findChains_145 (c_153 _) hx260 ?_
                            refine R_goto (pc := 146) 153 dX9_findChains_146 (by decide) ?_
                            refine st_11_9_i_i (pc := 153) dX9_findChains_153 ?_
                            refine R_iconst (pc := 155) (v := 0) dX9_findChains_155 (by decide) ?_
                            refine st_11_10_i_i (pc := 156) dX9_findChains_156 ?_
                            refine R_iload (pc := 158) dX9_findChains_158 rfl ?_
                            refine R_iload (pc := 160) dX9_findChains_160 rfl ?_
                            refine R_icge (pc := 162) 198 dX9_findChains_162 (by decide) (fun b162_261 => ?_) (fun b162_261 => ?_)
                            · skip
                              refine inc_11_6_1_i (pc := 198) dX9_findChains_198 ?_
                              have r262 : inR ((nI j41) + 1) 1 20 := inR_add (show inR (nI j41) 0 19 from hrg41) (show inR 1 1 1 from (inR_self _)) (by decide) (by decide)
                              have e263 := ti_add (l := 1) (h := 20) (show inR (nI j41) 0 19 from hrg41) (show inR 1 1 1 from (inR_self _)) (by decide) (by decide)
                              refine R_goto (pc := 201) 41 dX9_findChains_201 (by decide) ?_
                              rw [nI_1]
                              exact ih41 (j41 + 1) _ _ _ _ _ (by omega) (by omega) hI41 hC41 (lb_nof hX41_0 (tm_next (by omega) b35_180) (Nat.lt_of_not_le (fun q => b45_184 ((nI_leI (by omega) (by omega)).mpr q))) (tm_le _ _ _) b68_241) hX41_1
                            · skip
                              refine R_iload (pc := 165) dX9_findChains_165 rfl ?_
                              refine R_ifeq (pc := 167) 198 dX9_findChains_167 (by decide) (fun _ => ?_) (fun h => absurd (by decide) h)
                              refine inc_11_6_1_i (pc := 198) dX9_findChains_198 ?_
                              have r265 : inR ((nI j41) + 1) 1 20 := inR_add (show inR (nI j41) 0 19 from hrg41) (show inR 1 1 1 from (inR_self _)) (by decide) (by decide)
                              have e266 := ti_add (l := 1) (h := 20) (show inR (nI j41) 0 19 from hrg41) (show inR 1 1 1 from (inR_self _)) (by decide) (by decide)
                              refine R_goto (pc := 201) 41 dX9_findChains_201 (by decide) ?_
                              rw [nI_1]
                              exact ih41 (j41 + 1) _ _ _ _ _ (by omega) (by omega) hI41 hC41 (lb_nof hX41_0 (tm_next (by omega) b35_180) (Nat.lt_of_not_le (fun q => b45_184 ((nI_leI (by omega) (by omega)).mpr q))) (tm_le _ _ _) b68_241) hX41_1
                        · skip
                          refine R_iload_n (pc := 71) dX9_findChains_71 rfl rfl ?_
                          refine R_ifeq (pc := 72) 89 dX9_findChains_72 (by decide) (fun h => absurd h (by decide)) (fun _ => ?_)
                          refine R_aload_n (pc := 75) dX9_findChains_75 rfl rfl ?_
                          refine R_iload (pc := 76) dX9_findChains_76 rfl ?_
                          refine R_iload (pc := 78) dX9_findChains_78 rfl ?_
                          refine k_X9_159 (pc := 80) (gn_X9_isMatch _ _ _ hI41 hrg31 hrg41) rfl (c_140 _) (by decide) (Nat.le_refl _) (Nat.le_refl _) (Nat.le_of_ble_eq_true rfl) dX9_findChains_80 (fun x w2 h => ?_)
                          obtain ⟨σx269, rfl, hV268, hW270, hq271, hb⟩ := h
                          have hW273 := Cor.trans hC41 hW270
                          have hq274 := fq_trans hX41_1 (fq_up hq271 fqF_3)
                          rcases hb with ⟨hb272, rfl⟩ | ⟨hb272, rfl⟩
                          · skip
                            refine R_ifeq (pc := 83) 104 dX9_findChains_83 (by decide) (fun h => absurd h (by decide)) (fun _ => ?_)
                            refine R_goto (pc := 86) 100 dX9_findChains_86 (by decide) ?_
                            refine R_iconst (pc := 100) (v := 1) dX9_findChains_100 (by decide) ?_
                            refine R_goto (pc := 101) 105 dX9_findChains_101 (by decide) ?_
                            refine st_11_7_i_i (pc := 105) dX9_findChains_105 ?_
                            refine R_aload_n (pc := 107) dX9_findChains_107 rfl rfl ?_
                            refine R_iload (pc := 108) dX9_findChains_108 rfl ?_
                            have hx276 : vp_in (nI j31) 20 := (vp_in_nI (by omega) (by decide))
                            refine R_iaload (pc := 110) dX9_findChains_110 (c_153 _) hx276 ?_
                            refine R_aload_n (pc := 111) dX9_findChains_111 rfl rfl ?_
                            refine R_iload (pc := 112) dX9_findChains_112 rfl ?_
                            have hx277 : vp_in (nI j41) 20 := (vp_in_nI (by omega) (by decide))
                            refine R_iaload (pc := 114) dX9_findChains_114 (c_153 _) hx277 ?_
                            refine R_icge (pc := 115) 125 dX9_findChains_115 (by decide) (fun b115_278 => ?_) (fun b115_278 => ?_)
                            · skip
                              refine R_aload_n (pc := 125) dX9_findChains_125 rfl rfl ?_
                              refine R_iload (pc := 126) dX9_findChains_126 rfl ?_
                              have hx279 : vp_in (nI j41) 20 := (vp_in_nI (by omega) (by decide))
                              refine R_iaload (pc := 128) dX9_findChains_128 (c_153 _) hx279 ?_
                              refine st_11_8_i_i (pc := 129) dX9_findChains_129 ?_
                              refine R_aload_n (pc := 131) dX9_findChains_131 rfl rfl ?_
                              refine R_iload (pc := 132) dX9_findChains_132 rfl ?_
                              have hx280 : vp_in (nI j31) 20 := (vp_in_nI (by omega) (by decide))
                              refine R_iaload (pc := 134) dX9_findChains_134 (c_153 _) hx280 ?_
                              refine R_aload_n (pc := 135) dX9_findChains_135 rfl rfl ?_
                              refine R_iload (pc := 136) dX9_findChains_136 rfl ?_
                              have hx281 : vp_in (nI j41) 20 := (vp_in_nI (by omega) (by decide))
                              refine R_iaload (pc := 138) dX9_findChains_138 (c_153 _) hx281 ?_
                              refine R_icge (pc := 139) 149 dX9_findChains_139 (by decide) (fun _ => ?_) (fun h => absurd b115_278 h)
                              refine R_aload_n (pc := 149) dX9_findChains_149 rfl rfl ?_
                              refine R_iload (pc := 150) dX9_findChains_150 rfl ?_
                              have hx283 : vp_in (nI j31) 20 := (vp_in_nI (by omega) (by decide))
                              refine R_iaload (pc := 152) dX9_findChains_152 (c_153 _) hx283 ?_
                              refine st_11_9_i_i (pc := 153) dX9_findChains_153 ?_
                              refine R_iconst (pc := 155) (v := 0) dX9_findChains_155 (by decide) ?_
                              refine st_11_10_i_i (pc := 156) dX9_findChains_156 ?_
                              have HL158 : ∀ (q j158 : Nat) (σ158 : Sg), j158 + q = 20 → 0 ≤ j158 → Inv σ158 → Cor σ σ158 → MG (σx269.2.2.1 153) (σx269.2.2.1 153 (Int32.toNatClampNeg (nI j41))) (σx269.2.2.1 153 (Int32.toNatClampNeg (nI j31))) j158 (σ158.2.2.1 153) → Fq fq3 σ σ158 → j158 ≤ (tm (σ.1 14000) (σ.1 14013) (σ.2.2.1 148)) → R G l yX9_findChains cX9_findChains 11 none 3 0 0 (QV (fun w2 => ∃ σ2, w2 = WW σ2 ∧ Inv σ2 ∧ Cor σ σ2 ∧ Fq fq3 σ σ2 ∧ ∀ x : Nat, x < (tm (σ.1 14000) (σ.1 14013) (σ.2.2.1 148)) → ¬ nI x = u → σ2.2.2.1 153 x = nI (lab (fun a b => mtM σ (nI a) (nI b)) (fun i => decide (i < (tm (σ.1 14000) (σ.1 14013) (σ.2.2.1 148))) && !decide (nI i = u)) x))) 158 [(some (.ref 140)), (some (.ref 153)), (some (.int 1)), (some (.int u)), (some (.int (nI (tm (σ.1 14000) (σ.1 14013) (σ.2.2.1 148))))), (some (.int (nI j31))), (some (.int (nI j41))), (some (.int 1)), (some (.int (σx269.2.2.1 153 (Int32.toNatClampNeg (nI j41))))), (some (.int (σx269.2.2.1 153 (Int32.toNatClampNeg (nI j31))))), (some (.int (nI j158)))] [] (WW σ158) 0 0 := by
                                intro q
                                induction q with
                                | zero =>
                                  intro j158 σ158 hj hs158 hI158 hC158 hX158_0 hX158_1 hX158_2
                                  obtain rfl : j158 = 20 := by omega
                                  refine R_iload (pc := 158) dX9_findChains_158 rfl ?_
                                  refine R_iload (pc := 160) dX9_findChains_160 rfl ?_
                                  refine R_icge (pc := 162) 198 dX9_findChains_162 (by decide) (fun _ => ?_) (fun h => absurd (Int32.not_lt.mp (inR_up (tm_in (σ.1 14000) (σ.1 14013) (σ.2.2.1 148)) (Int32.le_refl _) (by decide)).2) h)
                                  refine inc_11_6_1_i (pc := 198) dX9_findChains_198 ?_
                                  have r285 : inR ((nI j41) + 1) 1 20 := inR_add (show inR (nI j41) 0 19 from hrg41) (show inR 1 1 1 from (inR_self _)) (by decide) (by decide)
                                  have e286 := ti_add (l := 1) (h := 20) (show inR (nI j41) 0 19 from hrg41) (show inR 1 1 1 from (inR_self _)) (by decide) (by decide)
                                  refine R_goto (pc := 201) 41 dX9_findChains_201 (by decide) ?_
                                  rw [nI_1]
                                  exact ih41 (j41 + 1) _ _ _ _ _ (by omega) (by omega) hI158 hC158 (lb_ge (by have q := hX41_0; rw [← (show (σx269.2.2.1 153) = (σ41.2.2.1 153) from hq271.2.2.1 153 rfl)] at q; exact q) (tm_next (by omega) b35_180) (Nat.lt_of_not_le (fun q => b45_184 ((nI_leI (by omega) (by omega)).mpr q))) (tm_le _ _ _) b51_187 b57_213 (by have q := b68_241; rw [← (show (σx269.2.2.1 153) = (σ41.2.2.1 153) from hq271.2.2.1 153 rfl)] at q; exact q) ((mtM_fq hX41_1 rfl rfl rfl rfl rfl rfl rfl _ _).symm.trans hb272) hS (Int32.not_lt.mpr b115_278) (by have q := hX158_0; rw [(show 20 = (tm (σ.1 14000) (σ.1 14013) (σ.2.2.1 148)) from by first | exact tm_exit (by omega) hX158_2 (by assumption) | exact tm_ex20 hX158_2)] at q; exact q)) hX158_1
                                | succ q ih158 =>
                                  intro j158 σ158 hj hs158 hI158 hC158 hX158_0 hX158_1 hX158_2
                                  have hrg158 : inR (nI j158) 0 19 := inR_ix hs158 (show j158 < 20 by omega) (by decide) (by decide) (by decide)
                                  have hlt158 : j158 < 20 := by omega
                                  refine R_iload (pc := 158) dX9_findChains_158 rfl ?_
                                  refine R_iload (pc := 160) dX9_findChains_160 rfl ?_
                                  refine R_icge (pc := 162) 198 dX9_findChains_162 (by decide) (fun b162_287 => ?_) (fun b162_287 => ?_)
                                  · skip
                                    refine inc_11_6_1_i (pc := 198) dX9_findChains_198 ?_
                                    have r288 : inR ((nI j41) + 1) 1 20 := inR_add (show inR (nI j41) 0 19 from hrg41) (show inR 1 1 1 from (inR_self _)) (by decide) (by decide)
                                    have e289 := ti_add (l := 1) (h := 20) (show inR (nI j41) 0 19 from hrg41) (show inR 1 1 1 from (inR_self _)) (by decide) (by decide)
                                    refine R_goto (pc := 201) 41 dX9_findChains_201 (by decide) ?_
                                    rw [nI_1]
                                    exact ih41 (j41 + 1) _ _ _ _ _ (by omega) (by omega) hI158 hC158 (lb_ge (by have q := hX41_0; rw [← (show (σx269.2.2.1 153) = (σ41.2.2.1 153) from hq271.2.2.1 153 rfl)] at q; exact q) (tm_next (by omega) b35_180) (Nat.lt_of_not_le (fun q => b45_184 ((nI_leI (by omega) (by omega)).mpr q))) (tm_le _ _ _) b51_187 b57_213 (by have q := b68_241; rw [← (show (σx269.2.2.1 153) = (σ41.2.2.1 153) from hq271.2.2.1 153 rfl)] at q; exact q) ((mtM_fq hX41_1 rfl rfl rfl rfl rfl rfl rfl _ _).symm.trans hb272) hS (Int32.not_lt.mpr b115_278) (by have q := hX158_0; rw [(show j158 = (tm (σ.1 14000) (σ.1 14013) (σ.2.2.1 148)) from by first | exact tm_exit (by omega) hX158_2 (by assumption) | exact tm_ex20 hX158_2)] at q; exact q)) hX158_1
                                  · skip
                                    refine R_iload (pc := 165) dX9_findChains_165 rfl ?_
                                    refine R_ifeq (pc := 167) 198 dX9_findChains_167 (by decide) (fun h => absurd h (by decide)) (fun _ => ?_)
                                    refine R_aload_n (pc := 170) dX9_findChains_170 rfl rfl ?_
                                    refine R_iload (pc := 171) dX9_findChains_171 rfl ?_
                                    refine R_aload_n (pc := 173) dX9_findChains_173 rfl rfl ?_
                                    refine R_iload (pc := 174) dX9_findChains_174 rfl ?_
                                    have hx291 : vp_in (nI j158) 20 := (vp_in_nI (by omega) (by decide))
                                    refine R_iaload (pc := 176) dX9_findChains_176 (c_153 _) hx291 ?_
                                    refine R_iload (pc := 177) dX9_findChains_177 rfl ?_
                                    refine R_icne (pc := 179) 187 dX9_findChains_179 (by decide) (fun b179_292 => ?_) (fun b179_292 => ?_)
                                    · skip
                                      refine R_aload_n (pc := 187) dX9_findChains_187 rfl rfl ?_
                                      refine R_iload (pc := 188) dX9_findChains_188 rfl ?_
                                      have hx293 : vp_in (nI j158) 20 := (vp_in_nI (by omega) (by decide))
                                      refine R_iaload (pc := 190) dX9_findChains_190 (c_153 _) hx293 ?_
                                      have hx294 : vp_in (nI j158) 20 := (vp_in_nI (by omega) (by decide))
                                      refine W_iastore (pc := 191) dX9_findChains_191 (c_153 _) hx294 (a_153 _ _) ?_
                                      have hV295 := sa_153 hI158 (Int32.toNatClampNeg (nI j158)) (iva_153 hI158 _ (lt_of_vp hx291))
                                      have hW296 := cor_sa 153 (upd (σ158.2.2.1 153) (Int32.toNatClampNeg (nI j158)) (σ158.2.2.1 153 (Int32.toNatClampNeg (nI j158)))) hC158 rfl
                                      refine inc_11_10_1_i (pc := 192) dX9_findChains_192 ?_
                                      have r297 : inR ((nI j158) + 1) 1 20 := inR_add (show inR (nI j158) 0 19 from hrg158) (show inR 1 1 1 from (inR_self _)) (by decide) (by decide)
                                      have e298 := ti_add (l := 1) (h := 20) (show inR (nI j158) 0 19 from hrg158) (show inR 1 1 1 from (inR_self _)) (by decide) (by decide)
                                      refine R_goto (pc := 195) 158 dX9_findChains_195 (by decide) ?_
                                      rw [nI_1]
                                      exact ih158 (j158 + 1) _ (by omega) (by omega) hV295 hW296 (mg_f (by omega) hX158_0 b179_292) (fq_a 153 _ hX158_1 rfl) (tm_next (by omega) b162_287)
                                    · skip
                                      refine R_iload (pc := 182) dX9_findChains_182 rfl ?_
                                      refine R_goto (pc := 184) 191 dX9_findChains_184 (by decide) ?_
                                      have hx299 : vp_in (nI j158) 20 := (vp_in_nI (by omega) (by decide))
                                      refine W_iastore (pc := 191) dX9_findChains_191 (c_153 _) hx299 (a_153 _ _) ?_
                                      have hV300 := sa_153 hI158 (Int32.toNatClampNeg (nI j158)) (iva_153 hV268 _ (lt_of_vp hx277))
                                      have hW301 := cor_sa 153 (upd (σ158.2.2.1 153) (Int32.toNatClampNeg (nI j158)) (σx269.2.2.1 153 (Int32.toNatClampNeg (nI j41)))) hC158 rfl
                                      refine inc_11_10_1_i (pc := 192) dX9_findChains_192 ?_
                                      have r302 : inR ((nI j158) + 1) 1 20 := inR_add (show inR (nI j158) 0 19 from hrg158) (show inR 1 1 1 from (inR_self _)) (by decide) (by decide)
                                      have e303 := ti_add (l := 1) (h := 20) (show inR (nI j158) 0 19 from hrg158) (show inR 1 1 1 from (inR_self _)) (by decide) (by decide)
                                      refine R_goto (pc := 195) 158 dX9_findChains_195 (by decide) ?_
                                      rw [nI_1]
                                      exact ih158 (j158 + 1) _ (by omega) (by omega) hV300 hW301 (mg_t (by omega) hX158_0 b179_292) (fq_a 153 _ hX158_1 rfl) (tm_next (by omega) b162_287)
                              exact HL158 20 0 _ (by omega) (by omega) hV268 hW273 mg_0 hq274 (Nat.zero_le _)
                            · skip
                              refine R_aload_n (pc := 118) dX9_findChains_118 rfl rfl ?_
                              refine R_iload (pc := 119) dX9_findChains_119 rfl ?_
                              have hx304 : vp_in (nI j31) 20 := (vp_in_nI (by omega) (by decide))
                              refine R_iaload (pc := 121) dX9_findChains_121 (c_153 _) hx304 ?_
                              refine R_goto (pc := 122) 129 dX9_findChains_122 (by decide) ?_
                              refine st_11_8_i_i (pc := 129) dX9_findChains_129 ?_
                              refine R_aload_n (pc := 131) dX9_findChains_131 rfl rfl ?_
                              refine R_iload (pc := 132) dX9_findChains_132 rfl ?_
                              have hx305 : vp_in (nI j31) 20 := (vp_in_nI (by omega) (by decide))
                              refine R_iaload (pc := 134) dX9_findChains_134 (c_153 _) hx305 ?_
                              refine R_aload_n (pc := 135) dX9_findChains_135 rfl rfl ?_
                              refine R_iload (pc := 136) dX9_findChains_136 rfl ?_
                              have hx306 : vp_in (nI j41) 20 := (vp_in_nI (by omega) (by decide))
                              refine R_iaload (pc := 138) dX9_findChains_138 (c_153 _) hx306 ?_
                              refine R_icge (pc := 139) 149 dX9_findChains_139 (by decide) (fun h => absurd h b115_278) (fun _ => ?_)
                              refine R_aload_n (pc := 142) dX9_findChains_142 rfl rfl ?_
                              refine R_iload (pc := 143) dX9_findChains_143 rfl ?_
                              have hx308 : vp_in (nI j41) 20 := (vp_in_nI (by omega) (by decide))
                              refine R_iaload (pc := 145) dX9_findChains_145 (c_153 _) hx308 ?_
                              refine R_goto (pc := 146) 153 dX9_findChains_146 (by decide) ?_
                              refine st_11_9_i_i (pc := 153) dX9_findChains_153 ?_
                              refine R_iconst (pc := 155) (v := 0) dX9_findChains_155 (by decide) ?_
                              refine st_11_10_i_i (pc := 156) dX9_findChains_156 ?_
                              have HL158 : ∀ (q j158 : Nat) (σ158 : Sg), j158 + q = 20 → 0 ≤ j158 → Inv σ158 → Cor σ σ158 → MG (σx269.2.2.1 153) (σx269.2.2.1 153 (Int32.toNatClampNeg (nI j31))) (σx269.2.2.1 153 (Int32.toNatClampNeg (nI j41))) j158 (σ158.2.2.1 153) → Fq fq3 σ σ158 → j158 ≤ (tm (σ.1 14000) (σ.1 14013) (σ.2.2.1 148)) → R G l yX9_findChains cX9_findChains 11 none 3 0 0 (QV (fun w2 => ∃ σ2, w2 = WW σ2 ∧ Inv σ2 ∧ Cor σ σ2 ∧ Fq fq3 σ σ2 ∧ ∀ x : Nat, x < (tm (σ.1 14000) (σ.1 14013) (σ.2.2.1 148)) → ¬ nI x = u → σ2.2.2.1 153 x = nI (lab (fun a b => mtM σ (nI a) (nI b)) (fun i => decide (i < (tm (σ.1 14000) (σ.1 14013) (σ.2.2.1 148))) && !decide (nI i = u)) x))) 158 [(some (.ref 140)), (some (.ref 153)), (some (.int 1)), (some (.int u)), (some (.int (nI (tm (σ.1 14000) (σ.1 14013) (σ.2.2.1 148))))), (some (.int (nI j31))), (some (.int (nI j41))), (some (.int 1)), (some (.int (σx269.2.2.1 153 (Int32.toNatClampNeg (nI j31))))), (some (.int (σx269.2.2.1 153 (Int32.toNatClampNeg (nI j41))))), (some (.int (nI j158)))] [] (WW σ158) 0 0 := by
                                intro q
                                induction q with
                                | zero =>
                                  intro j158 σ158 hj hs158 hI158 hC158 hX158_0 hX158_1 hX158_2
                                  obtain rfl : j158 = 20 := by omega
                                  refine R_iload (pc := 158) dX9_findChains_158 rfl ?_
                                  refine R_iload (pc := 160) dX9_findChains_160 rfl ?_
                                  refine R_icge (pc := 162) 198 dX9_findChains_162 (by decide) (fun _ => ?_) (fun h => absurd (Int32.not_lt.mp (inR_up (tm_in (σ.1 14000) (σ.1 14013) (σ.2.2.1 148)) (Int32.le_refl _) (by decide)).2) h)
                                  refine inc_11_6_1_i (pc := 198) dX9_findChains_198 ?_
                                  have r310 : inR ((nI j41) + 1) 1 20 := inR_add (show inR (nI j41) 0 19 from hrg41) (show inR 1 1 1 from (inR_self _)) (by decide) (by decide)
                                  have e311 := ti_add (l := 1) (h := 20) (show inR (nI j41) 0 19 from hrg41) (show inR 1 1 1 from (inR_self _)) (by decide) (by decide)
                                  refine R_goto (pc := 201) 41 dX9_findChains_201 (by decide) ?_
                                  rw [nI_1]
                                  exact ih41 (j41 + 1) _ _ _ _ _ (by omega) (by omega) hI158 hC158 (lb_lt (by have q := hX41_0; rw [← (show (σx269.2.2.1 153) = (σ41.2.2.1 153) from hq271.2.2.1 153 rfl)] at q; exact q) (tm_next (by omega) b35_180) (Nat.lt_of_not_le (fun q => b45_184 ((nI_leI (by omega) (by omega)).mpr q))) (tm_le _ _ _) b51_187 b57_213 (by have q := b68_241; rw [← (show (σx269.2.2.1 153) = (σ41.2.2.1 153) from hq271.2.2.1 153 rfl)] at q; exact q) ((mtM_fq hX41_1 rfl rfl rfl rfl rfl rfl rfl _ _).symm.trans hb272) hS (Int32.not_le.mp b115_278) (by have q := hX158_0; rw [(show 20 = (tm (σ.1 14000) (σ.1 14013) (σ.2.2.1 148)) from by first | exact tm_exit (by omega) hX158_2 (by assumption) | exact tm_ex20 hX158_2)] at q; exact q)) hX158_1
                                | succ q ih158 =>
                                  intro j158 σ158 hj hs158 hI158 hC158 hX158_0 hX158_1 hX158_2
                                  have hrg158 : inR (nI j158) 0 19 := inR_ix hs158 (show j158 < 20 by omega) (by decide) (by decide) (by decide)
                                  have hlt158 : j158 < 20 := by omega
                                  refine R_iload (pc := 158) dX9_findChains_158 rfl ?_
                                  refine R_iload (pc := 160) dX9_findChains_160 rfl ?_
                                  refine R_icge (pc := 162) 198 dX9_findChains_162 (by decide) (fun b162_312 => ?_) (fun b162_312 => ?_)
                                  · skip
                                    refine inc_11_6_1_i (pc := 198) dX9_findChains_198 ?_
                                    have r313 : inR ((nI j41) + 1) 1 20 := inR_add (show inR (nI j41) 0 19 from hrg41) (show inR 1 1 1 from (inR_self _)) (by decide) (by decide)
                                    have e314 := ti_add (l := 1) (h := 20) (show inR (nI j41) 0 19 from hrg41) (show inR 1 1 1 from (inR_self _)) (by decide) (by decide)
                                    refine R_goto (pc := 201) 41 dX9_findChains_201 (by decide) ?_
                                    rw [nI_1]
                                    exact ih41 (j41 + 1) _ _ _ _ _ (by omega) (by omega) hI158 hC158 (lb_lt (by have q := hX41_0; rw [← (show (σx269.2.2.1 153) = (σ41.2.2.1 153) from hq271.2.2.1 153 rfl)] at q; exact q) (tm_next (by omega) b35_180) (Nat.lt_of_not_le (fun q => b45_184 ((nI_leI (by omega) (by omega)).mpr q))) (tm_le _ _ _) b51_187 b57_213 (by have q := b68_241; rw [← (show (σx269.2.2.1 153) = (σ41.2.2.1 153) from hq271.2.2.1 153 rfl)] at q; exact q) ((mtM_fq hX41_1 rfl rfl rfl rfl rfl rfl rfl _ _).symm.trans hb272) hS (Int32.not_le.mp b115_278) (by have q := hX158_0; rw [(show j158 = (tm (σ.1 14000) (σ.1 14013) (σ.2.2.1 148)) from by first | exact tm_exit (by omega) hX158_2 (by assumption) | exact tm_ex20 hX158_2)] at q; exact q)) hX158_1
                                  · skip
                                    refine R_iload (pc := 165) dX9_findChains_165 rfl ?_
                                    refine R_ifeq (pc := 167) 198 dX9_findChains_167 (by decide) (fun h => absurd h (by decide)) (fun _ => ?_)
                                    refine R_aload_n (pc := 170) dX9_findChains_170 rfl rfl ?_
                                    refine R_iload (pc := 171) dX9_findChains_171 rfl ?_
                                    refine R_aload_n (pc := 173) dX9_findChains_173 rfl rfl ?_
                                    refine R_iload (pc := 174) dX9_findChains_174 rfl ?_
                                    have hx316 : vp_in (nI j158) 20 := (vp_in_nI (by omega) (by decide))
                                    refine R_iaload (pc := 176) dX9_findChains_176 (c_153 _) hx316 ?_
                                    refine R_iload (pc := 177) dX9_findChains_177 rfl ?_
                                    refine R_icne (pc := 179) 187 dX9_findChains_179 (by decide) (fun b179_317 => ?_) (fun b179_317 => ?_)
                                    · skip
                                      refine R_aload_n (pc := 187) dX9_findChains_187 rfl rfl ?_
                                      refine R_iload (pc := 188) dX9_findChains_188 rfl ?_
                                      have hx318 : vp_in (nI j158) 20 := (vp_in_nI (by omega) (by decide))
                                      refine R_iaload (pc := 190) dX9_findChains_190 (c_153 _) hx318 ?_
                                      have hx319 : vp_in (nI j158) 20 := (vp_in_nI (by omega) (by decide))
                                      refine W_iastore (pc := 191) dX9_findChains_191 (c_153 _) hx319 (a_153 _ _) ?_
                                      have hV320 := sa_153 hI158 (Int32.toNatClampNeg (nI j158)) (iva_153 hI158 _ (lt_of_vp hx316))
                                      have hW321 := cor_sa 153 (upd (σ158.2.2.1 153) (Int32.toNatClampNeg (nI j158)) (σ158.2.2.1 153 (Int32.toNatClampNeg (nI j158)))) hC158 rfl
                                      refine inc_11_10_1_i (pc := 192) dX9_findChains_192 ?_
                                      have r322 : inR ((nI j158) + 1) 1 20 := inR_add (show inR (nI j158) 0 19 from hrg158) (show inR 1 1 1 from (inR_self _)) (by decide) (by decide)
                                      have e323 := ti_add (l := 1) (h := 20) (show inR (nI j158) 0 19 from hrg158) (show inR 1 1 1 from (inR_self _)) (by decide) (by decide)
                                      refine R_goto (pc := 195) 158 dX9_findChains_195 (by decide) ?_
                                      rw [nI_1]
                                      exact ih158 (j158 + 1) _ (by omega) (by omega) hV320 hW321 (mg_f (by omega) hX158_0 b179_317) (fq_a 153 _ hX158_1 rfl) (tm_next (by omega) b162_312)
                                    · skip
                                      refine R_iload (pc := 182) dX9_findChains_182 rfl ?_
                                      refine R_goto (pc := 184) 191 dX9_findChains_184 (by decide) ?_
                                      have hx324 : vp_in (nI j158) 20 := (vp_in_nI (by omega) (by decide))
                                      refine W_iastore (pc := 191) dX9_findChains_191 (c_153 _) hx324 (a_153 _ _) ?_
                                      have hV325 := sa_153 hI158 (Int32.toNatClampNeg (nI j158)) (iva_153 hV268 _ (lt_of_vp hx276))
                                      have hW326 := cor_sa 153 (upd (σ158.2.2.1 153) (Int32.toNatClampNeg (nI j158)) (σx269.2.2.1 153 (Int32.toNatClampNeg (nI j31)))) hC158 rfl
                                      refine inc_11_10_1_i (pc := 192) dX9_findChains_192 ?_
                                      have r327 : inR ((nI j158) + 1) 1 20 := inR_add (show inR (nI j158) 0 19 from hrg158) (show inR 1 1 1 from (inR_self _)) (by decide) (by decide)
                                      have e328 := ti_add (l := 1) (h := 20) (show inR (nI j158) 0 19 from hrg158) (show inR 1 1 1 from (inR_self _)) (by decide) (by decide)
                                      refine R_goto (pc := 195) 158 dX9_findChains_195 (by decide) ?_
                                      rw [nI_1]
                                      exact ih158 (j158 + 1) _ (by omega) (by omega) hV325 hW326 (mg_t (by omega) hX158_0 b179_317) (fq_a 153 _ hX158_1 rfl) (tm_next (by omega) b162_312)
                              exact HL158 20 0 _ (by omega) (by omega) hV268 hW273 mg_0 hq274 (Nat.zero_le _)
                          · skip
                            refine R_ifeq (pc := 83) 104 dX9_findChains_83 (by decide) (fun _ => ?_) (fun h => absurd (by decide) h)
                            refine R_iconst (pc := 104) (v := 0) dX9_findChains_104 (by decide) ?_
                            refine st_11_7_i_i (pc := 105) dX9_findChains_105 ?_
                            refine R_aload_n (pc := 107) dX9_findChains_107 rfl rfl ?_
                            refine R_iload (pc := 108) dX9_findChains_108 rfl ?_
                            have hx330 : vp_in (nI j31) 20 := (vp_in_nI (by omega) (by decide))
                            refine R_iaload (pc := 110) dX9_findChains_110 (c_153 _) hx330 ?_
                            refine R_aload_n (pc := 111) dX9_findChains_111 rfl rfl ?_
                            refine R_iload (pc := 112) dX9_findChains_112 rfl ?_
                            have hx331 : vp_in (nI j41) 20 := (vp_in_nI (by omega) (by decide))
                            refine R_iaload (pc := 114) dX9_findChains_114 (c_153 _) hx331 ?_
                            refine R_icge (pc := 115) 125 dX9_findChains_115 (by decide) (fun b115_332 => ?_) (fun b115_332 => ?_)
                            · skip
                              refine R_aload_n (pc := 125) dX9_findChains_125 rfl rfl ?_
                              refine R_iload (pc := 126) dX9_findChains_126 rfl ?_
                              have hx333 : vp_in (nI j41) 20 := (vp_in_nI (by omega) (by decide))
                              refine R_iaload (pc := 128) dX9_findChains_128 (c_153 _) hx333 ?_
                              refine st_11_8_i_i (pc := 129) dX9_findChains_129 ?_
                              refine R_aload_n (pc := 131) dX9_findChains_131 rfl rfl ?_
                              refine R_iload (pc := 132) dX9_findChains_132 rfl ?_
                              have hx334 : vp_in (nI j31) 20 := (vp_in_nI (by omega) (by decide))
                              refine R_iaload (pc := 134) dX9_findChains_134 (c_153 _) hx334 ?_
                              refine R_aload_n (pc := 135) dX9_findChains_135 rfl rfl ?_
                              refine R_iload (pc := 136) dX9_findChains_136 rfl ?_
                              have hx335 : vp_in (nI j41) 20 := (vp_in_nI (by omega) (by decide))
                              refine R_iaload (pc := 138) dX9_findChains_138 (c_153 _) hx335 ?_
                              refine R_icge (pc := 139) 149 dX9_findChains_139 (by decide) (fun _ => ?_) (fun h => absurd b115_332 h)
                              refine R_aload_n (pc := 149) dX9_findChains_149 rfl rfl ?_
                              refine R_iload (pc := 150) dX9_findChains_150 rfl ?_
                              have hx337 : vp_in (nI j31) 20 := (vp_in_nI (by omega) (by decide))
                              refine R_iaload (pc := 152) dX9_findChains_152 (c_153 _) hx337 ?_
                              refine st_11_9_i_i (pc := 153) dX9_findChains_153 ?_
                              refine R_iconst (pc := 155) (v := 0) dX9_findChains_155 (by decide) ?_
                              refine st_11_10_i_i (pc := 156) dX9_findChains_156 ?_
                              refine R_iload (pc := 158) dX9_findChains_158 rfl ?_
                              refine R_iload (pc := 160) dX9_findChains_160 rfl ?_
                              refine R_icge (pc := 162) 198 dX9_findChains_162 (by decide) (fun b162_338 => ?_) (fun b162_338 => ?_)
                              · skip
                                refine inc_11_6_1_i (pc := 198) dX9_findChains_198 ?_
                                have r339 : inR ((nI j41) + 1) 1 20 := inR_add (show inR (nI j41) 0 19 from hrg41) (show inR 1 1 1 from (inR_self _)) (by decide) (by decide)
                                have e340 := ti_add (l := 1) (h := 20) (show inR (nI j41) 0 19 from hrg41) (show inR 1 1 1 from (inR_self _)) (by decide) (by decide)
                                refine R_goto (pc := 201) 41 dX9_findChains_201 (by decide) ?_
                                rw [nI_1]
                                exact ih41 (j41 + 1) _ _ _ _ _ (by omega) (by omega) hV268 hW273 (by rw [(show (σx269.2.2.1 153) = (σ41.2.2.1 153) from hq271.2.2.1 153 rfl)]; exact (lb_no hX41_0 (tm_next (by omega) b35_180) (Nat.lt_of_not_le (fun q => b45_184 ((nI_leI (by omega) (by omega)).mpr q))) (tm_le _ _ _) (Or.inr (Or.inr (Or.inr ((mtM_fq hX41_1 rfl rfl rfl rfl rfl rfl rfl _ _).symm.trans hb272)))))) hq274
                              · skip
                                refine R_iload (pc := 165) dX9_findChains_165 rfl ?_
                                refine R_ifeq (pc := 167) 198 dX9_findChains_167 (by decide) (fun _ => ?_) (fun h => absurd (by decide) h)
                                refine inc_11_6_1_i (pc := 198) dX9_findChains_198 ?_
                                have r342 : inR ((nI j41) + 1) 1 20 := inR_add (show inR (nI j41) 0 19 from hrg41) (show inR 1 1 1 from (inR_self _)) (by decide) (by decide)
                                have e343 := ti_add (l := 1) (h := 20) (show inR (nI j41) 0 19 from hrg41) (show inR 1 1 1 from (inR_self _)) (by decide) (by decide)
                                refine R_goto (pc := 201) 41 dX9_findChains_201 (by decide) ?_
                                rw [nI_1]
                                exact ih41 (j41 + 1) _ _ _ _ _ (by omega) (by omega) hV268 hW273 (by rw [(show (σx269.2.2.1 153) = (σ41.2.2.1 153) from hq271.2.2.1 153 rfl)]; exact (lb_no hX41_0 (tm_next (by omega) b35_180) (Nat.lt_of_not_le (fun q => b45_184 ((nI_leI (by omega) (by omega)).mpr q))) (tm_le _ _ _) (Or.inr (Or.inr (Or.inr ((mtM_fq hX41_1 rfl rfl rfl rfl rfl rfl rfl _ _).symm.trans hb272)))))) hq274
                            · skip
                              refine R_aload_n (pc := 118) dX9_findChains_118 rfl rfl ?_
                              refine R_iload (pc := 119) dX9_findChains_119 rfl ?_
                              have hx344 : vp_in (nI j31) 20 := (vp_in_nI (by omega) (by decide))
                              refine R_iaload (pc := 121) dX9_findChains_121 (c_153 _) hx344 ?_
                              refine R_goto (pc := 122) 129 dX9_findChains_122 (by decide) ?_
                              refine st_11_8_i_i (pc := 129) dX9_findChains_129 ?_
                              refine R_aload_n (pc := 131) dX9_findChains_131 rfl rfl ?_
                              refine R_iload (pc := 132) dX9_findChains_132 rfl ?_
                              have hx345 : vp_in (nI j31) 20 := (vp_in_nI (by omega) (by decide))
                              refine R_iaload (pc := 134) dX9_findChains_134 (c_153 _) hx345 ?_
                              refine R_aload_n (pc := 135) dX9_findChains_135 rfl rfl ?_
                              refine R_iload (pc := 136) dX9_findChains_136 rfl ?_
                              have hx346 : vp_in (nI j41) 20 := (vp_in_nI (by omega) (by decide))
                              refine R_iaload (pc := 138) dX9_findChains_138 (c_153 _) hx346 ?_
                              refine R_icge (pc := 139) 149 dX9_findChains_139 (by decide) (fun h => absurd h b115_332) (fun _ => ?_)
                              refine R_aload_n (pc := 142) dX9_findChains_142 rfl rfl ?_
                              refine R_iload (pc := 143) dX9_findChains_143 rfl ?_
                              have hx348 : vp_in (nI j41) 20 := (vp_in_nI (by omega) (by decide))
                              refine R_iaload (pc := 145) dX9_findChains_145 (c_153 _) hx348 ?_
                              refine R_goto (pc := 146) 153 dX9_findChains_146 (by decide) ?_
                              refine st_11_9_i_i (pc := 153) dX9_findChains_153 ?_
                              refine R_iconst (pc := 155) (v := 0) dX9_findChains_155 (by decide) ?_
                              refine st_11_10_i_i (pc := 156) dX9_findChains_156 ?_
                              refine R_iload (pc := 158) dX9_findChains_158 rfl ?_
                              refine R_iload (pc := 160) dX9_findChains_160 rfl ?_
                              refine R_icge (pc := 162) 198 dX9_findChains_162 (by decide) (fun b162_349 => ?_) (fun b162_349 => ?_)
                              · skip
                                refine inc_11_6_1_i (pc := 198) dX9_findChains_198 ?_
                                have r350 : inR ((nI j41) + 1) 1 20 := inR_add (show inR (nI j41) 0 19 from hrg41) (show inR 1 1 1 from (inR_self _)) (by decide) (by decide)
                                have e351 := ti_add (l := 1) (h := 20) (show inR (nI j41) 0 19 from hrg41) (show inR 1 1 1 from (inR_self _)) (by decide) (by decide)
                                refine R_goto (pc := 201) 41 dX9_findChains_201 (by decide) ?_
                                rw [nI_1]
                                exact ih41 (j41 + 1) _ _ _ _ _ (by omega) (by omega) hV268 hW273 (by rw [(show (σx269.2.2.1 153) = (σ41.2.2.1 153) from hq271.2.2.1 153 rfl)]; exact (lb_no hX41_0 (tm_next (by omega) b35_180) (Nat.lt_of_not_le (fun q => b45_184 ((nI_leI (by omega) (by omega)).mpr q))) (tm_le _ _ _) (Or.inr (Or.inr (Or.inr ((mtM_fq hX41_1 rfl rfl rfl rfl rfl rfl rfl _ _).symm.trans hb272)))))) hq274
                              · skip
                                refine R_iload (pc := 165) dX9_findChains_165 rfl ?_
                                refine R_ifeq (pc := 167) 198 dX9_findChains_167 (by decide) (fun _ => ?_) (fun h => absurd (by decide) h)
                                refine inc_11_6_1_i (pc := 198) dX9_findChains_198 ?_
                                have r353 : inR ((nI j41) + 1) 1 20 := inR_add (show inR (nI j41) 0 19 from hrg41) (show inR 1 1 1 from (inR_self _)) (by decide) (by decide)
                                have e354 := ti_add (l := 1) (h := 20) (show inR (nI j41) 0 19 from hrg41) (show inR 1 1 1 from (inR_self _)) (by decide) (by decide)
                                refine R_goto (pc := 201) 41 dX9_findChains_201 (by decide) ?_
                                rw [nI_1]
                                exact ih41 (j41 + 1) _ _ _ _ _ (by omega) (by omega) hV268 hW273 (by rw [(show (σx269.2.2.1 153) = (σ41.2.2.1 153) from hq271.2.2.1 153 rfl)]; exact (lb_no hX41_0 (tm_next (by omega) b35_180) (Nat.lt_of_not_le (fun q => b45_184 ((nI_leI (by omega) (by omega)).mpr q))) (tm_le _ _ _) (Or.inr (Or.inr (Or.inr ((mtM_fq hX41_1 rfl rfl rfl rfl rfl rfl rfl _ _).symm.trans hb272)))))) hq274
              exact HL41 20 0 _ _ _ _ _ (by omega) (by omega) hI31 hC31 hX31_0 hX31_1
        exact HL31 20 0 _ _ _ _ _ _ (by omega) (by omega) hI9 hC9 (lb_0 (by have q := hX9_0; rw [(show j9 = (tm (σ.1 14000) (σ.1 14013) (σ.2.2.1 148)) from by first | exact tm_exit (by omega) hX9_2 (by assumption) | exact tm_ex20 hX9_2)] at q; exact q)) hX9_1 (Nat.zero_le _)
      · skip
        refine R_aload_n (pc := 16) dX9_findChains_16 rfl rfl ?_
        refine R_iload (pc := 17) dX9_findChains_17 rfl ?_
        refine R_iload (pc := 19) dX9_findChains_19 rfl ?_
        have hx355 : vp_in (nI j9) 20 := (vp_in_nI (by omega) (by decide))
        refine W_iastore (pc := 21) dX9_findChains_21 (c_153 _) hx355 (a_153 _ _) ?_
        have hV356 := sa_153 hI9 (Int32.toNatClampNeg (nI j9)) hrg9
        have hW357 := cor_sa 153 (upd (σ9.2.2.1 153) (Int32.toNatClampNeg (nI j9)) (nI j9)) hC9 rfl
        refine inc_11_5_1_i (pc := 22) dX9_findChains_22 ?_
        have r358 : inR ((nI j9) + 1) 1 20 := inR_add (show inR (nI j9) 0 19 from hrg9) (show inR 1 1 1 from (inR_self _)) (by decide) (by decide)
        have e359 := ti_add (l := 1) (h := 20) (show inR (nI j9) 0 19 from hrg9) (show inR 1 1 1 from (inR_self _)) (by decide) (by decide)
        refine R_goto (pc := 25) 9 dX9_findChains_25 (by decide) ?_
        rw [nI_1]
        exact ih9 (j9 + 1) _ (by omega) (by omega) hV356 hW357 (in_s (by omega) hX9_0) (fq_a 153 _ hX9_1 rfl) (tm_next (by omega) b13_178)
  exact HL9 20 0 _ (by omega) (by omega) hI (show Cor σ σ from Cor.rfl' σ) (fun x hx => absurd hx (Nat.not_lt_zero x)) (fq_rfl _ σ) (Nat.zero_le _)
