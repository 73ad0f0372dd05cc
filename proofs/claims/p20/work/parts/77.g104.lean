/-! methods on any state that keeps the invariant -/
/-! unseen: counts, and the least words for the share -/
def rc13 (s : Int32) : Int32 := if 1 < s then s else 1
/-- the class's words -/
def unC (p f g : Int32) : Int32 := (if p = 0 then (if 0 < g then f * f else f * (f - 1)) else (if 0 < g then 2 * g else 2)) / rc13 (cdR 64 (if 0 < g then f * f else f * (f - 1)) (if 0 < g then 2 * g else 2))
/-- the reference's words -/
def lwM (a b : Int32) (u : Bool) : Int32 := bif u then a / cdR b.toInt.toNat a b else b / cdR b.toInt.toNat a b
def unM (p f g : Int32) : Int32 := bif decide (g = 0) then lwM (f * (f - 1)) 2 (decide (p = 0)) else lwM (f * f) (2 * g) (decide (p = 0))
theorem un_0 : ∀ i j : Fin 21, unC 0 (nI i.val) (nI j.val) = unM 0 (nI i.val) (nI j.val) := by decide +kernel
theorem un_1 : ∀ i j : Fin 21, unC 1 (nI i.val) (nI j.val) = unM 1 (nI i.val) (nI j.val) := by decide +kernel
theorem un_eq {p : Int32} {i j : Nat} (hp : inR p 0 1) (hi : i ≤ 20) (hj : j ≤ 20) : unC p (nI i) (nI j) = unM p (nI i) (nI j) := by
  obtain ⟨k, hk, rfl⟩ := nI_inR (M := 1) hp (by decide)
  rcases (show k = 0 ∨ k = 1 by omega) with rfl | rfl
  · exact un_0 ⟨i, by omega⟩ ⟨j, by omega⟩
  · exact un_1 ⟨i, by omega⟩ ⟨j, by omega⟩
def A_uns (p v : Int32) : Int32 := bif inB p 0 1 then v else -3
theorem A_uns_f {p : Int32} (v : Int32) (h : inB p 0 1 = false) : A_uns p v = -3 := by unfold A_uns; rw [h]; rfl
theorem A_uns_t {p : Int32} (v : Int32) (h : inB p 0 1 = true) : A_uns p v = v := by unfold A_uns; rw [h]; rfl
/-! how many CARDS are seen so many times: the class's side -/
noncomputable def snC (σ : Sg) (c : Nat) : Int32 := pcI (vsI (kin (fun a b => mtC σ (nI a) (nI b)) (tb (thI σ)) c) (σ.2.2.1 2) 20)
noncomputable def fsC (σ : Sg) (t : Int32) : Nat → Bool := fun c => lstB (fun a b => mtC σ (nI a) (nI b)) (tb (thI σ)) c && decide (snC σ c = t)
theorem lv_symI (σ : Sg) (a b : Nat) : LVI σ a b = LVI σ b a := lv_sym σ a b
theorem sym_mtC {σ : Sg} (hI : Inv σ) (hL : ChL σ) (hD : ChD σ) : Sym (fun a b => mtC σ (nI a) (nI b)) (tb (thI σ)) := by
  intro x y hx hy hr
  by_cases e : x = y
  · subst e; exact hr
  · have a := thI_t hx
    have b := thI_t hy
    have hr2 : mtC σ (nI x) (nI y) = true := hr
    show mtC σ (nI y) (nI x) = true
    rw [← hr2]
    unfold mtC
    have hf : σ.2.2.1 (35 + (Int32.toNatClampNeg (nI y))) (Int32.toNatClampNeg (nI x)) = σ.2.2.1 (35 + (Int32.toNatClampNeg (nI x))) (Int32.toNatClampNeg (nI y)) := by
      rw [chL_at hI hL b.2 a.2, chL_at hI hL a.2 b.2]; exact lv_symI _ _ _
    have hk : lkC σ (nI y) (nI x) = lkC σ (nI x) (nI y) := by
      unfold lkC
      rw [chD_at hI hD (tt_of b a (fun q => e q.symm)), chD_at hI hD (tt_of a b e), dv_sym hI (by rw [nI_clamp (by omega)]; exact b.1) (by rw [nI_clamp (by omega)]; exact a.1)]
    exact mtB_sym _ _ hk hf
/-! the reference's side -/
noncomputable def fsM (σ : Sg) (t : Int32) : Nat → Bool := fun c => decide (lab (mtN σ) (AMp σ) c = c) && decide (snM σ (nI c) = t)
theorem snM_c {σ : Sg} {c : Nat} (h : c < 20) : snM σ (nI c) = nI (cb (vsI (kin (mtN σ) (AMp σ) c) (σ.2.2.1 141) 20) 20) := by
  unfold snM
  rw [nI_clamp (by omega)]
theorem fs_eq {σ σ2 : Sg} {t : Int32} (hI : Inv σ) (hT : Tie σ) (hL : ChL σ) (hD : ChD σ) (h1 : Cor σ σ2) : cntB (fsC σ t) 20 = cntB (fsM σ2 t) (TMn σ2) := by
  have t20 := TMn_20 σ2
  have e := cnt_hi (f := fsC σ t) (n := TMn σ2) (fun i hi => by
    show (lstB _ (tb (thI σ)) i && _) = false
    unfold lstB
    rw [thI_AM hI hT h1, AMp_ge hi]; rfl) (20 - TMn σ2)
  rw [show TMn σ2 + (20 - TMn σ2) = 20 by omega] at e
  rw [e]
  refine cnt_congr _ (fun i hi => ?_)
  have hA : tb (thI σ) i = true := by rw [thI_AM hI hT h1]; exact AMp_lt hi
  have h20 : i < 20 := by omega
  show ((tb (thI σ) i && decide (lab _ (tb (thI σ)) i = i)) && decide (snC σ i = t)) = (decide (lab (mtN σ2) (AMp σ2) i = i) && decide (snM σ2 (nI i) = t))
  have hs : snC σ i = snM σ2 (nI i) := by
    have q := sn_eq hI hT hL hD h1 (thI_t hA).2
    rw [nI_clamp (by omega)] at q
    exact q
  rw [hs, lab_mt hI hT hL hD h1 hA, hA, Bool.true_and]
theorem ans_unseen {σ σ2 : Sg} {p : Int32} (hI : Inv σ) (hT : Tie σ) (hL : ChL σ) (hD : ChD σ) (h1 : Cor σ σ2) : A_uns p (unC p (nI (cntB (fsC σ 1) 20)) (nI (cntB (fsC σ 2) 20))) = A_uns p (unM p (nI (cntB (fsM σ2 1) (TMn σ2))) (nI (cntB (fsM σ2 2) (TMn σ2)))) := by
  cases h : inB p 0 1
  · rw [A_uns_f _ h, A_uns_f _ h]
  · rw [A_uns_t _ h, A_uns_t _ h, fs_eq hI hT hL hD h1, fs_eq hI hT hL hD h1]
    have t20 := TMn_20 σ2
    exact un_eq (inB_r h) (by have := cnt_le (fsM σ2 1) (TMn σ2); omega) (by have := cnt_le (fsM σ2 2) (TMn σ2); omega)
/-! steps of the counts -/
theorem cd_ne : ∀ (q : Nat) (u v : Int32), v.toInt ≤ (q : Int) → 0 ≤ u.toInt → 0 ≤ v.toInt → (¬ u = 0 ∨ ¬ v = 0) → ¬ cdR q u v = 0 := by
  intro q
  induction q with
  | zero =>
    intro u v h1 h2 h3 h4
    have z : (0 : Int32).toInt = 0 := by decide
    have hv : v = 0 := Int32.toInt_inj.mp (by omega)
    show ¬ u = 0
    exact h4.resolve_right (fun h => h hv)
  | succ q ih =>
    intro u v h1 h2 h3 h4
    show ¬ (if v = 0 then u else cdR q v (u - u / v * v)) = 0
    by_cases hv : v = 0
    · rw [if_pos hv]; exact h4.resolve_right (fun h => h hv)
    · rw [if_neg hv]
      have hp : 0 < v.toInt := by
        have := ti_ne hv
        have z : (0 : Int32).toInt = 0 := by decide
        omega
      have hr := rem_in h2 hp
      exact ih v _ (by omega) h3 hr.1 (Or.inl hv)
theorem fsC_f1 {σ : Sg} {t : Int32} {c : Nat} (h : lstB (fun a b => mtC σ (nI a) (nI b)) (tb (thI σ)) c = false) : fsC σ t c = false := by unfold fsC; rw [h, Bool.false_and]
theorem fsC_f2 {σ : Sg} {t : Int32} {c : Nat} (h : ¬ snC σ c = t) : fsC σ t c = false := by unfold fsC; rw [decide_eq_false h, Bool.and_false]
theorem fsC_t {σ : Sg} {t : Int32} {c : Nat} (h : lstB (fun a b => mtC σ (nI a) (nI b)) (tb (thI σ)) c = true) (h2 : snC σ c = t) : fsC σ t c = true := by unfold fsC; rw [h, decide_eq_true h2]; rfl
theorem lab_is {R : Nat → Nat → Bool} {σ : Sg} {f : Nat → Int32} {j : Nat} (hj : AMp σ j = true) (e : f j = nI (lab R (AMp σ) j)) : f j = nI j ↔ lab R (AMp σ) j = j := by
  have a := lab_20 (R := R) hj
  have b : j < 20 := Nat.lt_of_lt_of_le (of_decide_eq_true hj) (tm_le _ _ _)
  rw [e]
  exact nI_eq (by omega) (by omega)
theorem fsM_f1 {σ : Sg} {t : Int32} {c : Nat} (h : ¬ lab (mtN σ) (AMp σ) c = c) : fsM σ t c = false := by unfold fsM; rw [decide_eq_false h, Bool.false_and]
theorem fsM_f2 {σ : Sg} {t : Int32} {c : Nat} (h : ¬ snM σ (nI c) = t) : fsM σ t c = false := by unfold fsM; rw [decide_eq_false h, Bool.and_false]
theorem fsM_t {σ : Sg} {t : Int32} {c : Nat} (h : lab (mtN σ) (AMp σ) c = c) (h2 : snM σ (nI c) = t) : fsM σ t c = true := by unfold fsM; rw [decide_eq_true h, decide_eq_true h2]; rfl
theorem sn9 {σ τ : Sg} {f : Nat → Int32} {j : Nat} (hI : Inv σ) (h : Cor σ τ) (hj : AMp σ j = true) (hf : ∀ i, AMp σ i = true → f i = nI (lab (mtN σ) (AMp σ) i)) (e : f j = nI j) : nI (cb (lsR f (τ.2.2.1 141) (nI j) (TMn τ)) 20) = snM σ (nI j) := by
  have b : j < 20 := Nat.lt_of_lt_of_le (of_decide_eq_true hj) (tm_le _ _ _)
  have q := ls_kin hI h hj hf
  rw [e] at q
  rw [q, snM_c b]
set_option maxRecDepth 100000 in
set_option maxHeartbeats 40000000 in
theorem gn_X3_differentCards {G : vG} {l : Launch} (σ : Sg) (b : Int32) (hI : Inv σ) (hb : inR b 0 1048575) (hS : Sym (fun a b => mtC σ (nI a) (nI b)) (tb b)) : Sp G l yX3_differentCards cX3_differentCards 2 (some .int) 4 0 0 [.ref 12, .int b] (WW σ) (QI (fun x w2 => w2 = WW σ ∧ x = bsI (lstB (fun a b => mtC σ (nI a) (nI b)) (tb b)) 20)) := by
  refine Sp_of_R [(some (.ref 12)), (some (.int b))] [] rfl (by simp) rfl (Nat.le_of_ble_eq_true rfl) ?_
  refine R_aload_n (pc := 0) dX3_differentCards_0 rfl rfl ?_
  refine R_iload_n (pc := 1) dX3_differentCards_1 rfl rfl ?_
  refine R_iconst (pc := 2) (v := 1) dX3_differentCards_2 (by decide) ?_
  refine k_X3_112 (pc := 3) (gn_X3_leastOfChains_1 _ _ hI hb hS) rfl (c_12 _) (by decide) (Nat.le_refl _) (Nat.le_refl _) (Nat.le_of_ble_eq_true rfl) dX3_differentCards_3 (fun x w2 h => ?_)
  obtain ⟨rfl, rfl⟩ := h
  exact R_iret (pc := 6) dX3_differentCards_6 rfl rfl (Nat.zero_le _) (Nat.zero_le _) ⟨_, rfl, rfl, rfl⟩
set_option maxRecDepth 100000 in
set_option maxHeartbeats 40000000 in
theorem gn_X8_cardsSeen {G : vG} {l : Launch} (σ : Sg) (t : Int32) (hI : Inv σ) (hS : Sym (fun a b => mtC σ (nI a) (nI b)) (tb (thI σ))) : Sp G l yX8_cardsSeen cX8_cardsSeen 5 (some .int) 5 0 0 [.ref 0, .int t] (WW σ) (QI (fun x w2 => w2 = WW σ ∧ x = nI (cntB (fsC σ t) 20))) := by
  refine Sp_of_R [(some (.ref 0)), (some (.int t)), none, none, none] [none, none, none] rfl (by simp) rfl (Nat.le_of_ble_eq_true rfl) ?_
  refine R_iconst (pc := 0) (v := 0) dX8_cardsSeen_0 (by decide) ?_
  refine st_5_2_i_i (pc := 1) dX8_cardsSeen_1 ?_
  refine R_aload_n (pc := 2) dX8_cardsSeen_2 rfl rfl ?_
  refine g_X8_21 (pc := 3) (v := .ref 12) rfl dX8_cardsSeen_3 (c_0 _) rfl ?_
  refine R_aload_n (pc := 6) dX8_cardsSeen_6 rfl rfl ?_
  refine g_X8_10 (pc := 7) (v := .ref 1) rfl dX8_cardsSeen_7 (c_0 _) rfl ?_
  refine k_X8_126 (pc := 10) (ge_X0_there _ hI) rfl (c_1 _) (by decide) (Nat.le_refl _) (Nat.le_refl _) (Nat.le_of_ble_eq_true rfl) dX8_cardsSeen_10 (fun x w2 h => ?_)
  obtain ⟨rfl, rfl⟩ := h
  refine k_X8_206 (pc := 13) (gn_X3_differentCards _ _ hI (thI_in σ) hS) rfl (c_12 _) (by decide) (Nat.le_refl _) (Nat.le_refl _) (Nat.le_of_ble_eq_true rfl) dX8_cardsSeen_13 (fun x w2 h => ?_)
  obtain ⟨rfl, rfl⟩ := h
  refine st_5_3_i_i (pc := 16) dX8_cardsSeen_16 ?_
  refine R_iconst (pc := 17) (v := 0) dX8_cardsSeen_17 (by decide) ?_
  refine st_5_4_i_i (pc := 18) dX8_cardsSeen_18 ?_
  have HL20 : ∀ (q j20 : Nat) (g2_20 : Int32), j20 + q = 20 → 0 ≤ j20 → g2_20 = nI (cntB (fsC σ t) j20) → R G l yX8_cardsSeen cX8_cardsSeen 5 (some .int) 5 0 0 (QI (fun x w2 => w2 = WW σ ∧ x = nI (cntB (fsC σ t) 20))) 20 [(some (.ref 0)), (some (.int t)), (some (.int g2_20)), (some (.int (bsI (lstB (fun a b => mtC σ (nI a) (nI b)) (tb (thI σ))) 20))), (some (.int (nI j20)))] [] (WW σ) 0 0 := by
    intro q
    induction q with
    | zero =>
      intro j20 g2_20 hj hs20 hX20_0
      obtain rfl : j20 = 20 := by omega
      refine R_iload (pc := 20) dX8_cardsSeen_20 rfl ?_
      refine R_bipush (pc := 22) (v := 20) dX8_cardsSeen_22 (by decide) ?_
      refine R_icge (pc := 24) 55 dX8_cardsSeen_24 (by decide) (fun _ => ?_) (fun h => absurd (by decide) h)
      refine R_iload_n (pc := 55) dX8_cardsSeen_55 rfl rfl ?_
      exact R_iret (pc := 56) dX8_cardsSeen_56 rfl rfl (Nat.zero_le _) (Nat.zero_le _) ⟨_, rfl, rfl, hX20_0⟩
    | succ q ih20 =>
      intro j20 g2_20 hj hs20 hX20_0
      have hrg20 : inR (nI j20) 0 19 := inR_ix hs20 (show j20 < 20 by omega) (by decide) (by decide) (by decide)
      have hlt20 : j20 < 20 := by omega
      refine R_iload (pc := 20) dX8_cardsSeen_20 rfl ?_
      refine R_bipush (pc := 22) (v := 20) dX8_cardsSeen_22 (by decide) ?_
      refine R_icge (pc := 24) 55 dX8_cardsSeen_24 (by decide) (fun h => False.elim (by have q1 := ti_le h; have q2 := ti_in (show inR (nI j20) 0 19 from hrg20); have q3 := ti_in (show inR 20 20 20 from (inR_self _)); have z0 : (0 : Int32).toInt = 0 := (by decide);  have z1 : (19 : Int32).toInt = 19 := (by decide);  have z2 : (20 : Int32).toInt = 20 := (by decide); omega)) (fun _ => ?_)
      refine R_iload_n (pc := 27) dX8_cardsSeen_27 rfl rfl ?_
      refine R_iload (pc := 28) dX8_cardsSeen_28 rfl ?_
      refine k_X8_209 (pc := 30) (sp_X8_has _ _ _) rfl (by decide) (Nat.le_refl _) (Nat.le_refl _) (Nat.le_of_ble_eq_true rfl) dX8_cardsSeen_30 (fun x w2 h => ?_)
      rcases h with ⟨rfl, ⟨hh3, rfl⟩ | ⟨hh3, rfl⟩⟩
      · skip
        refine R_ifeq (pc := 33) 49 dX8_cardsSeen_33 (by decide) (fun h => absurd h (by decide)) (fun _ => ?_)
        refine R_aload_n (pc := 36) dX8_cardsSeen_36 rfl rfl ?_
        refine R_iload (pc := 37) dX8_cardsSeen_37 rfl ?_
        refine k_X8_147 (pc := 39) (ge_X8_timesSeen _ _ hI hrg20) rfl (c_0 _) (by decide) (Nat.le_refl _) (Nat.le_refl _) (Nat.le_of_ble_eq_true rfl) dX8_cardsSeen_39 (fun x w2 h => ?_)
        obtain ⟨rfl, rfl⟩ := h
        refine R_iload_n (pc := 42) dX8_cardsSeen_42 rfl rfl ?_
        refine R_icne (pc := 43) 49 dX8_cardsSeen_43 (by decide) (fun b43_5 => ?_) (fun b43_5 => ?_)
        · skip
          refine inc_5_4_1_i (pc := 49) dX8_cardsSeen_49 ?_
          have r6 : inR ((nI j20) + 1) 1 20 := inR_add (show inR (nI j20) 0 19 from hrg20) (show inR 1 1 1 from (inR_self _)) (by decide) (by decide)
          have e7 := ti_add (l := 1) (h := 20) (show inR (nI j20) 0 19 from hrg20) (show inR 1 1 1 from (inR_self _)) (by decide) (by decide)
          refine R_goto (pc := 52) 20 dX8_cardsSeen_52 (by decide) ?_
          rw [nI_1]
          exact ih20 (j20 + 1) _ (by omega) (by omega) (ct_f (f := fsC σ t) hX20_0 (fsC_f2 (by have q := b43_5; rw [nI_clamp (by omega)] at q; exact q)))
        · skip
          refine inc_5_2_1_i (pc := 46) dX8_cardsSeen_46 ?_
          refine inc_5_4_1_i (pc := 49) dX8_cardsSeen_49 ?_
          have r8 : inR ((nI j20) + 1) 1 20 := inR_add (show inR (nI j20) 0 19 from hrg20) (show inR 1 1 1 from (inR_self _)) (by decide) (by decide)
          have e9 := ti_add (l := 1) (h := 20) (show inR (nI j20) 0 19 from hrg20) (show inR 1 1 1 from (inR_self _)) (by decide) (by decide)
          refine R_goto (pc := 52) 20 dX8_cardsSeen_52 (by decide) ?_
          rw [nI_1]
          exact ih20 (j20 + 1) _ (by omega) (by omega) (ct_t (f := fsC σ t) hX20_0 (fsC_t (has_kt (by omega) hh3) (by have q := b43_5; rw [nI_clamp (by omega)] at q; exact q)))
      · skip
        refine R_ifeq (pc := 33) 49 dX8_cardsSeen_33 (by decide) (fun _ => ?_) (fun h => absurd (by decide) h)
        refine inc_5_4_1_i (pc := 49) dX8_cardsSeen_49 ?_
        have r11 : inR ((nI j20) + 1) 1 20 := inR_add (show inR (nI j20) 0 19 from hrg20) (show inR 1 1 1 from (inR_self _)) (by decide) (by decide)
        have e12 := ti_add (l := 1) (h := 20) (show inR (nI j20) 0 19 from hrg20) (show inR 1 1 1 from (inR_self _)) (by decide) (by decide)
        refine R_goto (pc := 52) 20 dX8_cardsSeen_52 (by decide) ?_
        rw [nI_1]
        exact ih20 (j20 + 1) _ (by omega) (by omega) (ct_f (f := fsC σ t) hX20_0 (fsC_f1 (has_kf (by omega) hh3)))
  exact HL20 20 0 _ (by omega) (by omega) nI_0.symm
set_option maxRecDepth 100000 in
set_option maxHeartbeats 40000000 in
theorem gq_X8_unseen {G : vG} {l : Launch} (σ : Sg) (a : Int32) (hI : Inv σ) (hS : Sym (fun a b => mtC σ (nI a) (nI b)) (tb (thI σ))) : Sp G l yX8_unseen cX8_unseen 7 (some .int) 6 0 0 [.ref 0, .int a] (WW σ) (QI (fun x w2 => x = A_uns a (unC a (nI (cntB (fsC σ 1) 20)) (nI (cntB (fsC σ 2) 20))) ∧ ∃ σ2, w2 = WW σ2 ∧ Inv σ2 ∧ Cor σ σ2)) := by
  refine Sp_of_R [(some (.ref 0)), (some (.int a)), none, none, none, none, none] [none, none, none, none, none] rfl (by simp) rfl (Nat.le_of_ble_eq_true rfl) ?_
  refine R_iload_n (pc := 0) dX8_unseen_0 rfl rfl ?_
  refine R_iconst (pc := 1) (v := 0) dX8_unseen_1 (by decide) ?_
  refine R_iconst (pc := 2) (v := 1) dX8_unseen_2 (by decide) ?_
  refine k_X8_72 (pc := 3) (sp_X8_isWithin _ _ _ _) rfl (by decide) (Nat.le_refl _) (Nat.le_refl _) (Nat.le_of_ble_eq_true rfl) dX8_unseen_3 (fun x w2 h => ?_)
  rcases h with ⟨rfl, ⟨h1, rfl⟩ | ⟨h1, rfl⟩⟩
  · skip
    refine R_ifne (pc := 6) 12 dX8_unseen_6 (by decide) (fun _ => ?_) (fun h => absurd h (by decide))
    refine R_aload_n (pc := 12) dX8_unseen_12 rfl rfl ?_
    refine R_iconst (pc := 13) (v := 1) dX8_unseen_13 (by decide) ?_
    refine k_X8_200 (pc := 14) (gn_X8_cardsSeen _ _ hI hS) rfl (c_0 _) (by decide) (Nat.le_refl _) (Nat.le_refl _) (Nat.le_of_ble_eq_true rfl) dX8_unseen_14 (fun x w2 h => ?_)
    obtain ⟨rfl, rfl⟩ := h
    refine R_cv (nI (cntB (fsC σ 1) 20)) rfl ?_
    refine st_7_2_i_i (pc := 17) dX8_unseen_17 ?_
    refine R_aload_n (pc := 18) dX8_unseen_18 rfl rfl ?_
    refine R_iconst (pc := 19) (v := 2) dX8_unseen_19 (by decide) ?_
    refine k_X8_200 (pc := 20) (gn_X8_cardsSeen _ _ hI hS) rfl (c_0 _) (by decide) (Nat.le_refl _) (Nat.le_refl _) (Nat.le_of_ble_eq_true rfl) dX8_unseen_20 (fun x w2 h => ?_)
    obtain ⟨rfl, rfl⟩ := h
    refine R_cv (nI (cntB (fsC σ 2) 20)) rfl ?_
    refine st_7_3_i_i (pc := 23) dX8_unseen_23 ?_
    refine R_iload_n (pc := 24) dX8_unseen_24 rfl rfl ?_
    refine R_ifle (pc := 25) 34 dX8_unseen_25 (by decide) (fun b25_3 => ?_) (fun b25_3 => ?_)
    · skip
      refine R_iload_n (pc := 34) dX8_unseen_34 rfl rfl ?_
      refine R_iload_n (pc := 35) dX8_unseen_35 rfl rfl ?_
      refine R_iconst (pc := 36) (v := 1) dX8_unseen_36 (by decide) ?_
      refine R_isub (pc := 37) dX8_unseen_37 ?_
      refine R_imul (pc := 38) dX8_unseen_38 ?_
      refine st_7_4_i_i (pc := 39) dX8_unseen_39 ?_
      refine R_iload_n (pc := 41) dX8_unseen_41 rfl rfl ?_
      refine R_ifle (pc := 42) 51 dX8_unseen_42 (by decide) (fun _ => ?_) (fun h => absurd b25_3 h)
      refine R_iconst (pc := 51) (v := 2) dX8_unseen_51 (by decide) ?_
      refine st_7_5_i_i (pc := 52) dX8_unseen_52 ?_
      refine R_iconst (pc := 54) (v := 1) dX8_unseen_54 (by decide) ?_
      refine R_iload (pc := 55) dX8_unseen_55 rfl ?_
      refine R_iload (pc := 57) dX8_unseen_57 rfl ?_
      refine k_X8_203 (pc := 59) (ge_X8_commonDivisor _ _ _) rfl (by decide) (Nat.le_refl _) (Nat.le_refl _) (Nat.le_of_ble_eq_true rfl) dX8_unseen_59 (fun x w2 h => ?_)
      obtain ⟨rfl, rfl⟩ := h
      refine R_cv (cdR 64 ((nI (cntB (fsC σ 1) 20)) * ((nI (cntB (fsC σ 1) 20)) - 1)) 2) rfl ?_
      refine R_mmax (pc := 62) wm_504 dX8_unseen_62 (by decide) (Nat.le_of_ble_eq_true rfl) (Nat.zero_le _) (Nat.zero_le _) ?_
      refine st_7_6_i_i (pc := 65) dX8_unseen_65 ?_
      refine R_iload_n (pc := 67) dX8_unseen_67 rfl rfl ?_
      refine R_ifne (pc := 68) 76 dX8_unseen_68 (by decide) (fun b68_5 => ?_) (fun b68_5 => ?_)
      · skip
        refine R_iload (pc := 76) dX8_unseen_76 rfl ?_
        refine R_iload (pc := 78) dX8_unseen_78 rfl ?_
        refine R_idiv (pc := 80) dX8_unseen_80 (max1_ne _) ?_
        exact R_iret (pc := 81) dX8_unseen_81 rfl rfl (Nat.zero_le _) (Nat.zero_le _) ⟨_, rfl, (by rw [A_uns_t _ (inB_t h1)]; unfold unC rc13; simp only [if_neg b68_5, if_neg (show ¬ 0 < (nI (cntB (fsC σ 2) 20)) from Int32.not_lt.mpr b25_3)]), _, rfl, hI, (show Cor σ σ from Cor.rfl' σ)⟩
      · skip
        refine R_iload (pc := 71) dX8_unseen_71 rfl ?_
        refine R_goto (pc := 73) 78 dX8_unseen_73 (by decide) ?_
        refine R_iload (pc := 78) dX8_unseen_78 rfl ?_
        refine R_idiv (pc := 80) dX8_unseen_80 (max1_ne _) ?_
        exact R_iret (pc := 81) dX8_unseen_81 rfl rfl (Nat.zero_le _) (Nat.zero_le _) ⟨_, rfl, (by rw [A_uns_t _ (inB_t h1)]; unfold unC rc13; simp only [if_pos b68_5, if_neg (show ¬ 0 < (nI (cntB (fsC σ 2) 20)) from Int32.not_lt.mpr b25_3)]), _, rfl, hI, (show Cor σ σ from Cor.rfl' σ)⟩
    · skip
      refine R_iload_n (pc := 28) dX8_unseen_28 rfl rfl ?_
      refine R_iload_n (pc := 29) dX8_unseen_29 rfl rfl ?_
      refine R_imul (pc := 30) dX8_unseen_30 ?_
      refine R_goto (pc := 31) 39 dX8_unseen_31 (by decide) ?_
      refine st_7_4_i_i (pc := 39) dX8_unseen_39 ?_
      refine R_iload_n (pc := 41) dX8_unseen_41 rfl rfl ?_
      refine R_ifle (pc := 42) 51 dX8_unseen_42 (by decide) (fun h => absurd h b25_3) (fun _ => ?_)
      refine R_iconst (pc := 45) (v := 2) dX8_unseen_45 (by decide) ?_
      refine R_iload_n (pc := 46) dX8_unseen_46 rfl rfl ?_
      refine R_imul (pc := 47) dX8_unseen_47 ?_
      refine R_goto (pc := 48) 52 dX8_unseen_48 (by decide) ?_
      refine st_7_5_i_i (pc := 52) dX8_unseen_52 ?_
      refine R_iconst (pc := 54) (v := 1) dX8_unseen_54 (by decide) ?_
      refine R_iload (pc := 55) dX8_unseen_55 rfl ?_
      refine R_iload (pc := 57) dX8_unseen_57 rfl ?_
      refine k_X8_203 (pc := 59) (ge_X8_commonDivisor _ _ _) rfl (by decide) (Nat.le_refl _) (Nat.le_refl _) (Nat.le_of_ble_eq_true rfl) dX8_unseen_59 (fun x w2 h => ?_)
      obtain ⟨rfl, rfl⟩ := h
      refine R_cv (cdR 64 ((nI (cntB (fsC σ 1) 20)) * (nI (cntB (fsC σ 1) 20))) (2 * (nI (cntB (fsC σ 2) 20)))) rfl ?_
      refine R_mmax (pc := 62) wm_504 dX8_unseen_62 (by decide) (Nat.le_of_ble_eq_true rfl) (Nat.zero_le _) (Nat.zero_le _) ?_
      refine st_7_6_i_i (pc := 65) dX8_unseen_65 ?_
      refine R_iload_n (pc := 67) dX8_unseen_67 rfl rfl ?_
      refine R_ifne (pc := 68) 76 dX8_unseen_68 (by decide) (fun b68_7 => ?_) (fun b68_7 => ?_)
      · skip
        refine R_iload (pc := 76) dX8_unseen_76 rfl ?_
        refine R_iload (pc := 78) dX8_unseen_78 rfl ?_
        refine R_idiv (pc := 80) dX8_unseen_80 (max1_ne _) ?_
        exact R_iret (pc := 81) dX8_unseen_81 rfl rfl (Nat.zero_le _) (Nat.zero_le _) ⟨_, rfl, (by rw [A_uns_t _ (inB_t h1)]; unfold unC rc13; simp only [if_neg b68_7, if_pos (show 0 < (nI (cntB (fsC σ 2) 20)) from Int32.not_le.mp b25_3)]), _, rfl, hI, (show Cor σ σ from Cor.rfl' σ)⟩
      · skip
        refine R_iload (pc := 71) dX8_unseen_71 rfl ?_
        refine R_goto (pc := 73) 78 dX8_unseen_73 (by decide) ?_
        refine R_iload (pc := 78) dX8_unseen_78 rfl ?_
        refine R_idiv (pc := 80) dX8_unseen_80 (max1_ne _) ?_
        exact R_iret (pc := 81) dX8_unseen_81 rfl rfl (Nat.zero_le _) (Nat.zero_le _) ⟨_, rfl, (by rw [A_uns_t _ (inB_t h1)]; unfold unC rc13; simp only [if_pos b68_7, if_pos (show 0 < (nI (cntB (fsC σ 2) 20)) from Int32.not_le.mp b25_3)]), _, rfl, hI, (show Cor σ σ from Cor.rfl' σ)⟩
  · skip
    refine R_ifne (pc := 6) 12 dX8_unseen_6 (by decide) (fun h => absurd (by decide) h) (fun _ => ?_)
    refine R_bipush (pc := 9) (v := (-3)) dX8_unseen_9 (by decide) ?_
    exact R_iret (pc := 11) dX8_unseen_11 rfl rfl (Nat.zero_le _) (Nat.zero_le _) ⟨_, rfl, (A_uns_f _ (inB_f h1)).symm, _, rfl, hI, (show Cor σ σ from Cor.rfl' σ)⟩
