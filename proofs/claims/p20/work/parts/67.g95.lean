/-! methods on any state that keeps the invariant -/
def A_mat (tt m : Bool) : Int32 := bif tt then (bif m then 1 else 0) else -2
theorem A_mat_0 (m : Bool) : A_mat false m = -2 := rfl
def lkD (σ : Sg) (a b : Nat) : Bool := inB (DVm σ a b) 0 (σ.1 14012)
def mtD (σ : Sg) (a b : Int32) : Bool := mtB (σ.2.2.1 141) (σ.2.2.1 142) (σ.2.2.1 143) (σ.2.2.1 144) (lkD σ (Int32.toNatClampNeg a) (Int32.toNatClampNeg b)) (lvM σ a b) (Int32.toNatClampNeg a) (Int32.toNatClampNeg b)
theorem dvm_sym {σ : Sg} (hI : Inv σ) {a b : Nat} (ha : a < 20) (hb : b < 20) : DVm σ a b = DVm σ b a := uo_sym (iva_146 hI a ha) (iva_146 hI b hb)
theorem idx20c {a b : Int32} (ha : inR a 0 19) (hb : inR b 0 19) : (20 * a + b).toNatClampNeg = 20 * a.toNatClampNeg + b.toNatClampNeg := by
  have h := idx20 (clamp19 ha) (clamp19 hb)
  rw [nI_of_in ha, nI_of_in hb] at h; exact h
theorem lkM_D {σ τ : Sg} {a b : Int32} {n : Nat} (hI : Inv σ) (h : Cor σ τ) (hu : UT (DVm σ) (τ.2.2.1 151) n) (ha : inR a 0 19) (hb : inR b 0 19) (ha2 : (Int32.toNatClampNeg a) < n) (hb2 : (Int32.toNatClampNeg b) < n) (hne : ¬ a = b) : lkM τ a b = lkD σ (Int32.toNatClampNeg a) (Int32.toNatClampNeg b) := by
  unfold lkM lkD
  rw [h.1 14012 rfl, idx20c ha hb]
  have hn : ¬ (Int32.toNatClampNeg a) = (Int32.toNatClampNeg b) := fun e => hne (by rw [← nI_of_in ha, ← nI_of_in hb, e])
  by_cases q : (Int32.toNatClampNeg b) < (Int32.toNatClampNeg a)
  · rw [(hu _ _ q ha2).1]
  · rw [(hu (Int32.toNatClampNeg b) (Int32.toNatClampNeg a) (by omega) hb2).2, dvm_sym hI (clamp19 hb) (clamp19 ha)]
theorem lvM_cor {σ τ : Sg} (h : Cor σ τ) (a b : Int32) : lvM τ a b = lvM σ a b := by
  unfold lvM wM
  rw [h.2.2.1 149 rfl, h.2.2.1 150 rfl]
theorem mtM_D {σ τ : Sg} {a b : Int32} {n : Nat} (hI : Inv σ) (h : Cor σ τ) (hu : UT (DVm σ) (τ.2.2.1 151) n) (ha : inR a 0 19) (hb : inR b 0 19) (ha2 : (Int32.toNatClampNeg a) < n) (hb2 : (Int32.toNatClampNeg b) < n) (hne : ¬ a = b) : mtM τ a b = mtD σ a b := by
  unfold mtM mtD
  rw [h.2.2.1 141 rfl, h.2.2.1 142 rfl, h.2.2.1 143 rfl, h.2.2.1 144 rfl, lkM_D hI h hu ha hb ha2 hb2 hne, lvM_cor h]
theorem thM_sz {σ : Sg} {c : Int32} (hI : Inv σ) (h : thM σ c = true) : (Int32.toNatClampNeg c) < Int32.toNatClampNeg (σ.1 14000) := by
  have h1 := thM_l h
  have hr := thM_r h
  have h2 := (tmr_all 20 0 (Int32.toNatClampNeg c) (Nat.zero_le _) h1).1
  rw [nI_of_in hr] at h2
  have h3 := ti_lt h2
  have h4 := ti_in hr
  have z : (0 : Int32).toInt = 0 := by decide
  show c.toInt.toNat < (σ.1 14000).toInt.toNat
  omega
theorem ub_rng (pa pb : Int64) (sa sb d f : Int32) : ubF pa pb sa sb d f = -1 ∨ inR (ubF pa pb sa sb d f) 0 64 := by
  unfold ubF
  cases decide (nI (cntB (ibG sa sb d f) 64) < 24)
  · exact Or.inr (inR_nI (M := 64) (cnt_le _ 64) (by decide))
  · exact Or.inl rfl
theorem uo_rng (pa pb : Int64) (sa sb : Int32) : uoF pa pb sa sb = -1 ∨ inR (uoF pa pb sa sb) 0 64 := by
  unfold uoF
  rcases fo_char (fun n => ubF pa pb sa sb (dX n) (dY n)) 25 with ⟨h, -⟩ | ⟨h, ⟨k, -, e⟩, -⟩
  · exact Or.inl h
  · rw [← e]; exact ub_rng _ _ _ _ _ _
theorem lk_eq {v sl : Int32} (h : v = -1 ∨ inR v 0 64) : inB v 0 sl = lkB sl v := by
  unfold inB lkB
  rcases h with rfl | h
  · rw [decide_eq_true (show (-1 : Int32) < 0 from by decide)]; rfl
  · rw [decide_eq_false h.1, decide_eq_false (show ¬ v = -1 from fun e => h.1 (by rw [e]; decide))]
theorem lvM_eq {σ σ2 : Sg} {a b : Int32} (hT : Tie σ) (h1 : Cor σ σ2) (ha : inR a 0 19) (hb : inR b 0 19) : lvM σ2 a b = LVI σ (Int32.toNatClampNeg a) (Int32.toNatClampNeg b) := far_eq hT h1 ha hb
theorem lkD_eq {σ σ2 : Sg} (hT : Tie σ) (h1 : Cor σ σ2) (a b : Nat) : lkD σ2 a b = lkB (σ.1 1204) (DV σ a b) := by
  have e : DVm σ2 a b = DV σ a b := dif_eq hT h1 a b
  unfold lkD
  rw [e, h1.1 14012 rfl, t_slack hT]
  exact lk_eq (uo_rng _ _ _ _)
theorem mt_eq {σ σ2 : Sg} {a b : Int32} (hI : Inv σ) (hT : Tie σ) (hL : ChL σ) (hD : ChD σ) (h1 : Cor σ σ2) (h : ttC σ a b = true) : mtC σ a b = mtD σ2 a b := by
  have ha := (ttC_p h).2.1
  have hb := (ttC_p h).2.2
  unfold mtC mtD
  rw [lvM_eq hT h1 (thC_r hI ha) (thC_r hI hb), chL_at hI hL ha hb, lkD_eq hT h1]
  unfold lkC
  rw [chD_at hI hD h, h1.2.2.1 141 rfl, h1.2.2.1 142 rfl, h1.2.2.1 143 rfl, h1.2.2.1 144 rfl, t_list hT, t_publ hT, t_numb hT, t_back hT]
theorem tt_eq {σ σ2 : Sg} {a b : Int32} (hI : Inv σ) (hT : Tie σ) (h1 : Cor σ σ2) : ttM σ2 a b = ttC σ a b := by
  unfold ttM ttC
  rw [(thM_at (h1.1 14000 rfl) (h1.1 14013 rfl) (h1.2.2.1 148 rfl) a).trans (th_eq hI hT a), (thM_at (h1.1 14000 rfl) (h1.1 14013 rfl) (h1.2.2.1 148 rfl) b).trans (th_eq hI hT b)]
theorem ans_match {σ σ2 : Sg} {a b : Int32} (hI : Inv σ) (hT : Tie σ) (hL : ChL σ) (hD : ChD σ) (h1 : Cor σ σ2) : A_mat (ttC σ a b) (mtC σ a b) = A_mat (ttM σ2 a b) (mtD σ2 a b) := by
  rw [tt_eq hI hT h1]
  cases h : ttC σ a b
  · rw [A_mat_0, A_mat_0]
  · rw [mt_eq hI hT hL hD h1 h]
set_option maxRecDepth 100000 in
set_option maxHeartbeats 40000000 in
theorem gq_X8_match {G : vG} {l : Launch} (σ : Sg) (a b : Int32) (hI : Inv σ) : Sp G l yX8_match cX8_match 3 (some .int) 2 0 0 [.ref 0, .int a, .int b] (WW σ) (QI (fun x w2 => x = A_mat (ttC σ a b) (mtC σ a b) ∧ ∃ σ2, w2 = WW σ2 ∧ Inv σ2 ∧ Cor σ σ2)) := by
  refine Sp_of_R [(some (.ref 0)), (some (.int a)), (some (.int b))] [] rfl (by simp) rfl (Nat.le_of_ble_eq_true rfl) ?_
  refine R_aload_n (pc := 0) dX8_match_0 rfl rfl ?_
  refine R_iload_n (pc := 1) dX8_match_1 rfl rfl ?_
  refine R_iload_n (pc := 2) dX8_match_2 rfl rfl ?_
  refine k_X8_118 (pc := 3) (ge_X8_areTwoThere _ _ _ hI) rfl (c_0 _) (by decide) (Nat.le_refl _) (Nat.le_refl _) (Nat.le_of_ble_eq_true rfl) dX8_match_3 (fun x w2 h => ?_)
  rcases h with ⟨rfl, ⟨h1, rfl⟩ | ⟨h1, rfl⟩⟩
  · skip
    refine R_ifne (pc := 6) 12 dX8_match_6 (by decide) (fun _ => ?_) (fun h => absurd h (by decide))
    refine R_aload_n (pc := 12) dX8_match_12 rfl rfl ?_
    refine g_X8_21 (pc := 13) (v := .ref 12) rfl dX8_match_13 (c_0 _) rfl ?_
    refine R_iload_n (pc := 16) dX8_match_16 rfl rfl ?_
    refine R_iload_n (pc := 17) dX8_match_17 rfl rfl ?_
    refine k_X8_141 (pc := 18) (ge_X3_isMatch _ _ _ hI (ttC_r hI h1).1 (ttC_r hI h1).2) rfl (c_12 _) (by decide) (Nat.le_refl _) (Nat.le_refl _) (Nat.le_of_ble_eq_true rfl) dX8_match_18 (fun x w2 h => ?_)
    rcases h with ⟨rfl, ⟨h3, rfl⟩ | ⟨h3, rfl⟩⟩
    · skip
      refine R_ifeq (pc := 21) 28 dX8_match_21 (by decide) (fun h => absurd h (by decide)) (fun _ => ?_)
      refine R_iconst (pc := 24) (v := 1) dX8_match_24 (by decide) ?_
      refine R_goto (pc := 25) 29 dX8_match_25 (by decide) ?_
      exact R_iret (pc := 29) dX8_match_29 rfl rfl (Nat.zero_le _) (Nat.zero_le _) ⟨_, rfl, (by unfold A_mat; rw [h1, h3]; rfl), _, rfl, hI, (show Cor σ σ from Cor.rfl' σ)⟩
    · skip
      refine R_ifeq (pc := 21) 28 dX8_match_21 (by decide) (fun _ => ?_) (fun h => absurd (by decide) h)
      refine R_iconst (pc := 28) (v := 0) dX8_match_28 (by decide) ?_
      exact R_iret (pc := 29) dX8_match_29 rfl rfl (Nat.zero_le _) (Nat.zero_le _) ⟨_, rfl, (by unfold A_mat; rw [h1, h3]; rfl), _, rfl, hI, (show Cor σ σ from Cor.rfl' σ)⟩
  · skip
    refine R_ifne (pc := 6) 12 dX8_match_6 (by decide) (fun h => absurd (by decide) h) (fun _ => ?_)
    refine R_bipush (pc := 9) (v := (-2)) dX8_match_9 (by decide) ?_
    exact R_iret (pc := 11) dX8_match_11 rfl rfl (Nat.zero_le _) (Nat.zero_le _) ⟨_, rfl, (by unfold A_mat; rw [h1]; rfl), _, rfl, hI, (show Cor σ σ from Cor.rfl' σ)⟩
set_option maxRecDepth 100000 in
set_option maxHeartbeats 40000000 in
theorem gq_X9_match {G : vG} {l : Launch} (σ : Sg) (a b : Int32) (hI : Inv σ) : Sp G l yX9_match cX9_match 3 (some .int) 4 0 0 [.ref 140, .int a, .int b] (WW σ) (QI (fun x w2 => x = A_mat (ttM σ a b) (mtD σ a b) ∧ ∃ σ2, w2 = WW σ2 ∧ Inv σ2 ∧ Cor σ σ2)) := by
  refine Sp_of_R [(some (.ref 140)), (some (.int a)), (some (.int b))] [] rfl (by simp) rfl (Nat.le_of_ble_eq_true rfl) ?_
  refine R_aload_n (pc := 0) dX9_match_0 rfl rfl ?_
  refine R_iload_n (pc := 1) dX9_match_1 rfl rfl ?_
  refine k_X9_135 (pc := 2) (gf_X9_isThere _ _ hI) rfl (c_140 _) (by decide) (Nat.le_refl _) (Nat.le_refl _) (Nat.le_of_ble_eq_true rfl) dX9_match_2 (fun x w2 h => ?_)
  rcases h with ⟨rfl, ⟨h1, rfl⟩ | ⟨h1, rfl⟩⟩
  · skip
    refine R_ifeq (pc := 5) 21 dX9_match_5 (by decide) (fun h => absurd h (by decide)) (fun _ => ?_)
    refine R_aload_n (pc := 8) dX9_match_8 rfl rfl ?_
    refine R_iload_n (pc := 9) dX9_match_9 rfl rfl ?_
    refine k_X9_135 (pc := 10) (gf_X9_isThere _ _ hI) rfl (c_140 _) (by decide) (Nat.le_refl _) (Nat.le_refl _) (Nat.le_of_ble_eq_true rfl) dX9_match_10 (fun x w2 h => ?_)
    rcases h with ⟨rfl, ⟨h3, rfl⟩ | ⟨h3, rfl⟩⟩
    · skip
      refine R_ifeq (pc := 13) 21 dX9_match_13 (by decide) (fun h => absurd h (by decide)) (fun _ => ?_)
      refine R_iload_n (pc := 16) dX9_match_16 rfl rfl ?_
      refine R_iload_n (pc := 17) dX9_match_17 rfl rfl ?_
      refine R_icne (pc := 18) 24 dX9_match_18 (by decide) (fun b18_5 => ?_) (fun b18_5 => ?_)
      · skip
        refine R_aload_n (pc := 24) dX9_match_24 rfl rfl ?_
        refine k_X9_162 (pc := 25) (gn_X9_findUnlike _ hI) rfl (c_140 _) (by decide) (Nat.le_refl _) (Nat.le_refl _) (Nat.le_of_ble_eq_true rfl) dX9_match_25 (fun w2 h => ?_)
        obtain ⟨σx7, rfl, hV6, hW8, hq9, hu10⟩ := h
        have hW11 := Cor.trans (show Cor σ σ from Cor.rfl' σ) hW8
        refine R_aload_n (pc := 28) dX9_match_28 rfl rfl ?_
        refine R_iload_n (pc := 29) dX9_match_29 rfl rfl ?_
        refine R_iload_n (pc := 30) dX9_match_30 rfl rfl ?_
        refine k_X9_159 (pc := 31) (gn_X9_isMatch _ _ _ hV6 (thM_r h1) (thM_r h3)) rfl (c_140 _) (by decide) (Nat.le_refl _) (Nat.le_refl _) (Nat.le_of_ble_eq_true rfl) dX9_match_31 (fun x w2 h => ?_)
        obtain ⟨σx13, rfl, hV12, hW14, hq15, hb⟩ := h
        have hW17 := Cor.trans hW11 hW14
        rcases hb with ⟨hb16, rfl⟩ | ⟨hb16, rfl⟩
        · skip
          refine R_ifeq (pc := 34) 41 dX9_match_34 (by decide) (fun h => absurd h (by decide)) (fun _ => ?_)
          refine R_iconst (pc := 37) (v := 1) dX9_match_37 (by decide) ?_
          refine R_goto (pc := 38) 42 dX9_match_38 (by decide) ?_
          exact R_iret (pc := 42) dX9_match_42 rfl rfl (Nat.zero_le _) (Nat.zero_le _) ⟨_, rfl, (by have e := mtM_D hI hW11 hu10 (thM_r h1) (thM_r h3) (thM_sz hI h1) (thM_sz hI h3) b18_5; rw [hb16] at e; unfold A_mat ttM; rw [h1, h3, decide_eq_false b18_5, ← e]; rfl), _, rfl, hV12, hW17⟩
        · skip
          refine R_ifeq (pc := 34) 41 dX9_match_34 (by decide) (fun _ => ?_) (fun h => absurd (by decide) h)
          refine R_iconst (pc := 41) (v := 0) dX9_match_41 (by decide) ?_
          exact R_iret (pc := 42) dX9_match_42 rfl rfl (Nat.zero_le _) (Nat.zero_le _) ⟨_, rfl, (by have e := mtM_D hI hW11 hu10 (thM_r h1) (thM_r h3) (thM_sz hI h1) (thM_sz hI h3) b18_5; rw [hb16] at e; unfold A_mat ttM; rw [h1, h3, decide_eq_false b18_5, ← e]; rfl), _, rfl, hV12, hW17⟩
      · skip
        refine R_bipush (pc := 21) (v := (-2)) dX9_match_21 (by decide) ?_
        exact R_iret (pc := 23) dX9_match_23 rfl rfl (Nat.zero_le _) (Nat.zero_le _) ⟨_, rfl, (by unfold A_mat ttM; rw [h1, h3, decide_eq_true b18_5]; simp), _, rfl, hI, (show Cor σ σ from Cor.rfl' σ)⟩
    · skip
      refine R_ifeq (pc := 13) 21 dX9_match_13 (by decide) (fun _ => ?_) (fun h => absurd (by decide) h)
      refine R_bipush (pc := 21) (v := (-2)) dX9_match_21 (by decide) ?_
      exact R_iret (pc := 23) dX9_match_23 rfl rfl (Nat.zero_le _) (Nat.zero_le _) ⟨_, rfl, (by unfold A_mat ttM; rw [h1, h3]; simp), _, rfl, hI, (show Cor σ σ from Cor.rfl' σ)⟩
  · skip
    refine R_ifeq (pc := 5) 21 dX9_match_5 (by decide) (fun _ => ?_) (fun h => absurd (by decide) h)
    refine R_bipush (pc := 21) (v := (-2)) dX9_match_21 (by decide) ?_
    exact R_iret (pc := 23) dX9_match_23 rfl rfl (Nat.zero_le _) (Nat.zero_le _) ⟨_, rfl, (by unfold A_mat ttM; rw [h1]; simp), _, rfl, hI, (show Cor σ σ from Cor.rfl' σ)⟩
