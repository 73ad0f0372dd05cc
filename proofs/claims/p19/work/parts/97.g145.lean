/-! methods on any state that keeps the invariant -/
/-! leaders: the least CARD of a NEGATIVE -/
abbrev RC0 (σ : Sg) : Nat → Nat → Bool := fun a b => lkC σ (nI a) (nI b)
def FLd (R : Nat → Nat → Bool) (b : Int32) (τ : Sg) (j : Nat) : Prop := ∀ i, tb b i = true → lab R (tb b) i < j → τ.2.2.1 92 i = nI (lab R (tb b) i) ∧ τ.2.2.1 87 (lab R (tb b) i) = 0 ∧ τ.2.2.1 88 (lab R (tb b) i) = 20000
def FLi (R : Nat → Nat → Bool) (b : Int32) (ρ τ : Sg) (j o : Nat) : Prop := τ.2.2.1 87 = ρ.2.2.1 87 ∧ τ.2.2.1 88 = ρ.2.2.1 88 ∧ ∀ i, τ.2.2.1 92 i = if (tb b i = true ∧ lab R (tb b) i = j ∧ i < o) then nI j else ρ.2.2.1 92 i
theorem fl_0 {R : Nat → Nat → Bool} {b : Int32} {τ : Sg} : FLd R b τ 0 := fun i _ h => absurd h (by omega)
theorem fli_0 {R : Nat → Nat → Bool} {b : Int32} {ρ : Sg} {j : Nat} (hb : inR b 0 1048575) : FLi R b ρ ρ j j := by
  refine ⟨rfl, rfl, fun i => ?_⟩
  rw [if_neg]
  rintro ⟨h1, h2, h3⟩
  have := (lab_p (R := R) (A := tb b) (lt_20 hb h1)).2.1
  omega
theorem fli_t {R : Nat → Nat → Bool} {b : Int32} {ρ τ υ : Sg} {j o : Nat} (h : FLi R b ρ τ j o) (e : υ.2.2.1 87 = τ.2.2.1 87 ∧ υ.2.2.1 88 = τ.2.2.1 88 ∧ υ.2.2.1 92 = upd (τ.2.2.1 92) o (nI j)) (ho : (tb b o && decide (lab R (tb b) o = j)) = true) : FLi R b ρ υ j (o + 1) := by
  simp only [Bool.and_eq_true, decide_eq_true_eq] at ho
  refine ⟨e.1.trans h.1, e.2.1.trans h.2.1, fun i => ?_⟩
  rw [e.2.2]
  by_cases q : i = o
  · rw [q, upd_at, if_pos ⟨ho.1, ho.2, by omega⟩]
  · rw [upd_ne _ q, h.2.2 i]
    by_cases r : tb b i = true ∧ lab R (tb b) i = j ∧ i < o
    · rw [if_pos r, if_pos ⟨r.1, r.2.1, by omega⟩]
    · rw [if_neg r, if_neg (fun s => r ⟨s.1, s.2.1, by omega⟩)]
theorem fli_f {R : Nat → Nat → Bool} {b : Int32} {ρ τ : Sg} {j o : Nat} (h : FLi R b ρ τ j o) (ho : (tb b o && decide (lab R (tb b) o = j)) = false) : FLi R b ρ τ j (o + 1) := by
  refine ⟨h.1, h.2.1, fun i => ?_⟩
  rw [h.2.2 i]
  by_cases r : tb b i = true ∧ lab R (tb b) i = j ∧ i < o
  · rw [if_pos r, if_pos ⟨r.1, r.2.1, by omega⟩]
  · rw [if_neg r, if_neg]
    rintro ⟨s1, s2, s3⟩
    by_cases q : i = o
    · rw [q] at s1 s2
      rw [s1, s2, decide_eq_true rfl] at ho; cases ho
    · exact r ⟨s1, s2, by omega⟩
theorem fl_t {R : Nat → Nat → Bool} {b : Int32} {σ ρ τ : Sg} {j : Nat} (hb : inR b 0 1048575) (h : FLd R b σ j) (e1 : ρ.2.2.1 87 = upd (σ.2.2.1 87) j 0) (e2 : ρ.2.2.1 88 = upd (σ.2.2.1 88) j 20000) (e3 : ρ.2.2.1 92 = σ.2.2.1 92) (k : FLi R b ρ τ j 20) : FLd R b τ (j + 1) := by
  intro i hi hl
  rw [k.1, k.2.1, k.2.2 i, e1, e2, e3]
  by_cases q : lab R (tb b) i = j
  · rw [if_pos ⟨hi, q, lt_20 hb hi⟩, q]
    exact ⟨rfl, upd_at _ _ _, upd_at _ _ _⟩
  · rw [if_neg (fun s => q s.2.1), upd_ne _ q, upd_ne _ q]
    exact h i hi (by omega)
theorem fl_f {R : Nat → Nat → Bool} {b : Int32} {τ : Sg} {j : Nat} (hs : Sym R (tb b)) (hb : inR b 0 1048575) (h : FLd R b τ j) (hj : lstB R (tb b) j = false) : FLd R b τ (j + 1) := by
  intro i hi hl
  by_cases q : lab R (tb b) i = j
  · exfalso
    have h20 := lt_20 hb hi
    have p := lab_p (R := R) (A := tb b) h20
    have aj : tb b j = true := by
      rcases rch_in p.1 with r | r
      · rw [q] at r; rw [r]; exact hi
      · rw [q] at r; exact r
    have e := lab_lab hs h20 hi
    rw [q] at e
    unfold lstB at hj
    rw [aj, e, decide_eq_true rfl] at hj; cases hj
  · exact h i hi (by omega)
theorem kin_RC {σ τ : Sg} {l : Int32} {c : Nat} (hl : inR l 0 1048575) (hc : tb l c = true) (k : Cor σ τ) : kin (RC0 τ) (tb l) c = kin (RC0 σ) (tb l) c := kin_congr (fun _ => rfl) hc (fun x y hx hy _ => by
  have h20 := lt_20 hl hx
  show lkB (τ.1 1204) (τ.2.2.1 (14 + (Int32.toNatClampNeg (nI x))) (Int32.toNatClampNeg (nI y))) = lkB (σ.1 1204) (σ.2.2.1 (14 + (Int32.toNatClampNeg (nI x))) (Int32.toNatClampNeg (nI y)))
  rw [nI_clamp (show x < 2 ^ 31 by omega), k.1 1204 rfl, k.2.2.1 (14 + x) (scA_14 h20)])
set_option maxRecDepth 100000 in
set_option maxHeartbeats 40000000 in
theorem gd_X1_findLeaders {G : vG} {l : Launch} (σ : Sg) (b : Int32)  (hI : Inv σ) (hb : inR b 0 1048575) (hS : Sym (RC0 σ) (tb b)) : Sp G l yX1_findLeaders cX1_findLeaders 6 none 4 0 0 [.ref 58, .int b] (WW σ) (QV (fun w2 => ∃ σ2, w2 = WW σ2 ∧ Inv σ2 ∧ Cor σ σ2 ∧ ∀ i, tb b i = true → σ2.2.2.1 92 i = nI (lab (RC0 σ) (tb b) i) ∧ σ2.2.2.1 87 (lab (RC0 σ) (tb b) i) = 0 ∧ σ2.2.2.1 88 (lab (RC0 σ) (tb b) i) = 20000)) := by
  refine Sp_of_R [(some (.ref 58)), (some (.int b)), none, none, none, none] [none, none, none, none] rfl (by simp) rfl (Nat.le_of_ble_eq_true rfl) ?_
  refine R_iload_n (pc := 0) dX1_findLeaders_0 rfl rfl ?_
  refine st_6_2_i_i (pc := 1) dX1_findLeaders_1 ?_
  refine R_iconst (pc := 2) (v := 0) dX1_findLeaders_2 (by decide) ?_
  refine st_6_3_i_i (pc := 3) dX1_findLeaders_3 ?_
  have HL4 : ∀ (q j4 : Nat) (σ4 : Sg) (g2_4 : Int32) (g4_4 : Option Value) (g5_4 : Option Value), j4 + q = 20 → 0 ≤ j4 → Inv σ4 → Cor σ σ4 → FLd (RC0 σ) b σ4 j4 → LC9 (RC0 σ) b j4 g2_4 → R G l yX1_findLeaders cX1_findLeaders 6 none 4 0 0 (QV (fun w2 => ∃ σ2, w2 = WW σ2 ∧ Inv σ2 ∧ Cor σ σ2 ∧ ∀ i, tb b i = true → σ2.2.2.1 92 i = nI (lab (RC0 σ) (tb b) i) ∧ σ2.2.2.1 87 (lab (RC0 σ) (tb b) i) = 0 ∧ σ2.2.2.1 88 (lab (RC0 σ) (tb b) i) = 20000)) 4 [(some (.ref 58)), (some (.int b)), (some (.int g2_4)), (some (.int (nI j4))), g4_4, g5_4] [] (WW σ4) 0 0 := by
    intro q
    induction q with
    | zero =>
      intro j4 σ4 g2_4 g4_4 g5_4 hj hs4 hI4 hC4 hX4_0 hX4_1
      obtain rfl : j4 = 20 := by omega
      refine R_iload_n (pc := 4) dX1_findLeaders_4 rfl rfl ?_
      refine R_bipush (pc := 5) (v := 20) dX1_findLeaders_5 (by decide) ?_
      refine R_icge (pc := 7) 88 dX1_findLeaders_7 (by decide) (fun _ => ?_) (fun h => absurd (by decide) h)
      exact R_vret (pc := 88) dX1_findLeaders_88 rfl (Nat.zero_le _) (Nat.zero_le _) ⟨rfl, _, rfl, hI4, hC4, fun i hi => hX4_0 i hi (by have q := (lab_p (R := RC0 σ) (A := tb b) (lt_20 hb hi)).2.1; have r := lt_20 hb hi; omega)⟩
    | succ q ih4 =>
      intro j4 σ4 g2_4 g4_4 g5_4 hj hs4 hI4 hC4 hX4_0 hX4_1
      have hrg4 : inR (nI j4) 0 19 := inR_ix hs4 (show j4 < 20 by omega) (by decide) (by decide) (by decide)
      have hlt4 : j4 < 20 := by omega
      refine R_iload_n (pc := 4) dX1_findLeaders_4 rfl rfl ?_
      refine R_bipush (pc := 5) (v := 20) dX1_findLeaders_5 (by decide) ?_
      refine R_icge (pc := 7) 88 dX1_findLeaders_7 (by decide) (fun h => False.elim (by have q1 := ti_le h; have q2 := ti_in (show inR (nI j4) 0 19 from hrg4); have q3 := ti_in (show inR 20 20 20 from (inR_self _)); have z0 : (0 : Int32).toInt = 0 := (by decide);  have z1 : (19 : Int32).toInt = 19 := (by decide);  have z2 : (20 : Int32).toInt = 20 := (by decide); omega)) (fun _ => ?_)
      refine R_iload_n (pc := 10) dX1_findLeaders_10 rfl rfl ?_
      refine R_iload_n (pc := 11) dX1_findLeaders_11 rfl rfl ?_
      refine k_X1_60 (pc := 12) (sp_X8_has _ _ _) rfl (by decide) (Nat.le_refl _) (Nat.le_refl _) (Nat.le_of_ble_eq_true rfl) dX1_findLeaders_12 (fun x w2 h => ?_)
      rcases h with ⟨rfl, ⟨hh3, rfl⟩ | ⟨hh3, rfl⟩⟩
      · skip
        refine R_ifeq (pc := 15) 82 dX1_findLeaders_15 (by decide) (fun h => absurd h (by decide)) (fun _ => ?_)
        refine R_aload_n (pc := 18) dX1_findLeaders_18 rfl rfl ?_
        refine g_X1_38 (pc := 19) (v := .ref 86) rfl dX1_findLeaders_19 (c_58 _) rfl ?_
        refine R_iload_n (pc := 22) dX1_findLeaders_22 rfl rfl ?_
        refine R_iconst (pc := 23) (v := 0) dX1_findLeaders_23 (by decide) ?_
        refine R_sipush (pc := 24) (v := 20000) dX1_findLeaders_24 (by decide) ?_
        refine k_X1_75 (pc := 27) (ge_X7_open_86 _ _ _ _ hI4 hrg4) rfl (c_86 _) (by decide) (Nat.le_refl _) (Nat.le_refl _) (Nat.le_of_ble_eq_true rfl) dX1_findLeaders_27 (fun w2 h => ?_)
        obtain ⟨σx6, rfl, hV5, hW7, heo⟩ := h
        have hW8 := Cor.trans hC4 hW7
        rw [show Int32.toNatClampNeg (nI j4) = j4 from nI_clamp (by omega)] at heo
        have ho1 : σx6.2.2.1 87 = upd (σ4.2.2.1 87) j4 0 := by rw [heo]; rfl
        have ho2 : σx6.2.2.1 88 = upd (σ4.2.2.1 88) j4 20000 := by rw [heo]; rfl
        have ho3 : σx6.2.2.1 92 = σ4.2.2.1 92 := by rw [heo]; rfl
        have hlt9 := lc_t hb hS (by omega) hX4_1 (has_t (by omega) hh3)
        refine R_aload_n (pc := 30) dX1_findLeaders_30 rfl rfl ?_
        refine g_X1_52 (pc := 31) (v := .ref 12) rfl dX1_findLeaders_31 (c_58 _) rfl ?_
        refine R_iload_n (pc := 34) dX1_findLeaders_34 rfl rfl ?_
        refine R_iload_n (pc := 35) dX1_findLeaders_35 rfl rfl ?_
        refine k_X1_79 (pc := 36) (gn_X3_sameNegative _ _ _ hV5 hrg4 (lc_in hb hX4_1)) rfl (c_12 _) (by decide) (Nat.le_refl _) (Nat.le_refl _) (Nat.le_of_ble_eq_true rfl) dX1_findLeaders_36 (fun x w2 h => ?_)
        obtain ⟨rfl, rfl⟩ := h
        refine R_cv (bsI (kin (RC0 σ) (tb g2_4) j4) 20) (by rw [nI_clamp (by omega)]; exact congrArg (fun q => bsI q 20) (kin_RC (lc_in hb hX4_1) (has_t (by omega) hh3) hW8)) ?_
        refine st_6_4_i_i (pc := 39) dX1_findLeaders_39 ?_
        refine R_iload_n (pc := 41) dX1_findLeaders_41 rfl rfl ?_
        refine R_iload (pc := 42) dX1_findLeaders_42 rfl ?_
        refine R_iconst (pc := 44) (v := (-1)) dX1_findLeaders_44 (by decide) ?_
        refine R_ixor (pc := 45) dX1_findLeaders_45 ?_
        refine R_iand (pc := 46) dX1_findLeaders_46 ?_
        have r9 : inR (g2_4 &&& ((bsI (kin (RC0 σ) (tb g2_4) j4) 20) ^^^ (-1))) 0 1048575 := inR_and (lc_in hb hX4_1)
        refine st_6_2_i_i (pc := 47) dX1_findLeaders_47 ?_
        refine R_iload_n (pc := 48) dX1_findLeaders_48 rfl rfl ?_
        refine st_6_5_i_i (pc := 49) dX1_findLeaders_49 ?_
        have HL51 : ∀ (q j51 : Nat) (σ51 : Sg), j51 + q = 20 → j4 ≤ j51 → Inv σ51 → Cor σ σ51 → FLi (RC0 σ) b σx6 σ51 j4 j51 → R G l yX1_findLeaders cX1_findLeaders 6 none 4 0 0 (QV (fun w2 => ∃ σ2, w2 = WW σ2 ∧ Inv σ2 ∧ Cor σ σ2 ∧ ∀ i, tb b i = true → σ2.2.2.1 92 i = nI (lab (RC0 σ) (tb b) i) ∧ σ2.2.2.1 87 (lab (RC0 σ) (tb b) i) = 0 ∧ σ2.2.2.1 88 (lab (RC0 σ) (tb b) i) = 20000)) 51 [(some (.ref 58)), (some (.int b)), (some (.int (g2_4 &&& ((bsI (kin (RC0 σ) (tb g2_4) j4) 20) ^^^ (-1))))), (some (.int (nI j4))), (some (.int (bsI (kin (RC0 σ) (tb g2_4) j4) 20))), (some (.int (nI j51)))] [] (WW σ51) 0 0 := by
          intro q
          induction q with
          | zero =>
            intro j51 σ51 hj hs51 hI51 hC51 hX51_0
            obtain rfl : j51 = 20 := by omega
            refine R_iload (pc := 51) dX1_findLeaders_51 rfl ?_
            refine R_bipush (pc := 53) (v := 20) dX1_findLeaders_53 (by decide) ?_
            refine R_icge (pc := 55) 82 dX1_findLeaders_55 (by decide) (fun _ => ?_) (fun h => absurd (by decide) h)
            refine inc_6_3_1_i (pc := 82) dX1_findLeaders_82 ?_
            have r11 : inR ((nI j4) + 1) 1 20 := inR_add (show inR (nI j4) 0 19 from hrg4) (show inR 1 1 1 from (inR_self _)) (by decide) (by decide)
            have e12 := ti_add (l := 1) (h := 20) (show inR (nI j4) 0 19 from hrg4) (show inR 1 1 1 from (inR_self _)) (by decide) (by decide)
            refine R_goto (pc := 85) 4 dX1_findLeaders_85 (by decide) ?_
            rw [nI_1]
            exact ih4 (j4 + 1) _ _ _ _ (by omega) (by omega) hI51 hC51 (fl_t hb hX4_0 ho1 ho2 ho3 hX51_0) hlt9.1
          | succ q ih51 =>
            intro j51 σ51 hj hs51 hI51 hC51 hX51_0
            have hlt51 : j51 < 20 := by omega
            refine R_iload (pc := 51) dX1_findLeaders_51 rfl ?_
            refine R_bipush (pc := 53) (v := 20) dX1_findLeaders_53 (by decide) ?_
            refine R_icge (pc := 55) 82 dX1_findLeaders_55 (by decide) (fun h => False.elim (by have q1 := ti_le h; have q2 := ti_in (show inR (nI j51) 0 19 from (show inR (nI j51) 0 19 from inR_nI (M := 19) (by omega) (by decide))); have q3 := ti_in (show inR 20 20 20 from (inR_self _)); have z0 : (0 : Int32).toInt = 0 := (by decide);  have z1 : (19 : Int32).toInt = 19 := (by decide);  have z2 : (20 : Int32).toInt = 20 := (by decide); omega)) (fun _ => ?_)
            refine R_iload (pc := 58) dX1_findLeaders_58 rfl ?_
            refine R_iload (pc := 60) dX1_findLeaders_60 rfl ?_
            refine k_X1_60 (pc := 62) (sp_X8_has _ _ _) rfl (by decide) (Nat.le_refl _) (Nat.le_refl _) (Nat.le_of_ble_eq_true rfl) dX1_findLeaders_62 (fun x w2 h => ?_)
            rcases h with ⟨rfl, ⟨hh14, rfl⟩ | ⟨hh14, rfl⟩⟩
            · skip
              refine R_ifeq (pc := 65) 76 dX1_findLeaders_65 (by decide) (fun h => absurd h (by decide)) (fun _ => ?_)
              refine R_aload_n (pc := 68) dX1_findLeaders_68 rfl rfl ?_
              refine g_X1_45 (pc := 69) (v := .ref 92) rfl dX1_findLeaders_69 (c_58 _) rfl ?_
              refine R_iload (pc := 72) dX1_findLeaders_72 rfl ?_
              refine R_iload_n (pc := 74) dX1_findLeaders_74 rfl rfl ?_
              have hx16 : vp_in (nI j51) 20 := (vp_in_nI (by omega) (by decide))
              refine W_iastore (pc := 75) dX1_findLeaders_75 (c_92 _) hx16 (a_92 _ _) ?_
              have hV17 := sa_92 hI51 (Int32.toNatClampNeg (nI j51)) hrg4
              have hW18 := cor_sa 92 (upd (σ51.2.2.1 92) (Int32.toNatClampNeg (nI j51)) (nI j4)) hC51 rfl
              refine inc_6_5_1_i (pc := 76) dX1_findLeaders_76 ?_
              have r19 : inR ((nI j51) + 1) 1 20 := inR_add (show inR (nI j51) 0 19 from (show inR (nI j51) 0 19 from inR_nI (M := 19) (by omega) (by decide))) (show inR 1 1 1 from (inR_self _)) (by decide) (by decide)
              have e20 := ti_add (l := 1) (h := 20) (show inR (nI j51) 0 19 from (show inR (nI j51) 0 19 from inR_nI (M := 19) (by omega) (by decide))) (show inR 1 1 1 from (inR_self _)) (by decide) (by decide)
              refine R_goto (pc := 79) 51 dX1_findLeaders_79 (by decide) ?_
              rw [nI_1]
              exact ih51 (j51 + 1) _ (by omega) (by omega) hV17 hW18 (fli_t hX51_0 ⟨rfl, rfl, (by show upd (σ51.2.2.1 92) (Int32.toNatClampNeg (nI j51)) (nI j4) = _; rw [nI_clamp (by omega)])⟩ ((hlt9.2.2 j51 (by omega)).symm.trans (has_kt (by omega) hh14)))
            · skip
              refine R_ifeq (pc := 65) 76 dX1_findLeaders_65 (by decide) (fun _ => ?_) (fun h => absurd (by decide) h)
              refine inc_6_5_1_i (pc := 76) dX1_findLeaders_76 ?_
              have r22 : inR ((nI j51) + 1) 1 20 := inR_add (show inR (nI j51) 0 19 from (show inR (nI j51) 0 19 from inR_nI (M := 19) (by omega) (by decide))) (show inR 1 1 1 from (inR_self _)) (by decide) (by decide)
              have e23 := ti_add (l := 1) (h := 20) (show inR (nI j51) 0 19 from (show inR (nI j51) 0 19 from inR_nI (M := 19) (by omega) (by decide))) (show inR 1 1 1 from (inR_self _)) (by decide) (by decide)
              refine R_goto (pc := 79) 51 dX1_findLeaders_79 (by decide) ?_
              rw [nI_1]
              exact ih51 (j51 + 1) _ (by omega) (by omega) hI51 hC51 (fli_f hX51_0 ((hlt9.2.2 j51 (by omega)).symm.trans (has_kf (by omega) hh14)))
        exact HL51 (20 - j4) j4 _ (by omega) (Nat.le_refl _) hV5 hW8 (fli_0 hb)
      · skip
        refine R_ifeq (pc := 15) 82 dX1_findLeaders_15 (by decide) (fun _ => ?_) (fun h => absurd (by decide) h)
        refine inc_6_3_1_i (pc := 82) dX1_findLeaders_82 ?_
        have r25 : inR ((nI j4) + 1) 1 20 := inR_add (show inR (nI j4) 0 19 from hrg4) (show inR 1 1 1 from (inR_self _)) (by decide) (by decide)
        have e26 := ti_add (l := 1) (h := 20) (show inR (nI j4) 0 19 from hrg4) (show inR 1 1 1 from (inR_self _)) (by decide) (by decide)
        refine R_goto (pc := 85) 4 dX1_findLeaders_85 (by decide) ?_
        rw [nI_1]
        exact ih4 (j4 + 1) _ _ _ _ (by omega) (by omega) hI4 hC4 (fl_f hS hb hX4_0 (lc_f hb hS hX4_1 (has_f (by omega) hh3)).2) (lc_f hb hS hX4_1 (has_f (by omega) hh3)).1
  exact HL4 20 0 _ _ _ _ (by omega) (by omega) hI (show Cor σ σ from Cor.rfl' σ) fl_0 lc_0
