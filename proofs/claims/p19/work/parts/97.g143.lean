/-! methods on any state that keeps the invariant -/
/-! how PUBLISHED begins -/
def SmP (σ τ : Sg) (c : Nat) : Prop := τ.2.2.1 87 = σ.2.2.1 87 ∧ τ.2.2.1 88 = σ.2.2.1 88 ∧ τ.2.2.1 92 = σ.2.2.1 92 ∧ ∀ e, ¬ e = c → τ.2.2.1 90 e = σ.2.2.1 90 e ∧ τ.2.2.1 91 e = σ.2.2.1 91 e
theorem SmP.tr {σ τ υ : Sg} {c : Nat} (h : SmP σ τ c) (k : SmP τ υ c) : SmP σ υ c := ⟨k.1.trans h.1, k.2.1.trans h.2.1, k.2.2.1.trans h.2.2.1, fun e he => ⟨(k.2.2.2 e he).1.trans (h.2.2.2 e he).1, (k.2.2.2 e he).2.trans (h.2.2.2 e he).2⟩⟩
def LnF (p : Nat) (σ : Sg) (c i : Nat) : Prop := ¬ σ.2.2.1 (p + 4) i = 0 ∧ σ.2.2.1 (p + 1) i = σ.2.2.1 3 c ∧ inB (σ.2.2.1 4 c) (σ.2.2.1 (p + 2) i) (σ.2.2.1 (p + 3) i) = true
def IsI (p : Nat) (σ : Sg) (c j : Nat) (v : Int) : Prop := v = (σ.2.2.1 61 (σ.2.2.1 5 c).toNatClampNeg).toInt ∨ ∃ i, i < j ∧ LnF p σ c i ∧ v = (σ.2.2.1 (p + 5) i).toInt
def IsJ (p : Nat) (σ : Sg) (c j : Nat) (v : Int) : Prop := v = (σ.2.2.1 62 (σ.2.2.1 5 c).toNatClampNeg).toInt ∨ (¬ σ.2.2.1 8 c = -1 ∧ v = (σ.2.2.1 8 c).toInt) ∨ ∃ i, i < j ∧ LnF p σ c i ∧ v = (σ.2.2.1 (p + 6) i).toInt
/-- a least upper, a greatest lower -/
def Mx (P : Int → Prop) (v : Int) : Prop := P v ∧ ∀ w, P w → w ≤ v
def Mn (P : Int → Prop) (v : Int) : Prop := P v ∧ ∀ w, P w → v ≤ w
theorem mx_s {P Q : Int → Prop} {old new d : Int} (h : Mx P old) (hQ : ∀ v, Q v ↔ P v ∨ v = d) (h3 : old ≤ new) (h4 : d ≤ new) (h5 : new = old ∨ new = d) : Mx Q new := by
  refine ⟨(hQ new).mpr (h5.elim (fun e => Or.inl (by rw [e]; exact h.1)) Or.inr), fun w hw => ?_⟩
  rcases (hQ w).mp hw with q | q
  · exact Int.le_trans (h.2 w q) h3
  · rw [q]; exact h4
theorem mx_k {P Q : Int → Prop} {old : Int} (h : Mx P old) (hQ : ∀ v, Q v ↔ P v) : Mx Q old := ⟨(hQ old).mpr h.1, fun w hw => h.2 w ((hQ w).mp hw)⟩
theorem mn_s {P Q : Int → Prop} {old new d : Int} (h : Mn P old) (hQ : ∀ v, Q v ↔ P v ∨ v = d) (h3 : new ≤ old) (h4 : new ≤ d) (h5 : new = old ∨ new = d) : Mn Q new := by
  refine ⟨(hQ new).mpr (h5.elim (fun e => Or.inl (by rw [e]; exact h.1)) Or.inr), fun w hw => ?_⟩
  rcases (hQ w).mp hw with q | q
  · exact Int.le_trans h3 (h.2 w q)
  · rw [q]; exact h4
theorem mn_k {P Q : Int → Prop} {old : Int} (h : Mn P old) (hQ : ∀ v, Q v ↔ P v) : Mn Q old := ⟨(hQ old).mpr h.1, fun w hw => h.2 w ((hQ w).mp hw)⟩
theorem isI_t {p : Nat} {σ : Sg} {c j : Nat} (h : LnF p σ c j) (v : Int) : IsI p σ c (j + 1) v ↔ IsI p σ c j v ∨ v = (σ.2.2.1 (p + 5) j).toInt := by
  constructor
  · rintro (q | ⟨i, hi, h1, h2⟩)
    · exact Or.inl (Or.inl q)
    · by_cases e : i = j
      · rw [e] at h2; exact Or.inr h2
      · exact Or.inl (Or.inr ⟨i, by omega, h1, h2⟩)
  · rintro ((q | ⟨i, hi, h1, h2⟩) | q)
    · exact Or.inl q
    · exact Or.inr ⟨i, by omega, h1, h2⟩
    · exact Or.inr ⟨j, by omega, h, q⟩
theorem isI_f {p : Nat} {σ : Sg} {c j : Nat} (h : ¬ LnF p σ c j) (v : Int) : IsI p σ c (j + 1) v ↔ IsI p σ c j v := by
  constructor
  · rintro (q | ⟨i, hi, h1, h2⟩)
    · exact Or.inl q
    · by_cases e : i = j
      · rw [e] at h1; exact absurd h1 h
      · exact Or.inr ⟨i, by omega, h1, h2⟩
  · rintro (q | ⟨i, hi, h1, h2⟩)
    · exact Or.inl q
    · exact Or.inr ⟨i, by omega, h1, h2⟩
theorem isJ_t {p : Nat} {σ : Sg} {c j : Nat} (h : LnF p σ c j) (v : Int) : IsJ p σ c (j + 1) v ↔ IsJ p σ c j v ∨ v = (σ.2.2.1 (p + 6) j).toInt := by
  constructor
  · rintro (q | q | ⟨i, hi, h1, h2⟩)
    · exact Or.inl (Or.inl q)
    · exact Or.inl (Or.inr (Or.inl q))
    · by_cases e : i = j
      · rw [e] at h2; exact Or.inr h2
      · exact Or.inl (Or.inr (Or.inr ⟨i, by omega, h1, h2⟩))
  · rintro ((q | q | ⟨i, hi, h1, h2⟩) | q)
    · exact Or.inl q
    · exact Or.inr (Or.inl q)
    · exact Or.inr (Or.inr ⟨i, by omega, h1, h2⟩)
    · exact Or.inr (Or.inr ⟨j, by omega, h, q⟩)
theorem isJ_f {p : Nat} {σ : Sg} {c j : Nat} (h : ¬ LnF p σ c j) (v : Int) : IsJ p σ c (j + 1) v ↔ IsJ p σ c j v := by
  constructor
  · rintro (q | q | ⟨i, hi, h1, h2⟩)
    · exact Or.inl q
    · exact Or.inr (Or.inl q)
    · by_cases e : i = j
      · rw [e] at h1; exact absurd h1 h
      · exact Or.inr (Or.inr ⟨i, by omega, h1, h2⟩)
  · rintro (q | q | ⟨i, hi, h1, h2⟩)
    · exact Or.inl q
    · exact Or.inr (Or.inl q)
    · exact Or.inr (Or.inr ⟨i, by omega, h1, h2⟩)
/-- before the lines: the back alone, or posted besides -/
theorem mn_0 {p : Nat} {σ : Sg} {c : Nat} {v : Int} (e : v = (σ.2.2.1 62 (σ.2.2.1 5 c).toNatClampNeg).toInt) (h : σ.2.2.1 8 c = -1) : Mn (IsJ p σ c 0) v := by
  refine ⟨Or.inl e, fun w hw => ?_⟩
  rcases hw with q | q | ⟨i, hi, -⟩
  · rw [e, q]; exact Int.le_refl _
  · exact absurd h q.1
  · omega
theorem mn_1 {p : Nat} {σ : Sg} {c : Nat} {old new d : Int} (e : old = (σ.2.2.1 62 (σ.2.2.1 5 c).toNatClampNeg).toInt) (h : ¬ σ.2.2.1 8 c = -1) (hd : d = (σ.2.2.1 8 c).toInt) (h3 : new ≤ old) (h4 : new ≤ d) (h5 : new = old ∨ new = d) : Mn (IsJ p σ c 0) new := by
  refine ⟨h5.elim (fun q => Or.inl (q.trans e)) (fun q => Or.inr (Or.inl ⟨h, q.trans hd⟩)), fun w hw => ?_⟩
  rcases hw with q | q | ⟨i, hi, -⟩
  · rw [q, ← e]; exact h3
  · rw [q.2, ← hd]; exact h4
  · omega
theorem mx_0 {p : Nat} {σ : Sg} {c : Nat} {v : Int} (e : v = (σ.2.2.1 61 (σ.2.2.1 5 c).toNatClampNeg).toInt) : Mx (IsI p σ c 0) v := by
  refine ⟨Or.inl e, fun w hw => ?_⟩
  rcases hw with q | ⟨i, hi, -⟩
  · rw [e, q]; exact Int.le_refl _
  · omega
theorem lnF_ff {p : Nat} {σ τ : Sg} {c i : Nat} (hp : p = 119 ∨ p = 126 ∨ p = 133) (k : Cor σ τ) : LnF p τ c i ↔ LnF p σ c i := by
  have e : ∀ q : Nat, 119 ≤ q → q ≤ 139 → τ.2.2.1 q = σ.2.2.1 q := fun q h1 h2 => k.2.2.1 q (by unfold scA; simp; omega)
  unfold LnF
  rw [e (p + 4) (by omega) (by omega), e (p + 1) (by omega) (by omega), e (p + 2) (by omega) (by omega), e (p + 3) (by omega) (by omega), k.2.2.1 3 rfl, k.2.2.1 4 rfl]
theorem sm_op {σ τ : Sg} {c : Nat} {pa fl : Nat} {old new : Int} (hp : pa = 90 ∨ pa = 91) (h : Op pa fl σ τ c old new) : SmP σ τ c := by
  refine ⟨h.1 87 (by omega), h.1 88 (by omega), h.1 92 (by omega), fun e he => ?_⟩
  rcases hp with rfl | rfl
  · exact ⟨h.2.1 e he, congrFun (h.1 91 (by decide)) e⟩
  · exact ⟨congrFun (h.1 90 (by decide)) e, h.2.1 e he⟩
theorem ne_s {D : Dt} {X : Xs} {j : Nat} (h : ∀ c, c < j → dA D c = true → yf X c ≤ yt X c ∧ xf X (dg D c) ≤ xt X (dg D c)) (hj : dA D j = true → yf X j ≤ yt X j ∧ xf X (dg D j) ≤ xt X (dg D j)) : ∀ c, c < j + 1 → dA D c = true → yf X c ≤ yt X c ∧ xf X (dg D c) ≤ xt X (dg D c) := by
  intro c hc ha
  by_cases e : c = j
  · rw [e] at ha ⊢; exact hj ha
  · exact h c (by omega) ha
set_option maxRecDepth 100000 in
set_option maxHeartbeats 40000000 in
theorem gd_X1_isSomeEmpty {G : vG} {l : Launch} (σ : Sg) (D : Dt) (μ : Int32)  (hI : Inv σ) (hK : LkC D μ σ) : Sp G l yX1_isSomeEmpty cX1_isSomeEmpty 3 (some .boolean) 1 0 0 [.ref 58, .int μ] (WW σ) (QI (fun x w2 => w2 = WW σ ∧ (x = 1 ∧ (∃ c, dA D c = true ∧ (yt (XC σ) c < yf (XC σ) c ∨ xt (XC σ) (dg D c) < xf (XC σ) (dg D c))) ∨ x = 0 ∧ NeX D (XC σ)))) := by
  refine Sp_of_R [(some (.ref 58)), (some (.int μ)), none] [none] rfl (by simp) rfl (Nat.le_of_ble_eq_true rfl) ?_
  refine R_iconst (pc := 0) (v := 0) dX1_isSomeEmpty_0 (by decide) ?_
  refine st_3_2_i_i (pc := 1) dX1_isSomeEmpty_1 ?_
  have HL2 : ∀ (q j2 : Nat), j2 + q = 20 → 0 ≤ j2 → (∀ c, c < j2 → dA D c = true → yf (XC σ) c ≤ yt (XC σ) c ∧ xf (XC σ) (dg D c) ≤ xt (XC σ) (dg D c)) → R G l yX1_isSomeEmpty cX1_isSomeEmpty 3 (some .boolean) 1 0 0 (QI (fun x w2 => w2 = WW σ ∧ (x = 1 ∧ (∃ c, dA D c = true ∧ (yt (XC σ) c < yf (XC σ) c ∨ xt (XC σ) (dg D c) < xf (XC σ) (dg D c))) ∨ x = 0 ∧ NeX D (XC σ)))) 2 [(some (.ref 58)), (some (.int μ)), (some (.int (nI j2)))] [] (WW σ) 0 0 := by
    intro q
    induction q with
    | zero =>
      intro j2 hj hs2 hX2_0
      obtain rfl : j2 = 20 := by omega
      refine R_iload_n (pc := 2) dX1_isSomeEmpty_2 rfl rfl ?_
      refine R_bipush (pc := 3) (v := 20) dX1_isSomeEmpty_3 (by decide) ?_
      refine R_icge (pc := 5) 76 dX1_isSomeEmpty_5 (by decide) (fun _ => ?_) (fun h => absurd (by decide) h)
      refine R_iconst (pc := 76) (v := 0) dX1_isSomeEmpty_76 (by decide) ?_
      exact R_iret (pc := 77) dX1_isSomeEmpty_77 rfl rfl (Nat.zero_le _) (Nat.zero_le _) ⟨_, rfl, rfl, Or.inr ⟨rfl, fun c hc => hX2_0 c (hK.2.1 c hc).1 hc⟩⟩
    | succ q ih2 =>
      intro j2 hj hs2 hX2_0
      have hrg2 : inR (nI j2) 0 19 := inR_ix hs2 (show j2 < 20 by omega) (by decide) (by decide) (by decide)
      have hlt2 : j2 < 20 := by omega
      refine R_iload_n (pc := 2) dX1_isSomeEmpty_2 rfl rfl ?_
      refine R_bipush (pc := 3) (v := 20) dX1_isSomeEmpty_3 (by decide) ?_
      refine R_icge (pc := 5) 76 dX1_isSomeEmpty_5 (by decide) (fun h => False.elim (by have q1 := ti_le h; have q2 := ti_in (show inR (nI j2) 0 19 from hrg2); have q3 := ti_in (show inR 20 20 20 from (inR_self _)); have z0 : (0 : Int32).toInt = 0 := (by decide);  have z1 : (19 : Int32).toInt = 19 := (by decide);  have z2 : (20 : Int32).toInt = 20 := (by decide); omega)) (fun _ => ?_)
      refine R_iload_n (pc := 8) dX1_isSomeEmpty_8 rfl rfl ?_
      refine R_iload_n (pc := 9) dX1_isSomeEmpty_9 rfl rfl ?_
      refine k_X1_60 (pc := 10) (sp_X8_has _ _ _) rfl (by decide) (Nat.le_refl _) (Nat.le_refl _) (Nat.le_of_ble_eq_true rfl) dX1_isSomeEmpty_10 (fun x w2 h => ?_)
      rcases h with ⟨rfl, ⟨hh3, rfl⟩ | ⟨hh3, rfl⟩⟩
      · skip
        have hA4 : dA D j2 = true := (hK.1 j2 (by omega)).trans (has_t (by omega) hh3)
        refine R_ifeq (pc := 13) 70 dX1_isSomeEmpty_13 (by decide) (fun h => absurd h (by decide)) (fun _ => ?_)
        refine R_aload_n (pc := 16) dX1_isSomeEmpty_16 rfl rfl ?_
        refine g_X1_42 (pc := 17) (v := .ref 89) rfl dX1_isSomeEmpty_17 (c_58 _) rfl ?_
        refine g_X1_133 (pc := 20) (v := .ref 90) rfl dX1_isSomeEmpty_20 (c_89 _) rfl ?_
        refine R_iload_n (pc := 23) dX1_isSomeEmpty_23 rfl rfl ?_
        have hx6 : vp_in (nI j2) 20 := (vp_in_nI (by omega) (by decide))
        refine R_iaload (pc := 24) dX1_isSomeEmpty_24 (c_90 _) hx6 ?_
        refine R_cv (σ.2.2.1 90 j2) (by rw [nI_clamp (by omega)]) ?_
        refine R_aload_n (pc := 25) dX1_isSomeEmpty_25 rfl rfl ?_
        refine g_X1_42 (pc := 26) (v := .ref 89) rfl dX1_isSomeEmpty_26 (c_58 _) rfl ?_
        refine g_X1_136 (pc := 29) (v := .ref 91) rfl dX1_isSomeEmpty_29 (c_89 _) rfl ?_
        refine R_iload_n (pc := 32) dX1_isSomeEmpty_32 rfl rfl ?_
        have hx7 : vp_in (nI j2) 20 := (vp_in_nI (by omega) (by decide))
        refine R_iaload (pc := 33) dX1_isSomeEmpty_33 (c_91 _) hx7 ?_
        refine R_cv (σ.2.2.1 91 j2) (by rw [nI_clamp (by omega)]) ?_
        refine R_icgt (pc := 34) 68 dX1_isSomeEmpty_34 (by decide) (fun b34_8 => ?_) (fun b34_8 => ?_)
        · skip
          refine R_iconst (pc := 68) (v := 1) dX1_isSomeEmpty_68 (by decide) ?_
          exact R_iret (pc := 69) dX1_isSomeEmpty_69 rfl rfl (Nat.zero_le _) (Nat.zero_le _) ⟨_, rfl, rfl, Or.inl ⟨rfl, j2, hA4, Or.inl (show (σ.2.2.1 91 j2).toInt < (σ.2.2.1 90 j2).toInt from ti_lt b34_8)⟩⟩
        · skip
          refine R_aload_n (pc := 37) dX1_isSomeEmpty_37 rfl rfl ?_
          refine g_X1_38 (pc := 38) (v := .ref 86) rfl dX1_isSomeEmpty_38 (c_58 _) rfl ?_
          refine g_X1_133 (pc := 41) (v := .ref 87) rfl dX1_isSomeEmpty_41 (c_86 _) rfl ?_
          refine R_aload_n (pc := 44) dX1_isSomeEmpty_44 rfl rfl ?_
          refine g_X1_45 (pc := 45) (v := .ref 92) rfl dX1_isSomeEmpty_45 (c_58 _) rfl ?_
          refine R_iload_n (pc := 48) dX1_isSomeEmpty_48 rfl rfl ?_
          have hx9 : vp_in (nI j2) 20 := (vp_in_nI (by omega) (by decide))
          refine R_iaload (pc := 49) dX1_isSomeEmpty_49 (c_92 _) hx9 ?_
          refine R_cv (nI (dg D j2)) (by show (σ.2.2.1 92 (Int32.toNatClampNeg (nI j2))) = _; rw [nI_clamp (by omega)]; exact (hK.2.1 j2 hA4).2.2) ?_
          have hx10 : vp_in (nI (dg D j2)) 20 := (vp_of_inR (show inR (nI (dg D j2)) 0 19 from inR_nI (M := 19) (Nat.le_of_lt_succ (hK.2.1 j2 hA4).2.1) (by decide)) (by decide))
          refine R_iaload (pc := 50) dX1_isSomeEmpty_50 (c_87 _) hx10 ?_
          refine R_cv (σ.2.2.1 87 (dg D j2)) (by rw [nI_clamp (by have q := (hK.2.1 j2 hA4).2.1; omega)]) ?_
          refine R_aload_n (pc := 51) dX1_isSomeEmpty_51 rfl rfl ?_
          refine g_X1_38 (pc := 52) (v := .ref 86) rfl dX1_isSomeEmpty_52 (c_58 _) rfl ?_
          refine g_X1_136 (pc := 55) (v := .ref 88) rfl dX1_isSomeEmpty_55 (c_86 _) rfl ?_
          refine R_aload_n (pc := 58) dX1_isSomeEmpty_58 rfl rfl ?_
          refine g_X1_45 (pc := 59) (v := .ref 92) rfl dX1_isSomeEmpty_59 (c_58 _) rfl ?_
          refine R_iload_n (pc := 62) dX1_isSomeEmpty_62 rfl rfl ?_
          have hx11 : vp_in (nI j2) 20 := (vp_in_nI (by omega) (by decide))
          refine R_iaload (pc := 63) dX1_isSomeEmpty_63 (c_92 _) hx11 ?_
          refine R_cv (nI (dg D j2)) (by show (σ.2.2.1 92 (Int32.toNatClampNeg (nI j2))) = _; rw [nI_clamp (by omega)]; exact (hK.2.1 j2 hA4).2.2) ?_
          have hx12 : vp_in (nI (dg D j2)) 20 := (vp_of_inR (show inR (nI (dg D j2)) 0 19 from inR_nI (M := 19) (Nat.le_of_lt_succ (hK.2.1 j2 hA4).2.1) (by decide)) (by decide))
          refine R_iaload (pc := 64) dX1_isSomeEmpty_64 (c_88 _) hx12 ?_
          refine R_cv (σ.2.2.1 88 (dg D j2)) (by rw [nI_clamp (by have q := (hK.2.1 j2 hA4).2.1; omega)]) ?_
          refine R_icle (pc := 65) 70 dX1_isSomeEmpty_65 (by decide) (fun b65_13 => ?_) (fun b65_13 => ?_)
          · skip
            refine inc_3_2_1_i (pc := 70) dX1_isSomeEmpty_70 ?_
            have r14 : inR ((nI j2) + 1) 1 20 := inR_add (show inR (nI j2) 0 19 from hrg2) (show inR 1 1 1 from (inR_self _)) (by decide) (by decide)
            have e15 := ti_add (l := 1) (h := 20) (show inR (nI j2) 0 19 from hrg2) (show inR 1 1 1 from (inR_self _)) (by decide) (by decide)
            refine R_goto (pc := 73) 2 dX1_isSomeEmpty_73 (by decide) ?_
            rw [nI_1]
            exact ih2 (j2 + 1) (by omega) (by omega) (ne_s hX2_0 (fun _ => ⟨(show (σ.2.2.1 90 j2).toInt ≤ (σ.2.2.1 91 j2).toInt from ti_nlt b34_8), (show (σ.2.2.1 87 (dg D j2)).toInt ≤ (σ.2.2.1 88 (dg D j2)).toInt from ti_le b65_13)⟩))
          · skip
            refine R_iconst (pc := 68) (v := 1) dX1_isSomeEmpty_68 (by decide) ?_
            exact R_iret (pc := 69) dX1_isSomeEmpty_69 rfl rfl (Nat.zero_le _) (Nat.zero_le _) ⟨_, rfl, rfl, Or.inl ⟨rfl, j2, hA4, Or.inr (show (σ.2.2.1 88 (dg D j2)).toInt < (σ.2.2.1 87 (dg D j2)).toInt from ti_nle b65_13)⟩⟩
      · skip
        have hA4 : dA D j2 = false := (hK.1 j2 (by omega)).trans (has_f (by omega) hh3)
        refine R_ifeq (pc := 13) 70 dX1_isSomeEmpty_13 (by decide) (fun _ => ?_) (fun h => absurd (by decide) h)
        refine inc_3_2_1_i (pc := 70) dX1_isSomeEmpty_70 ?_
        have r17 : inR ((nI j2) + 1) 1 20 := inR_add (show inR (nI j2) 0 19 from hrg2) (show inR 1 1 1 from (inR_self _)) (by decide) (by decide)
        have e18 := ti_add (l := 1) (h := 20) (show inR (nI j2) 0 19 from hrg2) (show inR 1 1 1 from (inR_self _)) (by decide) (by decide)
        refine R_goto (pc := 73) 2 dX1_isSomeEmpty_73 (by decide) ?_
        rw [nI_1]
        exact ih2 (j2 + 1) (by omega) (by omega) (ne_s hX2_0 (fun q => absurd (q.symm.trans hA4) (by decide)))
  exact HL2 20 0 (by omega) (by omega) (fun c hc => absurd hc (by omega))
