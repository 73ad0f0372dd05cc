/-! methods on any state that keeps the invariant -/
/-! what a settling begins with -/
def Bg (D : Dt) (X : Xs) : Prop := ∀ c, dA D c = true → 0 ≤ xf X (dg D c) ∧ xt X (dg D c) ≤ 20000 ∧ 0 ≤ yf X c ∧ yt X c ≤ 20000
theorem bn_of {D : Dt} {X0 X : Xs} (h0 : Bg D X0) (k : LeX D X0 X) (hN : NeX D X) : BnX D X 1 := fun c hc => by
  have a := h0 c hc
  have b := k c hc
  have d := hN c hc
  exact ⟨by omega, by omega, by omega, by omega⟩
theorem bg_o {D : Dt} {X0 X : Xs} (h0 : Bg D X0) (k : LeX D X0 X) : ∀ c, dA D c = true → -1 ≤ yf X c ∧ yt X c ≤ 20000 := fun c hc => by
  have a := h0 c hc
  have b := k c hc
  exact ⟨by omega, by omega⟩
/-- the cells of the class that dating hangs on -/
def DtC (D : Dt) (μ : Int32) (p : Nat) (σ : Sg) : Prop := (∀ c, dA D c = tb μ c) ∧ (∀ c, dA D c = true → dg D c = lab (RC0 σ) (tb μ) c) ∧ (∀ c f, dA D c = true → f < 8 → (dS D c f ↔ σ.2.2.1 (64 + c) f = 1) ∧ (dH D c f ↔ σ.2.2.1 (64 + c) f = 0)) ∧ (∀ f, f < 8 → (σ.2.2.1 59 f).toInt = dff D f ∧ (σ.2.2.1 60 f).toInt = dft D f ∧ 0 ≤ dff D f ∧ dff D f ≤ 20000 ∧ 0 ≤ dft D f ∧ dft D f ≤ 20000) ∧ (∀ a b, dA D a = true → dA D b = true → (dL D a b ↔ ∃ k, k < (σ.1 5809).toNatClampNeg ∧ σ.2.2.1 84 k = nI a ∧ σ.2.2.1 85 k = nI b)) ∧ (∀ c v, dA D c = true → (dI D c v ↔ IsI p σ c (σ.1 (100 * p + 6)).toNatClampNeg v) ∧ (dJ D c v ↔ IsJ p σ c (σ.1 (100 * p + 6)).toNatClampNeg v)) ∧ (∀ c v, dA D c = true → (dI D c v → 0 ≤ v ∧ v ≤ 20000) ∧ (dJ D c v → 0 ≤ v ∧ v ≤ 20000))
theorem isI_cor {p : Nat} {σ τ : Sg} {c j : Nat} (hp : p = 119 ∨ p = 126 ∨ p = 133) (k : Cor σ τ) (v : Int) : IsI p τ c j v ↔ IsI p σ c j v := by
  have e : ∀ q : Nat, 119 ≤ q → q ≤ 139 → τ.2.2.1 q = σ.2.2.1 q := fun q h1 h2 => k.2.2.1 q (by unfold scA; simp; omega)
  unfold IsI
  rw [k.2.2.1 61 rfl, k.2.2.1 5 rfl, e (p + 5) (by omega) (by omega)]
  constructor
  · rintro (q | ⟨i, h1, h2, h3⟩)
    · exact Or.inl q
    · exact Or.inr ⟨i, h1, (lnF_ff hp k).mp h2, h3⟩
  · rintro (q | ⟨i, h1, h2, h3⟩)
    · exact Or.inl q
    · exact Or.inr ⟨i, h1, (lnF_ff hp k).mpr h2, h3⟩
theorem isJ_cor {p : Nat} {σ τ : Sg} {c j : Nat} (hp : p = 119 ∨ p = 126 ∨ p = 133) (k : Cor σ τ) (v : Int) : IsJ p τ c j v ↔ IsJ p σ c j v := by
  have e : ∀ q : Nat, 119 ≤ q → q ≤ 139 → τ.2.2.1 q = σ.2.2.1 q := fun q h1 h2 => k.2.2.1 q (by unfold scA; simp; omega)
  unfold IsJ
  rw [k.2.2.1 62 rfl, k.2.2.1 5 rfl, k.2.2.1 8 rfl, e (p + 6) (by omega) (by omega)]
  constructor
  · rintro (q | q | ⟨i, h1, h2, h3⟩)
    · exact Or.inl q
    · exact Or.inr (Or.inl q)
    · exact Or.inr (Or.inr ⟨i, h1, (lnF_ff hp k).mp h2, h3⟩)
  · rintro (q | q | ⟨i, h1, h2, h3⟩)
    · exact Or.inl q
    · exact Or.inr (Or.inl q)
    · exact Or.inr (Or.inr ⟨i, h1, (lnF_ff hp k).mpr h2, h3⟩)
theorem dt_lk {D : Dt} {μ : Int32} {p : Nat} {σ τ : Sg} (hb : inR μ 0 1048575) (h : DtC D μ p σ) (k : Cor σ τ) (hl : ∀ i, tb μ i = true → τ.2.2.1 92 i = nI (lab (RC0 σ) (tb μ) i)) : LkC D μ τ := by
  obtain ⟨h1, h2, h3, h4, h5, -, -⟩ := h
  refine ⟨fun c _ => h1 c, fun c hc => ?_, fun c f hc hf => ?_, fun f hf => ?_, fun a b ha hb => ?_⟩
  · have ht : tb μ c = true := (h1 c).symm.trans hc
    have h20 := lt_20 hb ht
    have q := (lab_p (R := RC0 σ) (A := tb μ) h20).2.1
    rw [h2 c hc]
    exact ⟨h20, by omega, hl c ht⟩
  · have h20 := lt_20 hb ((h1 c).symm.trans hc)
    rw [k.2.2.1 (64 + c) (scA_64 h20)]; exact h3 c f hc hf
  · rw [k.2.2.1 59 rfl, k.2.2.1 60 rfl]; exact h4 f hf
  · rw [k.1 5809 rfl, k.2.2.1 84 rfl, k.2.2.1 85 rfl]; exact h5 a b ha hb
/-- PUBLISHED is opened so far -/
def OpA (D : Dt) (p : Nat) (σ τ : Sg) (j : Nat) : Prop := ∀ c, c < j → dA D c = true → Mx (dI D c) (τ.2.2.1 90 c).toInt ∧ Mn (dJ D c) (τ.2.2.1 91 c).toInt
theorem opA_f {D : Dt} {p : Nat} {σ τ : Sg} {j : Nat} (h : OpA D p σ τ j) (hj : dA D j = false) : OpA D p σ τ (j + 1) := by
  intro c hc ha
  by_cases e : c = j
  · rw [e, hj] at ha; cases ha
  · exact h c (by omega) ha
theorem opA_t {D : Dt} {μ : Int32} {p : Nat} {σ τ υ : Sg} {j : Nat} (hp : p = 119 ∨ p = 126 ∨ p = 133) (hD : DtC D μ p σ) (k : Cor σ τ) (h : OpA D p σ τ j) (hj : dA D j = true) (s : SmP τ υ j) (h1 : Mx (IsI p τ j (τ.1 (100 * p + 6)).toNatClampNeg) (υ.2.2.1 90 j).toInt) (h2 : Mn (IsJ p τ j (τ.1 (100 * p + 6)).toNatClampNeg) (υ.2.2.1 91 j).toInt) : OpA D p σ υ (j + 1) := by
  have hz : τ.1 (100 * p + 6) = σ.1 (100 * p + 6) := k.1 _ (by rcases hp with rfl | rfl | rfl <;> rfl)
  intro c hc ha
  by_cases e : c = j
  · rw [e] at ha ⊢
    rw [hz] at h1 h2
    exact ⟨mx_k h1 (fun v => ((hD.2.2.2.2.2.1 j v ha).1.trans (isI_cor hp k v).symm)), mn_k h2 (fun v => ((hD.2.2.2.2.2.1 j v ha).2.trans (isJ_cor hp k v).symm))⟩
  · have q := s.2.2.2 c e
    rw [q.1, q.2]
    exact h c (by omega) ha
theorem op_all {D : Dt} {μ : Int32} {p : Nat} {σ τ : Sg} (hb : inR μ 0 1048575) (hD : DtC D μ p σ) (h : OpA D p σ τ 20) (hl : ∀ i, tb μ i = true → τ.2.2.1 87 (lab (RC0 σ) (tb μ) i) = 0 ∧ τ.2.2.1 88 (lab (RC0 σ) (tb μ) i) = 20000) : BsX D (XC τ) ∧ (∀ Y, Sol D Y → LeX D (XC τ) Y) ∧ Bg D (XC τ) ∧ BnX D (XC τ) 1 := by
  have F : ∀ c, dA D c = true → xf (XC τ) (dg D c) = 0 ∧ xt (XC τ) (dg D c) = 20000 ∧ Mx (dI D c) (yf (XC τ) c) ∧ Mn (dJ D c) (yt (XC τ) c) := by
    intro c hc
    have ht : tb μ c = true := (hD.1 c).symm.trans hc
    have q := hl c ht
    refine ⟨?_, ?_, h c (lt_20 hb ht) hc⟩
    · show (τ.2.2.1 87 (dg D c)).toInt = 0
      rw [hD.2.1 c hc, q.1]; decide
    · show (τ.2.2.1 88 (dg D c)).toInt = 20000
      rw [hD.2.1 c hc, q.2]; decide
  have G : ∀ c, dA D c = true → (0 ≤ yf (XC τ) c ∧ yf (XC τ) c ≤ 20000) ∧ (0 ≤ yt (XC τ) c ∧ yt (XC τ) c ≤ 20000) := by
    intro c hc
    obtain ⟨-, -, a, b⟩ := F c hc
    exact ⟨(hD.2.2.2.2.2.2 c _ hc).1 a.1, (hD.2.2.2.2.2.2 c _ hc).2 b.1⟩
  refine ⟨fun c hc => ?_, fun Y hY c hc => ?_, fun c hc => ?_, fun c hc => ?_⟩
  · obtain ⟨a, b, d, e⟩ := F c hc
    exact ⟨by omega, by omega, d.2, e.2⟩
  · obtain ⟨a, b, d, e⟩ := F c hc
    have y := hY.1 c hc
    exact ⟨by omega, by omega, y.2.2.1 _ d.1, y.2.2.2 _ e.1⟩
  · obtain ⟨a, b, -, -⟩ := F c hc
    have g := G c hc
    exact ⟨by omega, by omega, by omega, by omega⟩
  · obtain ⟨a, b, -, -⟩ := F c hc
    have g := G c hc
    exact ⟨by omega, by omega, by omega, by omega⟩
def Lng (D : Dt) : Prop := ∃ X0 X, BsX D X0 ∧ (∀ Y, Sol D Y → LeX D X0 Y) ∧ TrX D X0 32 X
theorem lng_no {D : Dt} {L : Xs} (h20 : ∀ c, dA D c = true → c < 20) (hL : Good D L) (h : Lng D) : False := by
  obtain ⟨X0, X, hB, h0, hT⟩ := h
  exact tr_no h20 hL hB (h0 L hL.1) hT
theorem bad_of {D : Dt} {X0 X Y : Xs} {n : Nat} (h0 : ∀ Z, Sol D Z → LeX D X0 Z) (hT : TrX D X0 n X) (hR : Rs D X Y) {c : Nat} (hc : dA D c = true) (he : yt Y c < yf Y c ∨ xt Y (dg D c) < xf Y (dg D c)) : Bad D := by
  intro Z hZ hN
  have k := hR.1.2 Z hZ (tr_le hZ (h0 Z hZ) n X hT).2 c hc
  have d := hN c hc
  omega
theorem good_of {D : Dt} {X0 X Y : Xs} {n : Nat} (hB : BsX D X0) (h0 : ∀ Z, Sol D Z → LeX D X0 Z) (hT : TrX D X0 n X) (k0 : LeX D X0 X) (hR : Rs D X Y) (e : Y = X) (hN : NeX D Y) : Good D Y := by
  rw [e] at hR hN ⊢
  exact ⟨sol_of (hB.up k0) hR, hN, fun Z hZ => (tr_le hZ (h0 Z hZ) n X hT).2⟩
set_option maxRecDepth 100000 in
set_option maxHeartbeats 40000000 in
theorem gd_X1_settle_126 {G : vG} {l : Launch} (σ : Sg) (D : Dt) (μ : Int32)  (hI : Inv σ) (hb : inR μ 0 1048575) (hS : Sym (RC0 σ) (tb μ)) (hD : DtC D μ 126 σ) : Sp G l yX1_settle cX1_settle 5 (some .boolean) 5 0 0 [.ref 58, .int μ, .ref 126] (WW σ) (QI (fun x w2 => ∃ σ2, w2 = WW σ2 ∧ Inv σ2 ∧ Cor σ σ2 ∧ (∀ c, dA D c = true → σ2.2.2.1 92 c = nI (dg D c)) ∧ (x = 1 ∧ Good D (XC σ2) ∨ x = 0 ∧ (Bad D ∨ Lng D)))) := by
  refine Sp_of_R [(some (.ref 58)), (some (.int μ)), (some (.ref 126)), none, none] [none, none] rfl (by simp) rfl (Nat.le_of_ble_eq_true rfl) ?_
  refine R_aload_n (pc := 0) dX1_settle_0 rfl rfl ?_
  refine R_iload_n (pc := 1) dX1_settle_1 rfl rfl ?_
  refine k_X1_56 (pc := 2) (gd_X1_findLeaders _ _ hI hb hS) rfl (c_58 _) (by decide) (Nat.le_refl _) (Nat.le_refl _) (Nat.le_of_ble_eq_true rfl) dX1_settle_2 (fun w2 h => ?_)
  obtain ⟨σx2, rfl, hV1, hW3, hfl⟩ := h
  have hW4 := Cor.trans (show Cor σ σ from Cor.rfl' σ) hW3
  refine R_iconst (pc := 5) (v := 0) dX1_settle_5 (by decide) ?_
  refine st_5_3_i_a (pc := 6) dX1_settle_6 ?_
  have HL7 : ∀ (q j7 : Nat) (σ7 : Sg), j7 + q = 20 → 0 ≤ j7 → Inv σ7 → Cor σ σ7 → (∀ i, tb μ i = true → σ7.2.2.1 92 i = nI (lab (RC0 σ) (tb μ) i) ∧ σ7.2.2.1 87 (lab (RC0 σ) (tb μ) i) = 0 ∧ σ7.2.2.1 88 (lab (RC0 σ) (tb μ) i) = 20000) → OpA D 126 σ σ7 j7 → R G l yX1_settle cX1_settle 5 (some .boolean) 5 0 0 (QI (fun x w2 => ∃ σ2, w2 = WW σ2 ∧ Inv σ2 ∧ Cor σ σ2 ∧ (∀ c, dA D c = true → σ2.2.2.1 92 c = nI (dg D c)) ∧ (x = 1 ∧ Good D (XC σ2) ∨ x = 0 ∧ (Bad D ∨ Lng D)))) 7 [(some (.ref 58)), (some (.int μ)), (some (.ref 126)), (some (.int (nI j7))), none] [] (WW σ7) 0 0 := by
    intro q
    induction q with
    | zero =>
      intro j7 σ7 hj hs7 hI7 hC7 hX7_0 hX7_1
      obtain rfl : j7 = 20 := by omega
      refine R_iload_n (pc := 7) dX1_settle_7 rfl rfl ?_
      refine R_bipush (pc := 8) (v := 20) dX1_settle_8 (by decide) ?_
      refine R_icge (pc := 10) 33 dX1_settle_10 (by decide) (fun _ => ?_) (fun h => absurd (by decide) h)
      refine R_iconst (pc := 33) (v := 0) dX1_settle_33 (by decide) ?_
      refine st_5_3_i_a (pc := 34) dX1_settle_34 ?_
      have hop := op_all hb hD hX7_1 (fun i hi => (hX7_0 i hi).2)
      have HL35 : ∀ (q j35 : Nat) (σ35 : Sg) (g4_35 : Option Value), j35 + q = 32 → 0 ≤ j35 → Inv σ35 → Cor σ σ35 → (TrX D (XC σ7) j35 (XC σ35) ∧ LkC D μ σ35 ∧ BnX D (XC σ35) 1 ∧ LeX D (XC σ7) (XC σ35)) → R G l yX1_settle cX1_settle 5 (some .boolean) 5 0 0 (QI (fun x w2 => ∃ σ2, w2 = WW σ2 ∧ Inv σ2 ∧ Cor σ σ2 ∧ (∀ c, dA D c = true → σ2.2.2.1 92 c = nI (dg D c)) ∧ (x = 1 ∧ Good D (XC σ2) ∨ x = 0 ∧ (Bad D ∨ Lng D)))) 35 [(some (.ref 58)), (some (.int μ)), (some (.ref 126)), (some (.int (nI j35))), g4_35] [] (WW σ35) 0 0 := by
        intro q
        induction q with
        | zero =>
          intro j35 σ35 g4_35 hj hs35 hI35 hC35 hX35_0
          obtain rfl : j35 = 32 := by omega
          refine R_iload_n (pc := 35) dX1_settle_35 rfl rfl ?_
          refine R_bipush (pc := 36) (v := 32) dX1_settle_36 (by decide) ?_
          refine R_icge (pc := 38) 71 dX1_settle_38 (by decide) (fun _ => ?_) (fun h => absurd (by decide) h)
          refine R_iconst (pc := 71) (v := 0) dX1_settle_71 (by decide) ?_
          exact R_iret (pc := 72) dX1_settle_72 rfl rfl (Nat.zero_le _) (Nat.zero_le _) ⟨_, rfl, _, rfl, hI35, hC35, (fun c hc => (hX35_0.2.1.2.1 c hc).2.2), Or.inr ⟨rfl, Or.inr ⟨_, _, hop.1, hop.2.1, hX35_0.1⟩⟩⟩
        | succ q ih35 =>
          intro j35 σ35 g4_35 hj hs35 hI35 hC35 hX35_0
          have hrg35 : inR (nI j35) 0 31 := inR_ix hs35 (show j35 < 32 by omega) (by decide) (by decide) (by decide)
          have hlt35 : j35 < 32 := by omega
          refine R_iload_n (pc := 35) dX1_settle_35 rfl rfl ?_
          refine R_bipush (pc := 36) (v := 32) dX1_settle_36 (by decide) ?_
          refine R_icge (pc := 38) 71 dX1_settle_38 (by decide) (fun h => False.elim (by have q1 := ti_le h; have q2 := ti_in (show inR (nI j35) 0 31 from hrg35); have q3 := ti_in (show inR 32 32 32 from (inR_self _)); have z0 : (0 : Int32).toInt = 0 := (by decide);  have z1 : (31 : Int32).toInt = 31 := (by decide);  have z2 : (32 : Int32).toInt = 32 := (by decide); omega)) (fun _ => ?_)
          refine R_aload_n (pc := 41) dX1_settle_41 rfl rfl ?_
          refine R_iload_n (pc := 42) dX1_settle_42 rfl rfl ?_
          refine k_X1_68 (pc := 43) (gd_X1_narrow _ D μ hI35 hX35_0.2.1 hX35_0.2.2.1 (bg_o hop.2.2.1 hX35_0.2.2.2)) rfl (c_58 _) (by decide) (Nat.le_refl _) (Nat.le_refl _) (Nat.le_of_ble_eq_true rfl) dX1_settle_43 (fun x w2 h => ?_)
          obtain ⟨σx9, rfl, hV8, hW10, hRs, h92, hch⟩ := h
          have hW11 := Cor.trans hC35 hW10
          have hK2 := lk_st hX35_0.2.1 hW10 h92
          rcases hch with ⟨rfl, hch⟩ | ⟨rfl, hch⟩
          · skip
            refine st_5_4_i_i (pc := 46) dX1_settle_46 ?_
            refine R_aload_n (pc := 48) dX1_settle_48 rfl rfl ?_
            refine R_iload_n (pc := 49) dX1_settle_49 rfl rfl ?_
            refine k_X1_72 (pc := 50) (gd_X1_isSomeEmpty _ D μ hV8 hK2) rfl (c_58 _) (by decide) (Nat.le_refl _) (Nat.le_refl _) (Nat.le_of_ble_eq_true rfl) dX1_settle_50 (fun x w2 h => ?_)
            rcases h with ⟨rfl, ⟨rfl, ce, hce, hee⟩ | ⟨rfl, hne⟩⟩
            · skip
              refine R_ifeq (pc := 53) 58 dX1_settle_53 (by decide) (fun h => absurd h (by decide)) (fun _ => ?_)
              refine R_iconst (pc := 56) (v := 0) dX1_settle_56 (by decide) ?_
              exact R_iret (pc := 57) dX1_settle_57 rfl rfl (Nat.zero_le _) (Nat.zero_le _) ⟨_, rfl, _, rfl, hV8, hW11, (fun c hc => (hK2.2.1 c hc).2.2), Or.inr ⟨rfl, Or.inl (bad_of hop.2.1 hX35_0.1 hRs hce hee)⟩⟩
            · skip
              refine R_ifeq (pc := 53) 58 dX1_settle_53 (by decide) (fun _ => ?_) (fun h => absurd (by decide) h)
              refine R_iload (pc := 58) dX1_settle_58 rfl ?_
              refine R_ifne (pc := 60) 65 dX1_settle_60 (by decide) (fun _ => ?_) (fun h => absurd h (by decide))
              refine inc_5_3_1_a (pc := 65) dX1_settle_65 ?_
              have r15 : inR ((nI j35) + 1) 1 32 := inR_add (show inR (nI j35) 0 31 from hrg35) (show inR 1 1 1 from (inR_self _)) (by decide) (by decide)
              have e16 := ti_add (l := 1) (h := 32) (show inR (nI j35) 0 31 from hrg35) (show inR 1 1 1 from (inR_self _)) (by decide) (by decide)
              refine R_goto (pc := 68) 35 dX1_settle_68 (by decide) ?_
              rw [nI_1]
              exact ih35 (j35 + 1) _ _ (by omega) (by omega) hV8 hW11 ⟨⟨_, hX35_0.1, hRs, hch⟩, hK2, bn_of hop.2.2.1 (hX35_0.2.2.2.tr hRs.1.1) hne, hX35_0.2.2.2.tr hRs.1.1⟩
          · skip
            refine st_5_4_i_i (pc := 46) dX1_settle_46 ?_
            refine R_aload_n (pc := 48) dX1_settle_48 rfl rfl ?_
            refine R_iload_n (pc := 49) dX1_settle_49 rfl rfl ?_
            refine k_X1_72 (pc := 50) (gd_X1_isSomeEmpty _ D μ hV8 hK2) rfl (c_58 _) (by decide) (Nat.le_refl _) (Nat.le_refl _) (Nat.le_of_ble_eq_true rfl) dX1_settle_50 (fun x w2 h => ?_)
            rcases h with ⟨rfl, ⟨rfl, ce, hce, hee⟩ | ⟨rfl, hne⟩⟩
            · skip
              refine R_ifeq (pc := 53) 58 dX1_settle_53 (by decide) (fun h => absurd h (by decide)) (fun _ => ?_)
              refine R_iconst (pc := 56) (v := 0) dX1_settle_56 (by decide) ?_
              exact R_iret (pc := 57) dX1_settle_57 rfl rfl (Nat.zero_le _) (Nat.zero_le _) ⟨_, rfl, _, rfl, hV8, hW11, (fun c hc => (hK2.2.1 c hc).2.2), Or.inr ⟨rfl, Or.inl (bad_of hop.2.1 hX35_0.1 hRs hce hee)⟩⟩
            · skip
              refine R_ifeq (pc := 53) 58 dX1_settle_53 (by decide) (fun _ => ?_) (fun h => absurd (by decide) h)
              refine R_iload (pc := 58) dX1_settle_58 rfl ?_
              refine R_ifne (pc := 60) 65 dX1_settle_60 (by decide) (fun h => absurd (by decide) h) (fun _ => ?_)
              refine R_iconst (pc := 63) (v := 1) dX1_settle_63 (by decide) ?_
              exact R_iret (pc := 64) dX1_settle_64 rfl rfl (Nat.zero_le _) (Nat.zero_le _) ⟨_, rfl, _, rfl, hV8, hW11, (fun c hc => (hK2.2.1 c hc).2.2), Or.inl ⟨rfl, good_of hop.1 hop.2.1 hX35_0.1 hX35_0.2.2.2 hRs hch hne⟩⟩
      exact HL35 32 0 _ _ (by omega) (by omega) hI7 hC7 ⟨rfl, dt_lk hb hD hC7 (fun i hi => (hX7_0 i hi).1), hop.2.2.2, LeX.rfl' D _⟩
    | succ q ih7 =>
      intro j7 σ7 hj hs7 hI7 hC7 hX7_0 hX7_1
      have hrg7 : inR (nI j7) 0 19 := inR_ix hs7 (show j7 < 20 by omega) (by decide) (by decide) (by decide)
      have hlt7 : j7 < 20 := by omega
      refine R_iload_n (pc := 7) dX1_settle_7 rfl rfl ?_
      refine R_bipush (pc := 8) (v := 20) dX1_settle_8 (by decide) ?_
      refine R_icge (pc := 10) 33 dX1_settle_10 (by decide) (fun h => False.elim (by have q1 := ti_le h; have q2 := ti_in (show inR (nI j7) 0 19 from hrg7); have q3 := ti_in (show inR 20 20 20 from (inR_self _)); have z0 : (0 : Int32).toInt = 0 := (by decide);  have z1 : (19 : Int32).toInt = 19 := (by decide);  have z2 : (20 : Int32).toInt = 20 := (by decide); omega)) (fun _ => ?_)
      refine R_iload_n (pc := 13) dX1_settle_13 rfl rfl ?_
      refine R_iload_n (pc := 14) dX1_settle_14 rfl rfl ?_
      refine k_X1_60 (pc := 15) (sp_X8_has _ _ _) rfl (by decide) (Nat.le_refl _) (Nat.le_refl _) (Nat.le_of_ble_eq_true rfl) dX1_settle_15 (fun x w2 h => ?_)
      rcases h with ⟨rfl, ⟨hh21, rfl⟩ | ⟨hh21, rfl⟩⟩
      · skip
        have hA9 : dA D j7 = true := (hD.1 j7).trans (has_t (by omega) hh21)
        refine R_ifeq (pc := 18) 27 dX1_settle_18 (by decide) (fun h => absurd h (by decide)) (fun _ => ?_)
        refine R_aload_n (pc := 21) dX1_settle_21 rfl rfl ?_
        refine R_iload_n (pc := 22) dX1_settle_22 rfl rfl ?_
        refine R_aload_n (pc := 23) dX1_settle_23 rfl rfl ?_
        refine k_X1_64 (pc := 24) (gd_X1_openPublished_126 _ j7 hI7 (by omega)) rfl (c_58 _) (by decide) (Nat.le_refl _) (Nat.le_refl _) (Nat.le_of_ble_eq_true rfl) dX1_settle_24 (fun w2 h => ?_)
        obtain ⟨σx24, rfl, hV23, hW25, hsm, hmx, hmn⟩ := h
        have hW26 := Cor.trans hC7 hW25
        refine inc_5_3_1_a (pc := 27) dX1_settle_27 ?_
        have r27 : inR ((nI j7) + 1) 1 20 := inR_add (show inR (nI j7) 0 19 from hrg7) (show inR 1 1 1 from (inR_self _)) (by decide) (by decide)
        have e28 := ti_add (l := 1) (h := 20) (show inR (nI j7) 0 19 from hrg7) (show inR 1 1 1 from (inR_self _)) (by decide) (by decide)
        refine R_goto (pc := 30) 7 dX1_settle_30 (by decide) ?_
        rw [nI_1]
        exact ih7 (j7 + 1) _ (by omega) (by omega) hV23 hW26 (fun i hi => by rw [hsm.1, hsm.2.1, hsm.2.2.1]; exact hX7_0 i hi) (opA_t (Or.inr (Or.inl rfl)) hD hC7 hX7_1 hA9 hsm hmx hmn)
      · skip
        have hA9 : dA D j7 = false := (hD.1 j7).trans (has_f (by omega) hh21)
        refine R_ifeq (pc := 18) 27 dX1_settle_18 (by decide) (fun _ => ?_) (fun h => absurd (by decide) h)
        refine inc_5_3_1_a (pc := 27) dX1_settle_27 ?_
        have r30 : inR ((nI j7) + 1) 1 20 := inR_add (show inR (nI j7) 0 19 from hrg7) (show inR 1 1 1 from (inR_self _)) (by decide) (by decide)
        have e31 := ti_add (l := 1) (h := 20) (show inR (nI j7) 0 19 from hrg7) (show inR 1 1 1 from (inR_self _)) (by decide) (by decide)
        refine R_goto (pc := 30) 7 dX1_settle_30 (by decide) ?_
        rw [nI_1]
        exact ih7 (j7 + 1) _ (by omega) (by omega) hI7 hC7 hX7_0 (opA_f hX7_1 hA9)
  exact HL7 20 0 _ (by omega) (by omega) hV1 hW4 hfl (fun c hc => absurd hc (by omega))
set_option maxRecDepth 100000 in
set_option maxHeartbeats 40000000 in
theorem gd_X1_settle_133 {G : vG} {l : Launch} (σ : Sg) (D : Dt) (μ : Int32)  (hI : Inv σ) (hb : inR μ 0 1048575) (hS : Sym (RC0 σ) (tb μ)) (hD : DtC D μ 133 σ) : Sp G l yX1_settle cX1_settle 5 (some .boolean) 5 0 0 [.ref 58, .int μ, .ref 133] (WW σ) (QI (fun x w2 => ∃ σ2, w2 = WW σ2 ∧ Inv σ2 ∧ Cor σ σ2 ∧ (∀ c, dA D c = true → σ2.2.2.1 92 c = nI (dg D c)) ∧ (x = 1 ∧ Good D (XC σ2) ∨ x = 0 ∧ (Bad D ∨ Lng D)))) := by
  refine Sp_of_R [(some (.ref 58)), (some (.int μ)), (some (.ref 133)), none, none] [none, none] rfl (by simp) rfl (Nat.le_of_ble_eq_true rfl) ?_
  refine R_aload_n (pc := 0) dX1_settle_0 rfl rfl ?_
  refine R_iload_n (pc := 1) dX1_settle_1 rfl rfl ?_
  refine k_X1_56 (pc := 2) (gd_X1_findLeaders _ _ hI hb hS) rfl (c_58 _) (by decide) (Nat.le_refl _) (Nat.le_refl _) (Nat.le_of_ble_eq_true rfl) dX1_settle_2 (fun w2 h => ?_)
  obtain ⟨σx2, rfl, hV1, hW3, hfl⟩ := h
  have hW4 := Cor.trans (show Cor σ σ from Cor.rfl' σ) hW3
  refine R_iconst (pc := 5) (v := 0) dX1_settle_5 (by decide) ?_
  refine st_5_3_i_a (pc := 6) dX1_settle_6 ?_
  have HL7 : ∀ (q j7 : Nat) (σ7 : Sg), j7 + q = 20 → 0 ≤ j7 → Inv σ7 → Cor σ σ7 → (∀ i, tb μ i = true → σ7.2.2.1 92 i = nI (lab (RC0 σ) (tb μ) i) ∧ σ7.2.2.1 87 (lab (RC0 σ) (tb μ) i) = 0 ∧ σ7.2.2.1 88 (lab (RC0 σ) (tb μ) i) = 20000) → OpA D 133 σ σ7 j7 → R G l yX1_settle cX1_settle 5 (some .boolean) 5 0 0 (QI (fun x w2 => ∃ σ2, w2 = WW σ2 ∧ Inv σ2 ∧ Cor σ σ2 ∧ (∀ c, dA D c = true → σ2.2.2.1 92 c = nI (dg D c)) ∧ (x = 1 ∧ Good D (XC σ2) ∨ x = 0 ∧ (Bad D ∨ Lng D)))) 7 [(some (.ref 58)), (some (.int μ)), (some (.ref 133)), (some (.int (nI j7))), none] [] (WW σ7) 0 0 := by
    intro q
    induction q with
    | zero =>
      intro j7 σ7 hj hs7 hI7 hC7 hX7_0 hX7_1
      obtain rfl : j7 = 20 := by omega
      refine R_iload_n (pc := 7) dX1_settle_7 rfl rfl ?_
      refine R_bipush (pc := 8) (v := 20) dX1_settle_8 (by decide) ?_
      refine R_icge (pc := 10) 33 dX1_settle_10 (by decide) (fun _ => ?_) (fun h => absurd (by decide) h)
      refine R_iconst (pc := 33) (v := 0) dX1_settle_33 (by decide) ?_
      refine st_5_3_i_a (pc := 34) dX1_settle_34 ?_
      have hop := op_all hb hD hX7_1 (fun i hi => (hX7_0 i hi).2)
      have HL35 : ∀ (q j35 : Nat) (σ35 : Sg) (g4_35 : Option Value), j35 + q = 32 → 0 ≤ j35 → Inv σ35 → Cor σ σ35 → (TrX D (XC σ7) j35 (XC σ35) ∧ LkC D μ σ35 ∧ BnX D (XC σ35) 1 ∧ LeX D (XC σ7) (XC σ35)) → R G l yX1_settle cX1_settle 5 (some .boolean) 5 0 0 (QI (fun x w2 => ∃ σ2, w2 = WW σ2 ∧ Inv σ2 ∧ Cor σ σ2 ∧ (∀ c, dA D c = true → σ2.2.2.1 92 c = nI (dg D c)) ∧ (x = 1 ∧ Good D (XC σ2) ∨ x = 0 ∧ (Bad D ∨ Lng D)))) 35 [(some (.ref 58)), (some (.int μ)), (some (.ref 133)), (some (.int (nI j35))), g4_35] [] (WW σ35) 0 0 := by
        intro q
        induction q with
        | zero =>
          intro j35 σ35 g4_35 hj hs35 hI35 hC35 hX35_0
          obtain rfl : j35 = 32 := by omega
          refine R_iload_n (pc := 35) dX1_settle_35 rfl rfl ?_
          refine R_bipush (pc := 36) (v := 32) dX1_settle_36 (by decide) ?_
          refine R_icge (pc := 38) 71 dX1_settle_38 (by decide) (fun _ => ?_) (fun h => absurd (by decide) h)
          refine R_iconst (pc := 71) (v := 0) dX1_settle_71 (by decide) ?_
          exact R_iret (pc := 72) dX1_settle_72 rfl rfl (Nat.zero_le _) (Nat.zero_le _) ⟨_, rfl, _, rfl, hI35, hC35, (fun c hc => (hX35_0.2.1.2.1 c hc).2.2), Or.inr ⟨rfl, Or.inr ⟨_, _, hop.1, hop.2.1, hX35_0.1⟩⟩⟩
        | succ q ih35 =>
          intro j35 σ35 g4_35 hj hs35 hI35 hC35 hX35_0
          have hrg35 : inR (nI j35) 0 31 := inR_ix hs35 (show j35 < 32 by omega) (by decide) (by decide) (by decide)
          have hlt35 : j35 < 32 := by omega
          refine R_iload_n (pc := 35) dX1_settle_35 rfl rfl ?_
          refine R_bipush (pc := 36) (v := 32) dX1_settle_36 (by decide) ?_
          refine R_icge (pc := 38) 71 dX1_settle_38 (by decide) (fun h => False.elim (by have q1 := ti_le h; have q2 := ti_in (show inR (nI j35) 0 31 from hrg35); have q3 := ti_in (show inR 32 32 32 from (inR_self _)); have z0 : (0 : Int32).toInt = 0 := (by decide);  have z1 : (31 : Int32).toInt = 31 := (by decide);  have z2 : (32 : Int32).toInt = 32 := (by decide); omega)) (fun _ => ?_)
          refine R_aload_n (pc := 41) dX1_settle_41 rfl rfl ?_
          refine R_iload_n (pc := 42) dX1_settle_42 rfl rfl ?_
          refine k_X1_68 (pc := 43) (gd_X1_narrow _ D μ hI35 hX35_0.2.1 hX35_0.2.2.1 (bg_o hop.2.2.1 hX35_0.2.2.2)) rfl (c_58 _) (by decide) (Nat.le_refl _) (Nat.le_refl _) (Nat.le_of_ble_eq_true rfl) dX1_settle_43 (fun x w2 h => ?_)
          obtain ⟨σx9, rfl, hV8, hW10, hRs, h92, hch⟩ := h
          have hW11 := Cor.trans hC35 hW10
          have hK2 := lk_st hX35_0.2.1 hW10 h92
          rcases hch with ⟨rfl, hch⟩ | ⟨rfl, hch⟩
          · skip
            refine st_5_4_i_i (pc := 46) dX1_settle_46 ?_
            refine R_aload_n (pc := 48) dX1_settle_48 rfl rfl ?_
            refine R_iload_n (pc := 49) dX1_settle_49 rfl rfl ?_
            refine k_X1_72 (pc := 50) (gd_X1_isSomeEmpty _ D μ hV8 hK2) rfl (c_58 _) (by decide) (Nat.le_refl _) (Nat.le_refl _) (Nat.le_of_ble_eq_true rfl) dX1_settle_50 (fun x w2 h => ?_)
            rcases h with ⟨rfl, ⟨rfl, ce, hce, hee⟩ | ⟨rfl, hne⟩⟩
            · skip
              refine R_ifeq (pc := 53) 58 dX1_settle_53 (by decide) (fun h => absurd h (by decide)) (fun _ => ?_)
              refine R_iconst (pc := 56) (v := 0) dX1_settle_56 (by decide) ?_
              exact R_iret (pc := 57) dX1_settle_57 rfl rfl (Nat.zero_le _) (Nat.zero_le _) ⟨_, rfl, _, rfl, hV8, hW11, (fun c hc => (hK2.2.1 c hc).2.2), Or.inr ⟨rfl, Or.inl (bad_of hop.2.1 hX35_0.1 hRs hce hee)⟩⟩
            · skip
              refine R_ifeq (pc := 53) 58 dX1_settle_53 (by decide) (fun _ => ?_) (fun h => absurd (by decide) h)
              refine R_iload (pc := 58) dX1_settle_58 rfl ?_
              refine R_ifne (pc := 60) 65 dX1_settle_60 (by decide) (fun _ => ?_) (fun h => absurd h (by decide))
              refine inc_5_3_1_a (pc := 65) dX1_settle_65 ?_
              have r15 : inR ((nI j35) + 1) 1 32 := inR_add (show inR (nI j35) 0 31 from hrg35) (show inR 1 1 1 from (inR_self _)) (by decide) (by decide)
              have e16 := ti_add (l := 1) (h := 32) (show inR (nI j35) 0 31 from hrg35) (show inR 1 1 1 from (inR_self _)) (by decide) (by decide)
              refine R_goto (pc := 68) 35 dX1_settle_68 (by decide) ?_
              rw [nI_1]
              exact ih35 (j35 + 1) _ _ (by omega) (by omega) hV8 hW11 ⟨⟨_, hX35_0.1, hRs, hch⟩, hK2, bn_of hop.2.2.1 (hX35_0.2.2.2.tr hRs.1.1) hne, hX35_0.2.2.2.tr hRs.1.1⟩
          · skip
            refine st_5_4_i_i (pc := 46) dX1_settle_46 ?_
            refine R_aload_n (pc := 48) dX1_settle_48 rfl rfl ?_
            refine R_iload_n (pc := 49) dX1_settle_49 rfl rfl ?_
            refine k_X1_72 (pc := 50) (gd_X1_isSomeEmpty _ D μ hV8 hK2) rfl (c_58 _) (by decide) (Nat.le_refl _) (Nat.le_refl _) (Nat.le_of_ble_eq_true rfl) dX1_settle_50 (fun x w2 h => ?_)
            rcases h with ⟨rfl, ⟨rfl, ce, hce, hee⟩ | ⟨rfl, hne⟩⟩
            · skip
              refine R_ifeq (pc := 53) 58 dX1_settle_53 (by decide) (fun h => absurd h (by decide)) (fun _ => ?_)
              refine R_iconst (pc := 56) (v := 0) dX1_settle_56 (by decide) ?_
              exact R_iret (pc := 57) dX1_settle_57 rfl rfl (Nat.zero_le _) (Nat.zero_le _) ⟨_, rfl, _, rfl, hV8, hW11, (fun c hc => (hK2.2.1 c hc).2.2), Or.inr ⟨rfl, Or.inl (bad_of hop.2.1 hX35_0.1 hRs hce hee)⟩⟩
            · skip
              refine R_ifeq (pc := 53) 58 dX1_settle_53 (by decide) (fun _ => ?_) (fun h => absurd (by decide) h)
              refine R_iload (pc := 58) dX1_settle_58 rfl ?_
              refine R_ifne (pc := 60) 65 dX1_settle_60 (by decide) (fun h => absurd (by decide) h) (fun _ => ?_)
              refine R_iconst (pc := 63) (v := 1) dX1_settle_63 (by decide) ?_
              exact R_iret (pc := 64) dX1_settle_64 rfl rfl (Nat.zero_le _) (Nat.zero_le _) ⟨_, rfl, _, rfl, hV8, hW11, (fun c hc => (hK2.2.1 c hc).2.2), Or.inl ⟨rfl, good_of hop.1 hop.2.1 hX35_0.1 hX35_0.2.2.2 hRs hch hne⟩⟩
      exact HL35 32 0 _ _ (by omega) (by omega) hI7 hC7 ⟨rfl, dt_lk hb hD hC7 (fun i hi => (hX7_0 i hi).1), hop.2.2.2, LeX.rfl' D _⟩
    | succ q ih7 =>
      intro j7 σ7 hj hs7 hI7 hC7 hX7_0 hX7_1
      have hrg7 : inR (nI j7) 0 19 := inR_ix hs7 (show j7 < 20 by omega) (by decide) (by decide) (by decide)
      have hlt7 : j7 < 20 := by omega
      refine R_iload_n (pc := 7) dX1_settle_7 rfl rfl ?_
      refine R_bipush (pc := 8) (v := 20) dX1_settle_8 (by decide) ?_
      refine R_icge (pc := 10) 33 dX1_settle_10 (by decide) (fun h => False.elim (by have q1 := ti_le h; have q2 := ti_in (show inR (nI j7) 0 19 from hrg7); have q3 := ti_in (show inR 20 20 20 from (inR_self _)); have z0 : (0 : Int32).toInt = 0 := (by decide);  have z1 : (19 : Int32).toInt = 19 := (by decide);  have z2 : (20 : Int32).toInt = 20 := (by decide); omega)) (fun _ => ?_)
      refine R_iload_n (pc := 13) dX1_settle_13 rfl rfl ?_
      refine R_iload_n (pc := 14) dX1_settle_14 rfl rfl ?_
      refine k_X1_60 (pc := 15) (sp_X8_has _ _ _) rfl (by decide) (Nat.le_refl _) (Nat.le_refl _) (Nat.le_of_ble_eq_true rfl) dX1_settle_15 (fun x w2 h => ?_)
      rcases h with ⟨rfl, ⟨hh21, rfl⟩ | ⟨hh21, rfl⟩⟩
      · skip
        have hA9 : dA D j7 = true := (hD.1 j7).trans (has_t (by omega) hh21)
        refine R_ifeq (pc := 18) 27 dX1_settle_18 (by decide) (fun h => absurd h (by decide)) (fun _ => ?_)
        refine R_aload_n (pc := 21) dX1_settle_21 rfl rfl ?_
        refine R_iload_n (pc := 22) dX1_settle_22 rfl rfl ?_
        refine R_aload_n (pc := 23) dX1_settle_23 rfl rfl ?_
        refine k_X1_64 (pc := 24) (gd_X1_openPublished_133 _ j7 hI7 (by omega)) rfl (c_58 _) (by decide) (Nat.le_refl _) (Nat.le_refl _) (Nat.le_of_ble_eq_true rfl) dX1_settle_24 (fun w2 h => ?_)
        obtain ⟨σx24, rfl, hV23, hW25, hsm, hmx, hmn⟩ := h
        have hW26 := Cor.trans hC7 hW25
        refine inc_5_3_1_a (pc := 27) dX1_settle_27 ?_
        have r27 : inR ((nI j7) + 1) 1 20 := inR_add (show inR (nI j7) 0 19 from hrg7) (show inR 1 1 1 from (inR_self _)) (by decide) (by decide)
        have e28 := ti_add (l := 1) (h := 20) (show inR (nI j7) 0 19 from hrg7) (show inR 1 1 1 from (inR_self _)) (by decide) (by decide)
        refine R_goto (pc := 30) 7 dX1_settle_30 (by decide) ?_
        rw [nI_1]
        exact ih7 (j7 + 1) _ (by omega) (by omega) hV23 hW26 (fun i hi => by rw [hsm.1, hsm.2.1, hsm.2.2.1]; exact hX7_0 i hi) (opA_t (Or.inr (Or.inr rfl)) hD hC7 hX7_1 hA9 hsm hmx hmn)
      · skip
        have hA9 : dA D j7 = false := (hD.1 j7).trans (has_f (by omega) hh21)
        refine R_ifeq (pc := 18) 27 dX1_settle_18 (by decide) (fun _ => ?_) (fun h => absurd (by decide) h)
        refine inc_5_3_1_a (pc := 27) dX1_settle_27 ?_
        have r30 : inR ((nI j7) + 1) 1 20 := inR_add (show inR (nI j7) 0 19 from hrg7) (show inR 1 1 1 from (inR_self _)) (by decide) (by decide)
        have e31 := ti_add (l := 1) (h := 20) (show inR (nI j7) 0 19 from hrg7) (show inR 1 1 1 from (inR_self _)) (by decide) (by decide)
        refine R_goto (pc := 30) 7 dX1_settle_30 (by decide) ?_
        rw [nI_1]
        exact ih7 (j7 + 1) _ (by omega) (by omega) hI7 hC7 hX7_0 (opA_f hX7_1 hA9)
  exact HL7 20 0 _ (by omega) (by omega) hV1 hW4 hfl (fun c hc => absurd hc (by omega))
