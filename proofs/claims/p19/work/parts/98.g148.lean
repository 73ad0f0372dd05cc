/-! methods on any state that keeps the invariant -/
theorem hff9 {D : Dt} {u b : Int32} {σ : Sg} (hK : LkM D u b σ) {f : Nat} (hf : f < 8) : (σ.2.2.1 156 f).toInt = dff D f ∧ (σ.2.2.1 157 f).toInt = dft D f ∧ 0 ≤ dff D f ∧ dff D f ≤ 20000 ∧ 0 ≤ dft D f ∧ dft D f ≤ 20000 := hK.2.2.2.1 f hf
theorem z0_ti : (0 : Int32).toInt = 0 := by decide
theorem z2_ti : (20000 : Int32).toInt = 20000 := by decide
theorem rng_f {v : Int32} {x : Int} (e : v.toInt = x) (h1 : 0 ≤ x) (h2 : x ≤ 20000) : inR v 0 20000 := of_ti (by rw [z0_ti, e]; exact h1) (by rw [z2_ti, e]; exact h2)
theorem idx8m {c f : Nat} (hc : c < 20) (hf : f < 8) : (8 * nI c + nI f).toNatClampNeg = 8 * c + f := by
  have : ∀ (c : Fin 20) (f : Fin 8), (8 * nI c.val + nI f.val).toNatClampNeg = 8 * c.val + f.val := by decide +kernel
  exact this ⟨c, hc⟩ ⟨f, hf⟩
theorem idx6m {k : Nat} (hk : k < 8) : (6 * nI k).toNatClampNeg = 6 * k ∧ (6 * nI k + 3).toNatClampNeg = 6 * k + 3 ∧ (6 * nI k + 4).toNatClampNeg = 6 * k + 4 ∧ (6 * nI k + 5).toNatClampNeg = 6 * k + 5 ∧ (6 * nI k + 1).toNatClampNeg = 6 * k + 1 ∧ (6 * nI k + 2).toNatClampNeg = 6 * k + 2 := by
  have : ∀ k : Fin 8, (6 * nI k.val).toNatClampNeg = 6 * k.val ∧ (6 * nI k.val + 3).toNatClampNeg = 6 * k.val + 3 ∧ (6 * nI k.val + 4).toNatClampNeg = 6 * k.val + 4 ∧ (6 * nI k.val + 5).toNatClampNeg = 6 * k.val + 5 ∧ (6 * nI k.val + 1).toNatClampNeg = 6 * k.val + 1 ∧ (6 * nI k.val + 2).toNatClampNeg = 6 * k.val + 2 := by decide +kernel
  exact this ⟨k, hk⟩
def ImA (D : Dt) (b : Int32) (σ : Sg) (Y : Xs) (c j : Nat) : Prop := (∀ v, ImI b σ c j v → v ≤ yf Y c) ∧ (∀ v, ImJ b σ c j v → yt Y c ≤ v)
theorem ima_f {D : Dt} {b : Int32} {σ : Sg} {Y Z : Xs} {c j : Nat} (h : ImA D b σ Y c j) (hc : dA D c = true) (k : LeX D Y Z) (hn : b = 0 ∨ ¬ LmF σ c j) : ImA D b σ Z c (j + 1) := by
  have q := k c hc
  refine ⟨fun v hv => ?_, fun v hv => ?_⟩
  · have : ImI b σ c j v := by
      rcases hv with e | ⟨i, h1, h2, h3, h4⟩
      · exact Or.inl e
      · by_cases e : i = j
        · rw [e] at h3; exact absurd (hn.resolve_left h1) (fun s => s h3)
        · exact Or.inr ⟨i, h1, by omega, h3, h4⟩
    have := h.1 v this
    omega
  · have : ImJ b σ c j v := by
      rcases hv with e | e | ⟨i, h1, h2, h3, h4⟩
      · exact Or.inl e
      · exact Or.inr (Or.inl e)
      · by_cases e : i = j
        · rw [e] at h3; exact absurd (hn.resolve_left h1) (fun s => s h3)
        · exact Or.inr (Or.inr ⟨i, h1, by omega, h3, h4⟩)
    have := h.2 v this
    omega
theorem ima_t {D : Dt} {b : Int32} {σ : Sg} {Y Z : Xs} {c j : Nat} (h : ImA D b σ Y c j) (hc : dA D c = true) (k : LeX D Y Z) (h1 : (σ.2.2.1 172 (6 * j + 4)).toInt ≤ yf Z c) (h2 : yt Z c ≤ (σ.2.2.1 172 (6 * j + 5)).toInt) : ImA D b σ Z c (j + 1) := by
  have q := k c hc
  refine ⟨fun v hv => ?_, fun v hv => ?_⟩
  · rcases hv with e | ⟨i, h3, h4, h5, h6⟩
    · have := h.1 v (Or.inl e); omega
    · by_cases e : i = j
      · rw [e] at h6; omega
      · have := h.1 v (Or.inr ⟨i, h3, by omega, h5, h6⟩); omega
  · rcases hv with e | e | ⟨i, h3, h4, h5, h6⟩
    · have := h.2 v (Or.inl e); omega
    · have := h.2 v (Or.inr (Or.inl e)); omega
    · by_cases e : i = j
      · rw [e] at h6; omega
      · have := h.2 v (Or.inr (Or.inr ⟨i, h3, by omega, h5, h6⟩)); omega
theorem ima_0 {D : Dt} {b : Int32} {σ : Sg} {X1 X2 X3 : Xs} {c : Nat} {d1 d2 d3 : Int} (hc : dA D c = true) (k2 : LeX D X1 X2) (k3 : LeX D X2 X3) (e1 : d1 = (σ.2.2.1 159 (σ.2.2.1 144 c).toNatClampNeg).toInt) (e2 : d2 = (σ.2.2.1 160 (σ.2.2.1 144 c).toNatClampNeg).toInt) (h1 : d1 ≤ yf X1 c) (h2 : yt X1 c ≤ d2) (h3 : σ.2.2.1 147 c = -1 ∨ d3 = (σ.2.2.1 147 c).toInt) (h4 : ¬ σ.2.2.1 147 c = -1 → yt X2 c ≤ d3) : ImA D b σ X3 c 0 := by
  have q2 := k2 c hc
  have q3 := k3 c hc
  refine ⟨fun v hv => ?_, fun v hv => ?_⟩
  · rcases hv with e | ⟨i, _, h, -⟩
    · omega
    · omega
  · rcases hv with e | e | ⟨i, _, h, -⟩
    · omega
    · have r := h4 e.1
      have r2 := h3.resolve_left e.1
      omega
    · omega
set_option maxRecDepth 100000 in
set_option maxHeartbeats 40000000 in
theorem ge_X9_isOf {G : vG} {l : Launch} (σ : Sg) (c k : Nat)  (hI : Inv σ) (hc : c < 20) (hk : k < 8) : Sp G l yX9_isOf cX9_isOf 3 (some .boolean) 1 0 0 [.ref 140, .int (nI c), .int (6 * (nI k))] (WW σ) (QI (fun x w2 => w2 = WW σ ∧ ((decide (σ.2.2.1 172 (6 * k) = σ.2.2.1 142 c) && inB (σ.2.2.1 143 c) (σ.2.2.1 172 (6 * k + 1)) (σ.2.2.1 172 (6 * k + 2))) = true ∧ x = 1 ∨ (decide (σ.2.2.1 172 (6 * k) = σ.2.2.1 142 c) && inB (σ.2.2.1 143 c) (σ.2.2.1 172 (6 * k + 1)) (σ.2.2.1 172 (6 * k + 2))) = false ∧ x = 0))) := by
  refine Sp_of_R [(some (.ref 140)), (some (.int (nI c))), (some (.int (6 * (nI k))))] [] rfl (by simp) rfl (Nat.le_of_ble_eq_true rfl) ?_
  refine R_aload_n (pc := 0) dX9_isOf_0 rfl rfl ?_
  refine g_X9_114 (pc := 1) (v := .ref 172) rfl dX9_isOf_1 (c_140 _) rfl ?_
  refine R_iload_n (pc := 4) dX9_isOf_4 rfl rfl ?_
  have hx1 : vp_in (6 * (nI k)) 48 := (vp_of_inR (show inR (6 * nI k) 0 42 from by rw [show (6 : Int32) * nI k = nI (6 * k) from (Int32.ofNat_mul 6 k).symm]; exact inR_nI (M := 42) (by omega) (by decide)) (by decide))
  refine R_iaload (pc := 5) dX9_isOf_5 (c_172 _) hx1 ?_
  refine R_aload_n (pc := 6) dX9_isOf_6 rfl rfl ?_
  refine g_X9_13 (pc := 7) (v := .ref 142) rfl dX9_isOf_7 (c_140 _) rfl ?_
  refine R_iload_n (pc := 10) dX9_isOf_10 rfl rfl ?_
  have hx2 : vp_in (nI c) 20 := (vp_of_inR (show inR (nI c) 0 19 from inR_nI (M := 19) (by omega) (by decide)) (by decide))
  refine R_iaload (pc := 11) dX9_isOf_11 (c_142 _) hx2 ?_
  refine R_icne (pc := 12) 47 dX9_isOf_12 (by decide) (fun b12_3 => ?_) (fun b12_3 => ?_)
  · skip
    refine R_iconst (pc := 47) (v := 0) dX9_isOf_47 (by decide) ?_
    exact R_iret (pc := 48) dX9_isOf_48 rfl rfl (Nat.zero_le _) (Nat.zero_le _) ⟨_, rfl, rfl, Or.inr ⟨(by rw [decide_eq_false (show ¬ σ.2.2.1 172 (6 * k) = σ.2.2.1 142 c from by have q := b12_3; rw [(idx6m (by omega)).1, nI_clamp (by omega)] at q; exact q)]; rfl), rfl⟩⟩
  · skip
    refine R_aload_n (pc := 15) dX9_isOf_15 rfl rfl ?_
    refine g_X9_16 (pc := 16) (v := .ref 143) rfl dX9_isOf_16 (c_140 _) rfl ?_
    refine R_iload_n (pc := 19) dX9_isOf_19 rfl rfl ?_
    have hx4 : vp_in (nI c) 20 := (vp_of_inR (show inR (nI c) 0 19 from inR_nI (M := 19) (by omega) (by decide)) (by decide))
    refine R_iaload (pc := 20) dX9_isOf_20 (c_143 _) hx4 ?_
    refine R_aload_n (pc := 21) dX9_isOf_21 rfl rfl ?_
    refine g_X9_114 (pc := 22) (v := .ref 172) rfl dX9_isOf_22 (c_140 _) rfl ?_
    refine R_iload_n (pc := 25) dX9_isOf_25 rfl rfl ?_
    refine R_iconst (pc := 26) (v := 1) dX9_isOf_26 (by decide) ?_
    refine R_iadd (pc := 27) dX9_isOf_27 ?_
    have r5 : inR ((6 * (nI k)) + 1) 1 43 := inR_add (show inR (6 * (nI k)) 0 42 from (show inR (6 * nI k) 0 42 from by rw [show (6 : Int32) * nI k = nI (6 * k) from (Int32.ofNat_mul 6 k).symm]; exact inR_nI (M := 42) (by omega) (by decide))) (show inR 1 1 1 from (inR_self _)) (by decide) (by decide)
    have e6 := ti_add (l := 1) (h := 43) (show inR (6 * (nI k)) 0 42 from (show inR (6 * nI k) 0 42 from by rw [show (6 : Int32) * nI k = nI (6 * k) from (Int32.ofNat_mul 6 k).symm]; exact inR_nI (M := 42) (by omega) (by decide))) (show inR 1 1 1 from (inR_self _)) (by decide) (by decide)
    have hx7 : vp_in ((6 * (nI k)) + 1) 48 := (vp_ti (by have q0 := e6; have q1 := ti_eq b12_3; have q2 := ti_in (show inR (nI c) 0 19 from inR_nI (M := 19) (by omega) (by decide)); have q3 := ti_in (show inR (6 * nI k) 0 42 from by rw [show (6 : Int32) * nI k = nI (6 * k) from (Int32.ofNat_mul 6 k).symm]; exact inR_nI (M := 42) (by omega) (by decide)); have q4 := ti_in r5; have z0 : (0 : Int32).toInt = 0 := (by decide); have z1 : (1 : Int32).toInt = 1 := (by decide); have z2 : (142 : Int32).toInt = 142 := (by decide); have z3 : (172 : Int32).toInt = 172 := (by decide); have z4 : (19 : Int32).toInt = 19 := (by decide); have z5 : (42 : Int32).toInt = 42 := (by decide); have z6 : (43 : Int32).toInt = 43 := (by decide); have z7 : (6 : Int32).toInt = 6 := (by decide); omega) (by have q0 := e6; have q1 := ti_eq b12_3; have q2 := ti_in (show inR (nI c) 0 19 from inR_nI (M := 19) (by omega) (by decide)); have q3 := ti_in (show inR (6 * nI k) 0 42 from by rw [show (6 : Int32) * nI k = nI (6 * k) from (Int32.ofNat_mul 6 k).symm]; exact inR_nI (M := 42) (by omega) (by decide)); have q4 := ti_in r5; have z0 : (0 : Int32).toInt = 0 := (by decide); have z1 : (1 : Int32).toInt = 1 := (by decide); have z2 : (142 : Int32).toInt = 142 := (by decide); have z3 : (172 : Int32).toInt = 172 := (by decide); have z4 : (19 : Int32).toInt = 19 := (by decide); have z5 : (42 : Int32).toInt = 42 := (by decide); have z6 : (43 : Int32).toInt = 43 := (by decide); have z7 : (6 : Int32).toInt = 6 := (by decide); omega))
    refine R_iaload (pc := 28) dX9_isOf_28 (c_172 _) hx7 ?_
    refine R_aload_n (pc := 29) dX9_isOf_29 rfl rfl ?_
    refine g_X9_114 (pc := 30) (v := .ref 172) rfl dX9_isOf_30 (c_140 _) rfl ?_
    refine R_iload_n (pc := 33) dX9_isOf_33 rfl rfl ?_
    refine R_iconst (pc := 34) (v := 2) dX9_isOf_34 (by decide) ?_
    refine R_iadd (pc := 35) dX9_isOf_35 ?_
    have r8 : inR ((6 * (nI k)) + 2) 2 44 := inR_add (show inR (6 * (nI k)) 0 42 from (show inR (6 * nI k) 0 42 from by rw [show (6 : Int32) * nI k = nI (6 * k) from (Int32.ofNat_mul 6 k).symm]; exact inR_nI (M := 42) (by omega) (by decide))) (show inR 2 2 2 from (inR_self _)) (by decide) (by decide)
    have e9 := ti_add (l := 2) (h := 44) (show inR (6 * (nI k)) 0 42 from (show inR (6 * nI k) 0 42 from by rw [show (6 : Int32) * nI k = nI (6 * k) from (Int32.ofNat_mul 6 k).symm]; exact inR_nI (M := 42) (by omega) (by decide))) (show inR 2 2 2 from (inR_self _)) (by decide) (by decide)
    have hx10 : vp_in ((6 * (nI k)) + 2) 48 := (vp_ti (by have q0 := e6; have q1 := e9; have q2 := ti_eq b12_3; have q3 := ti_in (show inR (nI c) 0 19 from inR_nI (M := 19) (by omega) (by decide)); have q4 := ti_in (show inR (6 * nI k) 0 42 from by rw [show (6 : Int32) * nI k = nI (6 * k) from (Int32.ofNat_mul 6 k).symm]; exact inR_nI (M := 42) (by omega) (by decide)); have q5 := ti_in r5; have q6 := ti_in r8; have z0 : (0 : Int32).toInt = 0 := (by decide); have z1 : (1 : Int32).toInt = 1 := (by decide); have z2 : (142 : Int32).toInt = 142 := (by decide); have z3 : (172 : Int32).toInt = 172 := (by decide); have z4 : (19 : Int32).toInt = 19 := (by decide); have z5 : (2 : Int32).toInt = 2 := (by decide); have z6 : (42 : Int32).toInt = 42 := (by decide); have z7 : (43 : Int32).toInt = 43 := (by decide); have z8 : (44 : Int32).toInt = 44 := (by decide); have z9 : (6 : Int32).toInt = 6 := (by decide); omega) (by have q0 := e6; have q1 := e9; have q2 := ti_eq b12_3; have q3 := ti_in (show inR (nI c) 0 19 from inR_nI (M := 19) (by omega) (by decide)); have q4 := ti_in (show inR (6 * nI k) 0 42 from by rw [show (6 : Int32) * nI k = nI (6 * k) from (Int32.ofNat_mul 6 k).symm]; exact inR_nI (M := 42) (by omega) (by decide)); have q5 := ti_in r5; have q6 := ti_in r8; have z0 : (0 : Int32).toInt = 0 := (by decide); have z1 : (1 : Int32).toInt = 1 := (by decide); have z2 : (142 : Int32).toInt = 142 := (by decide); have z3 : (172 : Int32).toInt = 172 := (by decide); have z4 : (19 : Int32).toInt = 19 := (by decide); have z5 : (2 : Int32).toInt = 2 := (by decide); have z6 : (42 : Int32).toInt = 42 := (by decide); have z7 : (43 : Int32).toInt = 43 := (by decide); have z8 : (44 : Int32).toInt = 44 := (by decide); have z9 : (6 : Int32).toInt = 6 := (by decide); omega))
    refine R_iaload (pc := 36) dX9_isOf_36 (c_172 _) hx10 ?_
    refine k_X9_124 (pc := 37) (sp_X9_in _ _ _ _) rfl (by decide) (Nat.le_refl _) (Nat.le_refl _) (Nat.le_of_ble_eq_true rfl) dX9_isOf_37 (fun x w2 h => ?_)
    rcases h with ⟨rfl, ⟨h11, rfl⟩ | ⟨h11, rfl⟩⟩
    · skip
      refine R_ifeq (pc := 40) 47 dX9_isOf_40 (by decide) (fun h => absurd h (by decide)) (fun _ => ?_)
      refine R_iconst (pc := 43) (v := 1) dX9_isOf_43 (by decide) ?_
      refine R_goto (pc := 44) 48 dX9_isOf_44 (by decide) ?_
      exact R_iret (pc := 48) dX9_isOf_48 rfl rfl (Nat.zero_le _) (Nat.zero_le _) ⟨_, rfl, rfl, Or.inl ⟨(by rw [decide_eq_true (show σ.2.2.1 172 (6 * k) = σ.2.2.1 142 c from by have q := b12_3; rw [(idx6m (by omega)).1, nI_clamp (by omega)] at q; exact q), (show inB (σ.2.2.1 143 c) (σ.2.2.1 172 (6 * k + 1)) (σ.2.2.1 172 (6 * k + 2)) = true from by have q := inB_t h11; rw [(idx6m (by omega)).2.2.2.2.1, (idx6m (by omega)).2.2.2.2.2, nI_clamp (by omega)] at q; exact q)]; rfl), rfl⟩⟩
    · skip
      refine R_ifeq (pc := 40) 47 dX9_isOf_40 (by decide) (fun _ => ?_) (fun h => absurd (by decide) h)
      refine R_iconst (pc := 47) (v := 0) dX9_isOf_47 (by decide) ?_
      exact R_iret (pc := 48) dX9_isOf_48 rfl rfl (Nat.zero_le _) (Nat.zero_le _) ⟨_, rfl, rfl, Or.inr ⟨(by rw [decide_eq_true (show σ.2.2.1 172 (6 * k) = σ.2.2.1 142 c from by have q := b12_3; rw [(idx6m (by omega)).1, nI_clamp (by omega)] at q; exact q), (show inB (σ.2.2.1 143 c) (σ.2.2.1 172 (6 * k + 1)) (σ.2.2.1 172 (6 * k + 2)) = false from by have q := inB_f h11; rw [(idx6m (by omega)).2.2.2.2.1, (idx6m (by omega)).2.2.2.2.2, nI_clamp (by omega)] at q; exact q)]; rfl), rfl⟩⟩
theorem lmf_b {σ τ : Sg} {c k : Nat} (h : Cor σ τ) (e : LmF σ c k) : (decide (τ.2.2.1 172 (6 * k) = τ.2.2.1 142 c) && inB (τ.2.2.1 143 c) (τ.2.2.1 172 (6 * k + 1)) (τ.2.2.1 172 (6 * k + 2))) = true := by
  rw [h.2.2.1 172 rfl, h.2.2.1 142 rfl, h.2.2.1 143 rfl, decide_eq_true e.2.1, e.2.2]; rfl
theorem lmf_t {σ τ : Sg} {c k : Nat} (h : Cor σ τ) (h1 : τ.2.2.1 172 (6 * k + 3) = 1) (e : (decide (τ.2.2.1 172 (6 * k) = τ.2.2.1 142 c) && inB (τ.2.2.1 143 c) (τ.2.2.1 172 (6 * k + 1)) (τ.2.2.1 172 (6 * k + 2))) = true) : LmF σ c k := by
  rw [h.2.2.1 172 rfl, h.2.2.1 142 rfl, h.2.2.1 143 rfl] at e
  rw [h.2.2.1 172 rfl] at h1
  simp only [Bool.and_eq_true, decide_eq_true_eq] at e
  exact ⟨h1, e.1, e.2⟩
theorem ltl_of {n : Nat} {a : Int32} (hr : inR a 0 8) (h : nI n < a) (hn : n < 1000) : n < a.toNatClampNeg := by
  obtain ⟨k, hk, rfl⟩ := nI_inR (M := 8) hr (by decide)
  rw [nI_clamp (by omega)]
  exact nI_lts (by omega) (by omega) h
theorem lel_of {n : Nat} {a : Int32} (hr : inR a 0 8) (h : a ≤ nI n) (hn : n < 1000) : a.toNatClampNeg ≤ n := by
  obtain ⟨k, hk, rfl⟩ := nI_inR (M := 8) hr (by decide)
  rw [nI_clamp (by omega)]
  exact nI_les (by omega) (by omega) h
theorem ima_le {D : Dt} {b : Int32} {σ : Sg} {Y : Xs} {c j n : Nat} (h : ImA D b σ Y c j) (hn : n ≤ j) : ImA D b σ Y c n := by
  refine ⟨fun v hv => h.1 v ?_, fun v hv => h.2 v ?_⟩
  · rcases hv with e | ⟨i, h1, h2, h3⟩
    · exact Or.inl e
    · exact Or.inr ⟨i, h1, by omega, h3⟩
  · rcases hv with e | e | ⟨i, h1, h2, h3⟩
    · exact Or.inl e
    · exact Or.inr (Or.inl e)
    · exact Or.inr (Or.inr ⟨i, h1, by omega, h3⟩)
theorem ima_b0 {D : Dt} {σ : Sg} {Y : Xs} {c j n : Nat} {b : Int32} (hb : b = 0) (h : ImA D b σ Y c j) : ImA D b σ Y c n := by
  refine ⟨fun v hv => h.1 v ?_, fun v hv => h.2 v ?_⟩
  · rcases hv with e | ⟨i, h1, h2, h3⟩
    · exact Or.inl e
    · exact absurd hb h1
  · rcases hv with e | e | ⟨i, h1, h2, h3⟩
    · exact Or.inl e
    · exact Or.inr (Or.inl e)
    · exact absurd hb h1
theorem rc_m {D : Dt} {X0 X1 X2 X3 X4 : Xs} {c : Nat} (hc : dA D c = true) (k1 : LeX D X0 X1) (k2 : LeX D X1 X2) (k3 : LeX D X2 X3) (k4 : LeX D X3 X4) (hR : ∀ f, f < 8 → Rf D X0 X1 c f) (h1 : xf X2 (dg D c) ≤ yf X3 c) (h2 : xt X4 (dg D c) ≤ yt X3 c) : Rc D X0 X4 c := by
  have a1 := k1 c hc
  have a2 := k2 c hc
  have a3 := k3 c hc
  have a4 := k4 c hc
  exact ⟨by omega, by omega, fun f hf => (hR f hf).up hc ((k2.tr k3).tr k4)⟩
set_option maxRecDepth 100000 in
set_option maxHeartbeats 40000000 in
theorem gd_X9_narrow {G : vG} {l : Launch} (σ : Sg) (D : Dt) (u b : Int32) (c : Nat)  (hI : Inv σ) (hK : LkM D u b σ) (hB : BnX D (XM σ) 1) (hc : dA D c = true) : Sp G l yX9_narrow cX9_narrow 5 none 2 0 0 [.ref 140, .int (nI c), .int b] (WW σ) (QV (fun w2 => ∃ σ2, w2 = WW σ2 ∧ Inv σ2 ∧ Cor σ σ2 ∧ StM D σ σ2 ∧ BnX D (XM σ2) 1 ∧ RcM D (XM σ) (XM σ2) c)) := by
  refine Sp_of_R [(some (.ref 140)), (some (.int (nI c))), (some (.int b)), none, none] [none, none] rfl (by simp) rfl (Nat.le_of_ble_eq_true rfl) ?_
  have hc20 : c < 20 := (hK.2.1 c hc).1
  refine R_aload_n (pc := 0) dX9_narrow_0 rfl rfl ?_
  refine g_X9_54 (pc := 1) (v := .ref 152) rfl dX9_narrow_1 (c_140 _) rfl ?_
  refine R_iload_n (pc := 4) dX9_narrow_4 rfl rfl ?_
  have hx1 : vp_in (nI c) 20 := (vp_of_inR (show inR (nI c) 0 19 from inR_nI (M := 19) (by omega) (by decide)) (by decide))
  refine R_iaload (pc := 5) dX9_narrow_5 (c_152 _) hx1 ?_
  refine R_cv (nI (dg D c)) (by show (σ.2.2.1 152 (Int32.toNatClampNeg (nI c))) = _; rw [nI_clamp (by omega)]; exact (hK.2.1 c hc).2.2) ?_
  refine st_5_3_i_i (pc := 6) dX9_narrow_6 ?_
  refine R_iconst (pc := 7) (v := 0) dX9_narrow_7 (by decide) ?_
  refine st_5_4_i_i (pc := 8) dX9_narrow_8 ?_
  have HL10 : ∀ (q j10 : Nat) (σ10 : Sg), j10 + q = 8 → 0 ≤ j10 → Inv σ10 → Cor σ σ10 → (StM D σ σ10 ∧ BnX D (XM σ10) 1) → (∀ f, f < j10 → Rf D (XM σ) (XM σ10) c f) → R G l yX9_narrow cX9_narrow 5 none 2 0 0 (QV (fun w2 => ∃ σ2, w2 = WW σ2 ∧ Inv σ2 ∧ Cor σ σ2 ∧ StM D σ σ2 ∧ BnX D (XM σ2) 1 ∧ RcM D (XM σ) (XM σ2) c)) 10 [(some (.ref 140)), (some (.int (nI c))), (some (.int b)), (some (.int (nI (dg D c)))), (some (.int (nI j10)))] [] (WW σ10) 0 0 := by
    intro q
    induction q with
    | zero =>
      intro j10 σ10 hj hs10 hI10 hC10 hX10_0 hX10_1
      obtain rfl : j10 = 8 := by omega
      refine R_iload (pc := 10) dX9_narrow_10 rfl ?_
      refine R_bipush (pc := 12) (v := 8) dX9_narrow_12 (by decide) ?_
      refine R_icge (pc := 14) 167 dX9_narrow_14 (by decide) (fun _ => ?_) (fun h => absurd (by decide) h)
      refine R_aload_n (pc := 167) dX9_narrow_167 rfl rfl ?_
      refine R_iload_n (pc := 168) dX9_narrow_168 rfl rfl ?_
      refine R_aload_n (pc := 169) dX9_narrow_169 rfl rfl ?_
      refine g_X9_75 (pc := 170) (v := .ref 159) rfl dX9_narrow_170 (c_140 _) rfl ?_
      refine R_aload_n (pc := 173) dX9_narrow_173 rfl rfl ?_
      refine g_X9_19 (pc := 174) (v := .ref 144) rfl dX9_narrow_174 (c_140 _) rfl ?_
      refine R_iload_n (pc := 177) dX9_narrow_177 rfl rfl ?_
      have hx3 : vp_in (nI c) 20 := (vp_of_inR (show inR (nI c) 0 19 from inR_nI (M := 19) (by omega) (by decide)) (by decide))
      refine R_iaload (pc := 178) dX9_narrow_178 (c_144 _) hx3 ?_
      have hx4 : vp_in (σ10.2.2.1 144 (Int32.toNatClampNeg (nI c))) 5 := (vp_of_inR (iva_144 hI10 _ (lt_of_vp hx3)) (by decide))
      refine R_iaload (pc := 179) dX9_narrow_179 (c_159 _) hx4 ?_
      refine R_aload_n (pc := 180) dX9_narrow_180 rfl rfl ?_
      refine g_X9_78 (pc := 181) (v := .ref 160) rfl dX9_narrow_181 (c_140 _) rfl ?_
      refine R_aload_n (pc := 184) dX9_narrow_184 rfl rfl ?_
      refine g_X9_19 (pc := 185) (v := .ref 144) rfl dX9_narrow_185 (c_140 _) rfl ?_
      refine R_iload_n (pc := 188) dX9_narrow_188 rfl rfl ?_
      have hx5 : vp_in (nI c) 20 := (vp_of_inR (show inR (nI c) 0 19 from inR_nI (M := 19) (by omega) (by decide)) (by decide))
      refine R_iaload (pc := 189) dX9_narrow_189 (c_144 _) hx5 ?_
      have hx6 : vp_in (σ10.2.2.1 144 (Int32.toNatClampNeg (nI c))) 5 := (vp_of_inR (iva_144 hI10 _ (lt_of_vp hx3)) (by decide))
      refine R_iaload (pc := 190) dX9_narrow_190 (c_160 _) hx6 ?_
      have heb1 : (σ10.2.2.1 159 (Int32.toNatClampNeg (σ10.2.2.1 144 (Int32.toNatClampNeg (nI c))))).toInt = (σ.2.2.1 159 (σ.2.2.1 144 c).toNatClampNeg).toInt := by rw [nI_clamp (show c < 2 ^ 31 by omega), congrFun (hC10.2.2.1 144 rfl) c, congrFun (hC10.2.2.1 159 rfl) _]
      have heb2 : (σ10.2.2.1 160 (Int32.toNatClampNeg (σ10.2.2.1 144 (Int32.toNatClampNeg (nI c))))).toInt = (σ.2.2.1 160 (σ.2.2.1 144 c).toNatClampNeg).toInt := by rw [nI_clamp (show c < 2 ^ 31 by omega), congrFun (hC10.2.2.1 144 rfl) c, congrFun (hC10.2.2.1 160 rfl) _]
      refine k_X9_212 (pc := 191) (ge_X9_outIn _ _ _ _ hI10 (show inR (nI c) 0 19 from inR_nI (M := 19) (by omega) (by decide))) rfl (c_140 _) (by decide) (Nat.le_refl _) (Nat.le_refl _) (Nat.le_of_ble_eq_true rfl) dX9_narrow_191 (fun w2 h => ?_)
      obtain ⟨σx8, rfl, hV7, hW9, he10⟩ := h
      have hW12 := Cor.trans hC10 hW9
      have hS11 := stM_o (D := D) (c := c) (m := 1) he10 (nI_clamp (by omega)) hc (fun Z hZ _ => by rw [heb1]; exact (hZ.1 c hc).2.2.1 _ ((hK.2.2.2.2.2.1 c _ hc).1.mpr (Or.inl rfl))) (fun Z hZ _ => by rw [heb2]; exact (hZ.1 c hc).2.2.2 _ ((hK.2.2.2.2.2.1 c _ hc).2.mpr (Or.inl rfl))) (by rw [heb1]; have := ((hK.2.2.2.2.2.2 c _ hc).1 ((hK.2.2.2.2.2.1 c _ hc).1.mpr (Or.inl rfl))); omega) (by rw [heb2]; have := ((hK.2.2.2.2.2.2 c _ hc).2 ((hK.2.2.2.2.2.1 c _ hc).2.mpr (Or.inl rfl))); omega)
      have hT13 := StM.tr hX10_0.1 hS11.1
      have hB14 := hS11.2.2 hX10_0.2
      have hK15 := lkm_st (lkm_st hK hC10 hX10_0.1.2.2) hW9 hS11.1.2.2
      have hM1 := hS11.2.1
      have hM1e := hS11.1.1.1
      refine R_aload_n (pc := 194) dX9_narrow_194 rfl rfl ?_
      refine R_iload_n (pc := 195) dX9_narrow_195 rfl rfl ?_
      refine R_aload_n (pc := 196) dX9_narrow_196 rfl rfl ?_
      refine g_X9_87 (pc := 197) (v := .ref 163) rfl dX9_narrow_197 (c_140 _) rfl ?_
      refine R_iload_n (pc := 200) dX9_narrow_200 rfl rfl ?_
      have hx16 : vp_in (nI (dg D c)) 20 := (vp_of_inR (show inR (nI (dg D c)) 0 19 from inR_nI (M := 19) (Nat.le_of_lt_succ (hK.2.1 c hc).2.1) (by decide)) (by decide))
      refine R_iaload (pc := 201) dX9_narrow_201 (c_163 _) hx16 ?_
      refine R_cv (σx8.2.2.1 163 (dg D c)) (by rw [nI_clamp (by have q := (hK.2.1 c hc).2.1; omega)]) ?_
      refine R_aload_n (pc := 202) dX9_narrow_202 rfl rfl ?_
      refine g_X9_29 (pc := 203) (v := .ref 147) rfl dX9_narrow_203 (c_140 _) rfl ?_
      refine R_iload_n (pc := 206) dX9_narrow_206 rfl rfl ?_
      have hx17 : vp_in (nI c) 20 := (vp_of_inR (show inR (nI c) 0 19 from inR_nI (M := 19) (by omega) (by decide)) (by decide))
      refine R_iaload (pc := 207) dX9_narrow_207 (c_147 _) hx17 ?_
      refine R_iconst (pc := 208) (v := (-1)) dX9_narrow_208 (by decide) ?_
      refine R_icne (pc := 209) 218 dX9_narrow_209 (by decide) (fun b209_18 => ?_) (fun b209_18 => ?_)
      · skip
        have hpo : ¬ σ.2.2.1 147 c = -1 := by have q := b209_18; rw [nI_clamp (by omega), congrFun (hW12.2.2.1 147 rfl) c] at q; exact q
        refine R_aload_n (pc := 218) dX9_narrow_218 rfl rfl ?_
        refine g_X9_29 (pc := 219) (v := .ref 147) rfl dX9_narrow_219 (c_140 _) rfl ?_
        refine R_iload_n (pc := 222) dX9_narrow_222 rfl rfl ?_
        have hx19 : vp_in (nI c) 20 := (vp_of_inR (show inR (nI c) 0 19 from inR_nI (M := 19) (by omega) (by decide)) (by decide))
        refine R_iaload (pc := 223) dX9_narrow_223 (c_147 _) hx19 ?_
        have hep : (σx8.2.2.1 147 (Int32.toNatClampNeg (nI c))).toInt = (σ.2.2.1 147 c).toInt := by rw [nI_clamp (show c < 2 ^ 31 by omega), congrFun (hW12.2.2.1 147 rfl) c]
        refine k_X9_212 (pc := 224) (ge_X9_outIn _ _ _ _ hV7 (show inR (nI c) 0 19 from inR_nI (M := 19) (by omega) (by decide))) rfl (c_140 _) (by decide) (Nat.le_refl _) (Nat.le_refl _) (Nat.le_of_ble_eq_true rfl) dX9_narrow_224 (fun w2 h => ?_)
        obtain ⟨σx21, rfl, hV20, hW22, he23⟩ := h
        have hW25 := Cor.trans hW12 hW22
        have hS24 := stM_o (D := D) (c := c) (m := 1) he23 (nI_clamp (by omega)) hc (fun Z hZ hle => Int.le_trans (hle c hc).1 (hZ.2 c hc).1) (fun Z hZ _ => by rw [hep]; exact (hZ.1 c hc).2.2.2 _ ((hK.2.2.2.2.2.1 c _ hc).2.mpr (Or.inr (Or.inl ⟨hpo, rfl⟩)))) (hB14 c hc).1 (by rw [hep]; have := ((hK.2.2.2.2.2.2 c _ hc).2 ((hK.2.2.2.2.2.1 c _ hc).2.mpr (Or.inr (Or.inl ⟨hpo, rfl⟩)))); omega)
        have hT26 := StM.tr hT13 hS24.1
        have hB27 := hS24.2.2 hB14
        have hK28 := lkm_st hK15 hW22 hS24.1.2.2
        have hM2 := hS24.2.1
        have hM2e := hS24.1.1.1
        refine R_aload_n (pc := 227) dX9_narrow_227 rfl rfl ?_
        refine R_iload_n (pc := 228) dX9_narrow_228 rfl rfl ?_
        refine R_iconst (pc := 229) (v := 0) dX9_narrow_229 (by decide) ?_
        refine R_aload_n (pc := 230) dX9_narrow_230 rfl rfl ?_
        refine g_X9_96 (pc := 231) (v := .ref 166) rfl dX9_narrow_231 (c_140 _) rfl ?_
        refine R_iload_n (pc := 234) dX9_narrow_234 rfl rfl ?_
        have hx29 : vp_in (nI c) 20 := (vp_of_inR (show inR (nI c) 0 19 from inR_nI (M := 19) (by omega) (by decide)) (by decide))
        refine R_iaload (pc := 235) dX9_narrow_235 (c_166 _) hx29 ?_
        refine R_cv (σx21.2.2.1 166 c) (by rw [nI_clamp (by omega)]) ?_
        refine k_X9_208 (pc := 236) (ge_X9_takenIn _ _ _ _ hV20 (show inR (nI (dg D c)) 0 19 from inR_nI (M := 19) (Nat.le_of_lt_succ (hK.2.1 c hc).2.1) (by decide))) rfl (c_140 _) (by decide) (Nat.le_refl _) (Nat.le_refl _) (Nat.le_of_ble_eq_true rfl) dX9_narrow_236 (fun w2 h => ?_)
        obtain ⟨σx31, rfl, hV30, hW32, he33⟩ := h
        have hW35 := Cor.trans hW25 hW32
        have hS34 := stM_t (D := D) (c := c) (m := 1) he33 (nI_clamp (by have q := (hK.2.1 c hc).2.1; omega)) hc (fun Z hZ _ => by rw [z0_ti]; exact (hZ.1 c hc).1) (fun Z hZ hle => Int.le_trans (hZ.2 c hc).2.1 (hle c hc).2.2.2) (by rw [z0_ti]; omega) (hB27 c hc).2.2.2
        have hT36 := StM.tr hT26 hS34.1
        have hB37 := hS34.2.2 hB27
        have hK38 := lkm_st hK28 hW32 hS34.1.2.2
        have hM3 := hS34.2.1
        have hM3e := hS34.1.1.1
        refine R_iconst (pc := 239) (v := 0) dX9_narrow_239 (by decide) ?_
        refine st_5_4_i_i (pc := 240) dX9_narrow_240 ?_
        have HL242 : ∀ (q j242 : Nat) (σ242 : Sg), j242 + q = 8 → 0 ≤ j242 → Inv σ242 → Cor σ σ242 → (StM D σ σ242 ∧ BnX D (XM σ242) 1) → Rc D (XM σ) (XM σ242) c → ImA D b σ (XM σ242) c j242 → R G l yX9_narrow cX9_narrow 5 none 2 0 0 (QV (fun w2 => ∃ σ2, w2 = WW σ2 ∧ Inv σ2 ∧ Cor σ σ2 ∧ StM D σ σ2 ∧ BnX D (XM σ2) 1 ∧ RcM D (XM σ) (XM σ2) c)) 242 [(some (.ref 140)), (some (.int (nI c))), (some (.int b)), (some (.int (nI (dg D c)))), (some (.int (nI j242)))] [] (WW σ242) 0 0 := by
          intro q
          induction q with
          | zero =>
            intro j242 σ242 hj hs242 hI242 hC242 hX242_0 hX242_1 hX242_2
            obtain rfl : j242 = 8 := by omega
            refine R_iload (pc := 242) dX9_narrow_242 rfl ?_
            refine R_aload_n (pc := 244) dX9_narrow_244 rfl rfl ?_
            refine g_X9_215 (pc := 245) (v := .int (σ242.1 14047)) rfl dX9_narrow_245 (c_140 _) rfl ?_
            refine R_icge (pc := 248) 319 dX9_narrow_248 (by decide) (fun _ => ?_) (fun h => absurd (Int32.not_lt.mp (inR_up (iv_14047 hI242) (Int32.le_refl _) (by decide)).2) h)
            exact R_vret (pc := 319) dX9_narrow_319 rfl (Nat.zero_le _) (Nat.zero_le _) ⟨rfl, _, rfl, hI242, hC242, hX242_0.1, hX242_0.2, hX242_1, (fun v hv => (ima_le hX242_2 (by have q := clampM (M := 8) (iv_14047 hI242) (by decide); rw [hC242.1 14047 rfl] at q; exact q)).1 v ((hK.2.2.2.2.2.1 c v hc).1.mp hv)), (fun v hv => (ima_le hX242_2 (by have q := clampM (M := 8) (iv_14047 hI242) (by decide); rw [hC242.1 14047 rfl] at q; exact q)).2 v ((hK.2.2.2.2.2.1 c v hc).2.mp hv))⟩
          | succ q ih242 =>
            intro j242 σ242 hj hs242 hI242 hC242 hX242_0 hX242_1 hX242_2
            have hrg242 : inR (nI j242) 0 7 := inR_ix hs242 (show j242 < 8 by omega) (by decide) (by decide) (by decide)
            have hlt242 : j242 < 8 := by omega
            refine R_iload (pc := 242) dX9_narrow_242 rfl ?_
            refine R_aload_n (pc := 244) dX9_narrow_244 rfl rfl ?_
            refine g_X9_215 (pc := 245) (v := .int (σ242.1 14047)) rfl dX9_narrow_245 (c_140 _) rfl ?_
            refine R_icge (pc := 248) 319 dX9_narrow_248 (by decide) (fun b248_40 => ?_) (fun b248_40 => ?_)
            · skip
              exact R_vret (pc := 319) dX9_narrow_319 rfl (Nat.zero_le _) (Nat.zero_le _) ⟨rfl, _, rfl, hI242, hC242, hX242_0.1, hX242_0.2, hX242_1, (fun v hv => (ima_le hX242_2 (by have q := lel_of (iv_14047 hI242) b248_40 (by omega); rw [hC242.1 14047 rfl] at q; exact q)).1 v ((hK.2.2.2.2.2.1 c v hc).1.mp hv)), (fun v hv => (ima_le hX242_2 (by have q := lel_of (iv_14047 hI242) b248_40 (by omega); rw [hC242.1 14047 rfl] at q; exact q)).2 v ((hK.2.2.2.2.2.1 c v hc).2.mp hv))⟩
            · skip
              refine R_iload_n (pc := 251) dX9_narrow_251 rfl rfl ?_
              refine R_ifeq (pc := 252) 319 dX9_narrow_252 (by decide) (fun b252_41 => ?_) (fun b252_41 => ?_)
              · skip
                exact R_vret (pc := 319) dX9_narrow_319 rfl (Nat.zero_le _) (Nat.zero_le _) ⟨rfl, _, rfl, hI242, hC242, hX242_0.1, hX242_0.2, hX242_1, (fun v hv => (ima_b0 (n := (σ.1 14047).toNatClampNeg) b252_41 hX242_2).1 v ((hK.2.2.2.2.2.1 c v hc).1.mp hv)), (fun v hv => (ima_b0 (n := (σ.1 14047).toNatClampNeg) b252_41 hX242_2).2 v ((hK.2.2.2.2.2.1 c v hc).2.mp hv))⟩
              · skip
                refine R_aload_n (pc := 255) dX9_narrow_255 rfl rfl ?_
                refine g_X9_114 (pc := 256) (v := .ref 172) rfl dX9_narrow_256 (c_140 _) rfl ?_
                refine R_bipush (pc := 259) (v := 6) dX9_narrow_259 (by decide) ?_
                refine R_iload (pc := 261) dX9_narrow_261 rfl ?_
                refine R_imul (pc := 263) dX9_narrow_263 ?_
                have r42 : inR (6 * (nI j242)) 0 42 := inR_mulc (c := 6) (l := 0) (h := 42) 6 (by decide) (show inR (nI j242) 0 7 from hrg242) (by decide) (by decide)
                have e43 := ti_mulc (c := 6) (l := 0) (h := 42) 6 (by decide) (show inR (nI j242) 0 7 from hrg242) (by decide) (by decide)
                refine R_iconst (pc := 264) (v := 3) dX9_narrow_264 (by decide) ?_
                refine R_iadd (pc := 265) dX9_narrow_265 ?_
                have r44 : inR ((6 * (nI j242)) + 3) 3 45 := inR_add (show inR (6 * (nI j242)) 0 42 from r42) (show inR 3 3 3 from (inR_self _)) (by decide) (by decide)
                have e45 := ti_add (l := 3) (h := 45) (show inR (6 * (nI j242)) 0 42 from r42) (show inR 3 3 3 from (inR_self _)) (by decide) (by decide)
                have hx46 : vp_in ((6 * (nI j242)) + 3) 48 := (vp_ti (by have q0 := e43; have q1 := e45; have q2 := ti_ne b209_18; have q3 := ti_nle b248_40; have q4 := ti_ne b252_41; have q5 := ti_in (show inR (nI c) 0 19 from inR_nI (M := 19) (by omega) (by decide)); have q6 := ti_in (iva_152 hI _ (lt_of_vp hx1)); have q7 := ti_in (show inR (nI (dg D c)) 0 19 from inR_nI (M := 19) (Nat.le_of_lt_succ (hK.2.1 c hc).2.1) (by decide)); have q8 := ti_in (iva_144 hI10 _ (lt_of_vp hx3)); have q9 := ti_in hrg242; have q10 := ti_in (iv_14047 hI242); have q11 := ti_in r42; have q12 := ti_in r44; have z0 : (-1 : Int32).toInt = -1 := (by decide); have z1 : (0 : Int32).toInt = 0 := (by decide); have z2 : (1 : Int32).toInt = 1 := (by decide); have z3 : (14047 : Int32).toInt = 14047 := (by decide); have z4 : (147 : Int32).toInt = 147 := (by decide); have z5 : (19 : Int32).toInt = 19 := (by decide); have z6 : (3 : Int32).toInt = 3 := (by decide); have z7 : (4 : Int32).toInt = 4 := (by decide); have z8 : (42 : Int32).toInt = 42 := (by decide); have z9 : (45 : Int32).toInt = 45 := (by decide); have z10 : (7 : Int32).toInt = 7 := (by decide); have z11 : (8 : Int32).toInt = 8 := (by decide); omega) (by have q0 := e43; have q1 := e45; have q2 := ti_ne b209_18; have q3 := ti_nle b248_40; have q4 := ti_ne b252_41; have q5 := ti_in (show inR (nI c) 0 19 from inR_nI (M := 19) (by omega) (by decide)); have q6 := ti_in (iva_152 hI _ (lt_of_vp hx1)); have q7 := ti_in (show inR (nI (dg D c)) 0 19 from inR_nI (M := 19) (Nat.le_of_lt_succ (hK.2.1 c hc).2.1) (by decide)); have q8 := ti_in (iva_144 hI10 _ (lt_of_vp hx3)); have q9 := ti_in hrg242; have q10 := ti_in (iv_14047 hI242); have q11 := ti_in r42; have q12 := ti_in r44; have z0 : (-1 : Int32).toInt = -1 := (by decide); have z1 : (0 : Int32).toInt = 0 := (by decide); have z2 : (1 : Int32).toInt = 1 := (by decide); have z3 : (14047 : Int32).toInt = 14047 := (by decide); have z4 : (147 : Int32).toInt = 147 := (by decide); have z5 : (19 : Int32).toInt = 19 := (by decide); have z6 : (3 : Int32).toInt = 3 := (by decide); have z7 : (4 : Int32).toInt = 4 := (by decide); have z8 : (42 : Int32).toInt = 42 := (by decide); have z9 : (45 : Int32).toInt = 45 := (by decide); have z10 : (7 : Int32).toInt = 7 := (by decide); have z11 : (8 : Int32).toInt = 8 := (by decide); omega))
                refine R_iaload (pc := 266) dX9_narrow_266 (c_172 _) hx46 ?_
                refine R_iconst (pc := 267) (v := 1) dX9_narrow_267 (by decide) ?_
                refine R_icne (pc := 268) 313 dX9_narrow_268 (by decide) (fun b268_47 => ?_) (fun b268_47 => ?_)
                · skip
                  refine inc_5_4_1_i (pc := 313) dX9_narrow_313 ?_
                  have r48 : inR ((nI j242) + 1) 1 8 := inR_add (show inR (nI j242) 0 7 from hrg242) (show inR 1 1 1 from (inR_self _)) (by decide) (by decide)
                  have e49 := ti_add (l := 1) (h := 8) (show inR (nI j242) 0 7 from hrg242) (show inR 1 1 1 from (inR_self _)) (by decide) (by decide)
                  refine R_goto (pc := 316) 242 dX9_narrow_316 (by decide) ?_
                  rw [nI_1]
                  exact ih242 (j242 + 1) _ (by omega) (by omega) hI242 hC242 ⟨hX242_0.1, hX242_0.2⟩ hX242_1 (ima_f hX242_2 hc (LeX.rfl' D _) (Or.inr (fun e => (by have q := b268_47; rw [(idx6m (by omega)).2.1, congrFun (hC242.2.2.1 172 rfl) _] at q; exact q e.1))))
                · skip
                  refine R_aload_n (pc := 271) dX9_narrow_271 rfl rfl ?_
                  refine R_iload_n (pc := 272) dX9_narrow_272 rfl rfl ?_
                  refine R_bipush (pc := 273) (v := 6) dX9_narrow_273 (by decide) ?_
                  refine R_iload (pc := 275) dX9_narrow_275 rfl ?_
                  refine R_imul (pc := 277) dX9_narrow_277 ?_
                  have r50 : inR (6 * (nI j242)) 0 42 := inR_mulc (c := 6) (l := 0) (h := 42) 6 (by decide) (show inR (nI j242) 0 7 from hrg242) (by decide) (by decide)
                  have e51 := ti_mulc (c := 6) (l := 0) (h := 42) 6 (by decide) (show inR (nI j242) 0 7 from hrg242) (by decide) (by decide)
                  refine k_X9_218 (pc := 278) (ge_X9_isOf _ c j242 hI242 (by omega) (by omega)) rfl (c_140 _) (by decide) (Nat.le_refl _) (Nat.le_refl _) (Nat.le_of_ble_eq_true rfl) dX9_narrow_278 (fun x w2 h => ?_)
                  rcases h with ⟨rfl, ⟨hf52, rfl⟩ | ⟨hf52, rfl⟩⟩
                  · skip
                    refine R_ifeq (pc := 281) 313 dX9_narrow_281 (by decide) (fun h => absurd h (by decide)) (fun _ => ?_)
                    refine R_aload_n (pc := 284) dX9_narrow_284 rfl rfl ?_
                    refine R_iload_n (pc := 285) dX9_narrow_285 rfl rfl ?_
                    refine R_aload_n (pc := 286) dX9_narrow_286 rfl rfl ?_
                    refine g_X9_114 (pc := 287) (v := .ref 172) rfl dX9_narrow_287 (c_140 _) rfl ?_
                    refine R_bipush (pc := 290) (v := 6) dX9_narrow_290 (by decide) ?_
                    refine R_iload (pc := 292) dX9_narrow_292 rfl ?_
                    refine R_imul (pc := 294) dX9_narrow_294 ?_
                    have r54 : inR (6 * (nI j242)) 0 42 := inR_mulc (c := 6) (l := 0) (h := 42) 6 (by decide) (show inR (nI j242) 0 7 from hrg242) (by decide) (by decide)
                    have e55 := ti_mulc (c := 6) (l := 0) (h := 42) 6 (by decide) (show inR (nI j242) 0 7 from hrg242) (by decide) (by decide)
                    refine R_iconst (pc := 295) (v := 4) dX9_narrow_295 (by decide) ?_
                    refine R_iadd (pc := 296) dX9_narrow_296 ?_
                    have r56 : inR ((6 * (nI j242)) + 4) 4 46 := inR_add (show inR (6 * (nI j242)) 0 42 from r54) (show inR 4 4 4 from (inR_self _)) (by decide) (by decide)
                    have e57 := ti_add (l := 4) (h := 46) (show inR (6 * (nI j242)) 0 42 from r54) (show inR 4 4 4 from (inR_self _)) (by decide) (by decide)
                    have hx58 : vp_in ((6 * (nI j242)) + 4) 48 := (vp_ti (by have q0 := e43; have q1 := e45; have q2 := e51; have q3 := e55; have q4 := e57; have q5 := ti_ne b209_18; have q6 := ti_nle b248_40; have q7 := ti_ne b252_41; have q8 := ti_eq b268_47; have q9 := ti_in (show inR (nI c) 0 19 from inR_nI (M := 19) (by omega) (by decide)); have q10 := ti_in (iva_152 hI _ (lt_of_vp hx1)); have q11 := ti_in (show inR (nI (dg D c)) 0 19 from inR_nI (M := 19) (Nat.le_of_lt_succ (hK.2.1 c hc).2.1) (by decide)); have q12 := ti_in (iva_144 hI10 _ (lt_of_vp hx3)); have q13 := ti_in hrg242; have q14 := ti_in (iv_14047 hI242); have q15 := ti_in r54; have q16 := ti_in r44; have q17 := ti_in r56; have z0 : (-1 : Int32).toInt = -1 := (by decide); have z1 : (0 : Int32).toInt = 0 := (by decide); have z2 : (1 : Int32).toInt = 1 := (by decide); have z3 : (14047 : Int32).toInt = 14047 := (by decide); have z4 : (147 : Int32).toInt = 147 := (by decide); have z5 : (172 : Int32).toInt = 172 := (by decide); have z6 : (19 : Int32).toInt = 19 := (by decide); have z7 : (3 : Int32).toInt = 3 := (by decide); have z8 : (4 : Int32).toInt = 4 := (by decide); have z9 : (42 : Int32).toInt = 42 := (by decide); have z10 : (45 : Int32).toInt = 45 := (by decide); have z11 : (46 : Int32).toInt = 46 := (by decide); have z12 : (6 : Int32).toInt = 6 := (by decide); have z13 : (7 : Int32).toInt = 7 := (by decide); have z14 : (8 : Int32).toInt = 8 := (by decide); omega) (by have q0 := e43; have q1 := e45; have q2 := e51; have q3 := e55; have q4 := e57; have q5 := ti_ne b209_18; have q6 := ti_nle b248_40; have q7 := ti_ne b252_41; have q8 := ti_eq b268_47; have q9 := ti_in (show inR (nI c) 0 19 from inR_nI (M := 19) (by omega) (by decide)); have q10 := ti_in (iva_152 hI _ (lt_of_vp hx1)); have q11 := ti_in (show inR (nI (dg D c)) 0 19 from inR_nI (M := 19) (Nat.le_of_lt_succ (hK.2.1 c hc).2.1) (by decide)); have q12 := ti_in (iva_144 hI10 _ (lt_of_vp hx3)); have q13 := ti_in hrg242; have q14 := ti_in (iv_14047 hI242); have q15 := ti_in r54; have q16 := ti_in r44; have q17 := ti_in r56; have z0 : (-1 : Int32).toInt = -1 := (by decide); have z1 : (0 : Int32).toInt = 0 := (by decide); have z2 : (1 : Int32).toInt = 1 := (by decide); have z3 : (14047 : Int32).toInt = 14047 := (by decide); have z4 : (147 : Int32).toInt = 147 := (by decide); have z5 : (172 : Int32).toInt = 172 := (by decide); have z6 : (19 : Int32).toInt = 19 := (by decide); have z7 : (3 : Int32).toInt = 3 := (by decide); have z8 : (4 : Int32).toInt = 4 := (by decide); have z9 : (42 : Int32).toInt = 42 := (by decide); have z10 : (45 : Int32).toInt = 45 := (by decide); have z11 : (46 : Int32).toInt = 46 := (by decide); have z12 : (6 : Int32).toInt = 6 := (by decide); have z13 : (7 : Int32).toInt = 7 := (by decide); have z14 : (8 : Int32).toInt = 8 := (by decide); omega))
                    refine R_iaload (pc := 297) dX9_narrow_297 (c_172 _) hx58 ?_
                    refine R_aload_n (pc := 298) dX9_narrow_298 rfl rfl ?_
                    refine g_X9_114 (pc := 299) (v := .ref 172) rfl dX9_narrow_299 (c_140 _) rfl ?_
                    refine R_bipush (pc := 302) (v := 6) dX9_narrow_302 (by decide) ?_
                    refine R_iload (pc := 304) dX9_narrow_304 rfl ?_
                    refine R_imul (pc := 306) dX9_narrow_306 ?_
                    have r59 : inR (6 * (nI j242)) 0 42 := inR_mulc (c := 6) (l := 0) (h := 42) 6 (by decide) (show inR (nI j242) 0 7 from hrg242) (by decide) (by decide)
                    have e60 := ti_mulc (c := 6) (l := 0) (h := 42) 6 (by decide) (show inR (nI j242) 0 7 from hrg242) (by decide) (by decide)
                    refine R_iconst (pc := 307) (v := 5) dX9_narrow_307 (by decide) ?_
                    refine R_iadd (pc := 308) dX9_narrow_308 ?_
                    have r61 : inR ((6 * (nI j242)) + 5) 5 47 := inR_add (show inR (6 * (nI j242)) 0 42 from r59) (show inR 5 5 5 from (inR_self _)) (by decide) (by decide)
                    have e62 := ti_add (l := 5) (h := 47) (show inR (6 * (nI j242)) 0 42 from r59) (show inR 5 5 5 from (inR_self _)) (by decide) (by decide)
                    have hx63 : vp_in ((6 * (nI j242)) + 5) 48 := (vp_ti (by have q0 := e43; have q1 := e45; have q2 := e51; have q3 := e55; have q4 := e57; have q5 := e60; have q6 := e62; have q7 := ti_ne b209_18; have q8 := ti_nle b248_40; have q9 := ti_ne b252_41; have q10 := ti_eq b268_47; have q11 := ti_in (show inR (nI c) 0 19 from inR_nI (M := 19) (by omega) (by decide)); have q12 := ti_in (iva_152 hI _ (lt_of_vp hx1)); have q13 := ti_in (show inR (nI (dg D c)) 0 19 from inR_nI (M := 19) (Nat.le_of_lt_succ (hK.2.1 c hc).2.1) (by decide)); have q14 := ti_in (iva_144 hI10 _ (lt_of_vp hx3)); have q15 := ti_in hrg242; have q16 := ti_in (iv_14047 hI242); have q17 := ti_in r59; have q18 := ti_in r44; have q19 := ti_in r56; have q20 := ti_in r61; have z0 : (-1 : Int32).toInt = -1 := (by decide); have z1 : (0 : Int32).toInt = 0 := (by decide); have z2 : (1 : Int32).toInt = 1 := (by decide); have z3 : (14047 : Int32).toInt = 14047 := (by decide); have z4 : (147 : Int32).toInt = 147 := (by decide); have z5 : (172 : Int32).toInt = 172 := (by decide); have z6 : (19 : Int32).toInt = 19 := (by decide); have z7 : (3 : Int32).toInt = 3 := (by decide); have z8 : (4 : Int32).toInt = 4 := (by decide); have z9 : (42 : Int32).toInt = 42 := (by decide); have z10 : (45 : Int32).toInt = 45 := (by decide); have z11 : (46 : Int32).toInt = 46 := (by decide); have z12 : (47 : Int32).toInt = 47 := (by decide); have z13 : (5 : Int32).toInt = 5 := (by decide); have z14 : (6 : Int32).toInt = 6 := (by decide); have z15 : (7 : Int32).toInt = 7 := (by decide); have z16 : (8 : Int32).toInt = 8 := (by decide); omega) (by have q0 := e43; have q1 := e45; have q2 := e51; have q3 := e55; have q4 := e57; have q5 := e60; have q6 := e62; have q7 := ti_ne b209_18; have q8 := ti_nle b248_40; have q9 := ti_ne b252_41; have q10 := ti_eq b268_47; have q11 := ti_in (show inR (nI c) 0 19 from inR_nI (M := 19) (by omega) (by decide)); have q12 := ti_in (iva_152 hI _ (lt_of_vp hx1)); have q13 := ti_in (show inR (nI (dg D c)) 0 19 from inR_nI (M := 19) (Nat.le_of_lt_succ (hK.2.1 c hc).2.1) (by decide)); have q14 := ti_in (iva_144 hI10 _ (lt_of_vp hx3)); have q15 := ti_in hrg242; have q16 := ti_in (iv_14047 hI242); have q17 := ti_in r59; have q18 := ti_in r44; have q19 := ti_in r56; have q20 := ti_in r61; have z0 : (-1 : Int32).toInt = -1 := (by decide); have z1 : (0 : Int32).toInt = 0 := (by decide); have z2 : (1 : Int32).toInt = 1 := (by decide); have z3 : (14047 : Int32).toInt = 14047 := (by decide); have z4 : (147 : Int32).toInt = 147 := (by decide); have z5 : (172 : Int32).toInt = 172 := (by decide); have z6 : (19 : Int32).toInt = 19 := (by decide); have z7 : (3 : Int32).toInt = 3 := (by decide); have z8 : (4 : Int32).toInt = 4 := (by decide); have z9 : (42 : Int32).toInt = 42 := (by decide); have z10 : (45 : Int32).toInt = 45 := (by decide); have z11 : (46 : Int32).toInt = 46 := (by decide); have z12 : (47 : Int32).toInt = 47 := (by decide); have z13 : (5 : Int32).toInt = 5 := (by decide); have z14 : (6 : Int32).toInt = 6 := (by decide); have z15 : (7 : Int32).toInt = 7 := (by decide); have z16 : (8 : Int32).toInt = 8 := (by decide); omega))
                    refine R_iaload (pc := 309) dX9_narrow_309 (c_172 _) hx63 ?_
                    have hb1 : ¬ b = 0 := b252_41
                    have hjl : j242 < (σ.1 14047).toNatClampNeg := by have q := ltl_of (iv_14047 hI242) (show nI j242 < σ242.1 14047 from (Int32.not_le.mp b248_40)) (by omega); rw [hC242.1 14047 rfl] at q; exact q
                    have hlm : LmF σ c j242 := lmf_t hC242 (by have q := b268_47; rw [(idx6m (by omega)).2.1] at q; exact q) hf52
                    have hel1 : (σ242.2.2.1 172 (Int32.toNatClampNeg ((6 * (nI j242)) + 4))).toInt = (σ.2.2.1 172 (6 * j242 + 4)).toInt := by rw [(idx6m (by omega)).2.2.1, congrFun (hC242.2.2.1 172 rfl) _]
                    have hel2 : (σ242.2.2.1 172 (Int32.toNatClampNeg ((6 * (nI j242)) + 5))).toInt = (σ.2.2.1 172 (6 * j242 + 5)).toInt := by rw [(idx6m (by omega)).2.2.2.1, congrFun (hC242.2.2.1 172 rfl) _]
                    refine k_X9_212 (pc := 310) (ge_X9_outIn _ _ _ _ hI242 (show inR (nI c) 0 19 from inR_nI (M := 19) (by omega) (by decide))) rfl (c_140 _) (by decide) (Nat.le_refl _) (Nat.le_refl _) (Nat.le_of_ble_eq_true rfl) dX9_narrow_310 (fun w2 h => ?_)
                    obtain ⟨σx65, rfl, hV64, hW66, he67⟩ := h
                    have hW69 := Cor.trans hC242 hW66
                    have hS68 := stM_o (D := D) (c := c) (m := 1) he67 (nI_clamp (by omega)) hc (fun Z hZ _ => by rw [hel1]; exact (hZ.1 c hc).2.2.1 _ ((hK.2.2.2.2.2.1 c _ hc).1.mpr (Or.inr ⟨j242, hb1, hjl, hlm, rfl⟩))) (fun Z hZ _ => by rw [hel2]; exact (hZ.1 c hc).2.2.2 _ ((hK.2.2.2.2.2.1 c _ hc).2.mpr (Or.inr (Or.inr ⟨j242, hb1, hjl, hlm, rfl⟩)))) (by rw [hel1]; have := ((hK.2.2.2.2.2.2 c _ hc).1 ((hK.2.2.2.2.2.1 c _ hc).1.mpr (Or.inr ⟨j242, hb1, hjl, hlm, rfl⟩))); omega) (by rw [hel2]; have := ((hK.2.2.2.2.2.2 c _ hc).2 ((hK.2.2.2.2.2.1 c _ hc).2.mpr (Or.inr (Or.inr ⟨j242, hb1, hjl, hlm, rfl⟩)))); omega)
                    have hT70 := StM.tr hX242_0.1 hS68.1
                    have hB71 := hS68.2.2 hX242_0.2
                    have hK72 := lkm_st (lkm_st hK hC242 hX242_0.1.2.2) hW66 hS68.1.2.2
                    have hN1 := hS68.2.1
                    have hN1e := hS68.1.1.1
                    refine inc_5_4_1_i (pc := 313) dX9_narrow_313 ?_
                    have r73 : inR ((nI j242) + 1) 1 8 := inR_add (show inR (nI j242) 0 7 from hrg242) (show inR 1 1 1 from (inR_self _)) (by decide) (by decide)
                    have e74 := ti_add (l := 1) (h := 8) (show inR (nI j242) 0 7 from hrg242) (show inR 1 1 1 from (inR_self _)) (by decide) (by decide)
                    refine R_goto (pc := 316) 242 dX9_narrow_316 (by decide) ?_
                    rw [nI_1]
                    exact ih242 (j242 + 1) _ (by omega) (by omega) hV64 hW69 ⟨hT70, hB71⟩ (hX242_1.up hc hN1e) (ima_t hX242_2 hc hN1e (by have q := hN1.1; rw [hel1] at q; exact q) (by have q := hN1.2; rw [hel2] at q; exact q))
                  · skip
                    refine R_ifeq (pc := 281) 313 dX9_narrow_281 (by decide) (fun _ => ?_) (fun h => absurd (by decide) h)
                    refine inc_5_4_1_i (pc := 313) dX9_narrow_313 ?_
                    have r76 : inR ((nI j242) + 1) 1 8 := inR_add (show inR (nI j242) 0 7 from hrg242) (show inR 1 1 1 from (inR_self _)) (by decide) (by decide)
                    have e77 := ti_add (l := 1) (h := 8) (show inR (nI j242) 0 7 from hrg242) (show inR 1 1 1 from (inR_self _)) (by decide) (by decide)
                    refine R_goto (pc := 316) 242 dX9_narrow_316 (by decide) ?_
                    rw [nI_1]
                    exact ih242 (j242 + 1) _ (by omega) (by omega) hI242 hC242 ⟨hX242_0.1, hX242_0.2⟩ hX242_1 (ima_f hX242_2 hc (LeX.rfl' D _) (Or.inr (fun e => absurd (lmf_b hC242 e) (by rw [hf52]; decide))))
        exact HL242 8 0 _ (by omega) (by omega) hV30 hW35 ⟨hT36, hB37⟩ (rc_m hc hX10_0.1.1.1 hM1e hM2e hM3e hX10_1 hM2.1 hM3.2) (ima_0 (d3 := ((σx8.2.2.1 147 (Int32.toNatClampNeg (nI c))) : Int32).toInt) hc hM2e hM3e heb1 heb2 hM1.1 hM1.2 (Or.inr hep) (fun _ => hM2.2))
      · skip
        have hpo : σ.2.2.1 147 c = -1 := by have q := b209_18; rw [nI_clamp (by omega), congrFun (hW12.2.2.1 147 rfl) c] at q; exact q
        refine R_sipush (pc := 212) (v := 20000) dX9_narrow_212 (by decide) ?_
        refine R_goto (pc := 215) 224 dX9_narrow_215 (by decide) ?_
        refine k_X9_212 (pc := 224) (ge_X9_outIn _ _ _ _ hV7 (show inR (nI c) 0 19 from inR_nI (M := 19) (by omega) (by decide))) rfl (c_140 _) (by decide) (Nat.le_refl _) (Nat.le_refl _) (Nat.le_of_ble_eq_true rfl) dX9_narrow_224 (fun w2 h => ?_)
        obtain ⟨σx79, rfl, hV78, hW80, he81⟩ := h
        have hW83 := Cor.trans hW12 hW80
        have hS82 := stM_o (D := D) (c := c) (m := 1) he81 (nI_clamp (by omega)) hc (fun Z hZ hle => Int.le_trans (hle c hc).1 (hZ.2 c hc).1) (fun Z hZ _ => by rw [z2_ti]; exact Int.le_trans ((hZ.1 c hc).2.2.2 _ ((hK.2.2.2.2.2.1 c _ hc).2.mpr (Or.inl rfl))) (((hK.2.2.2.2.2.2 c _ hc).2 ((hK.2.2.2.2.2.1 c _ hc).2.mpr (Or.inl rfl))).2)) (hB14 c hc).1 (by rw [z2_ti]; omega)
        have hT84 := StM.tr hT13 hS82.1
        have hB85 := hS82.2.2 hB14
        have hK86 := lkm_st hK15 hW80 hS82.1.2.2
        have hM2 := hS82.2.1
        have hM2e := hS82.1.1.1
        refine R_aload_n (pc := 227) dX9_narrow_227 rfl rfl ?_
        refine R_iload_n (pc := 228) dX9_narrow_228 rfl rfl ?_
        refine R_iconst (pc := 229) (v := 0) dX9_narrow_229 (by decide) ?_
        refine R_aload_n (pc := 230) dX9_narrow_230 rfl rfl ?_
        refine g_X9_96 (pc := 231) (v := .ref 166) rfl dX9_narrow_231 (c_140 _) rfl ?_
        refine R_iload_n (pc := 234) dX9_narrow_234 rfl rfl ?_
        have hx87 : vp_in (nI c) 20 := (vp_of_inR (show inR (nI c) 0 19 from inR_nI (M := 19) (by omega) (by decide)) (by decide))
        refine R_iaload (pc := 235) dX9_narrow_235 (c_166 _) hx87 ?_
        refine R_cv (σx79.2.2.1 166 c) (by rw [nI_clamp (by omega)]) ?_
        refine k_X9_208 (pc := 236) (ge_X9_takenIn _ _ _ _ hV78 (show inR (nI (dg D c)) 0 19 from inR_nI (M := 19) (Nat.le_of_lt_succ (hK.2.1 c hc).2.1) (by decide))) rfl (c_140 _) (by decide) (Nat.le_refl _) (Nat.le_refl _) (Nat.le_of_ble_eq_true rfl) dX9_narrow_236 (fun w2 h => ?_)
        obtain ⟨σx89, rfl, hV88, hW90, he91⟩ := h
        have hW93 := Cor.trans hW83 hW90
        have hS92 := stM_t (D := D) (c := c) (m := 1) he91 (nI_clamp (by have q := (hK.2.1 c hc).2.1; omega)) hc (fun Z hZ _ => by rw [z0_ti]; exact (hZ.1 c hc).1) (fun Z hZ hle => Int.le_trans (hZ.2 c hc).2.1 (hle c hc).2.2.2) (by rw [z0_ti]; omega) (hB85 c hc).2.2.2
        have hT94 := StM.tr hT84 hS92.1
        have hB95 := hS92.2.2 hB85
        have hK96 := lkm_st hK86 hW90 hS92.1.2.2
        have hM3 := hS92.2.1
        have hM3e := hS92.1.1.1
        refine R_iconst (pc := 239) (v := 0) dX9_narrow_239 (by decide) ?_
        refine st_5_4_i_i (pc := 240) dX9_narrow_240 ?_
        have HL242 : ∀ (q j242 : Nat) (σ242 : Sg), j242 + q = 8 → 0 ≤ j242 → Inv σ242 → Cor σ σ242 → (StM D σ σ242 ∧ BnX D (XM σ242) 1) → Rc D (XM σ) (XM σ242) c → ImA D b σ (XM σ242) c j242 → R G l yX9_narrow cX9_narrow 5 none 2 0 0 (QV (fun w2 => ∃ σ2, w2 = WW σ2 ∧ Inv σ2 ∧ Cor σ σ2 ∧ StM D σ σ2 ∧ BnX D (XM σ2) 1 ∧ RcM D (XM σ) (XM σ2) c)) 242 [(some (.ref 140)), (some (.int (nI c))), (some (.int b)), (some (.int (nI (dg D c)))), (some (.int (nI j242)))] [] (WW σ242) 0 0 := by
          intro q
          induction q with
          | zero =>
            intro j242 σ242 hj hs242 hI242 hC242 hX242_0 hX242_1 hX242_2
            obtain rfl : j242 = 8 := by omega
            refine R_iload (pc := 242) dX9_narrow_242 rfl ?_
            refine R_aload_n (pc := 244) dX9_narrow_244 rfl rfl ?_
            refine g_X9_215 (pc := 245) (v := .int (σ242.1 14047)) rfl dX9_narrow_245 (c_140 _) rfl ?_
            refine R_icge (pc := 248) 319 dX9_narrow_248 (by decide) (fun _ => ?_) (fun h => absurd (Int32.not_lt.mp (inR_up (iv_14047 hI242) (Int32.le_refl _) (by decide)).2) h)
            exact R_vret (pc := 319) dX9_narrow_319 rfl (Nat.zero_le _) (Nat.zero_le _) ⟨rfl, _, rfl, hI242, hC242, hX242_0.1, hX242_0.2, hX242_1, (fun v hv => (ima_le hX242_2 (by have q := clampM (M := 8) (iv_14047 hI242) (by decide); rw [hC242.1 14047 rfl] at q; exact q)).1 v ((hK.2.2.2.2.2.1 c v hc).1.mp hv)), (fun v hv => (ima_le hX242_2 (by have q := clampM (M := 8) (iv_14047 hI242) (by decide); rw [hC242.1 14047 rfl] at q; exact q)).2 v ((hK.2.2.2.2.2.1 c v hc).2.mp hv))⟩
          | succ q ih242 =>
            intro j242 σ242 hj hs242 hI242 hC242 hX242_0 hX242_1 hX242_2
            have hrg242 : inR (nI j242) 0 7 := inR_ix hs242 (show j242 < 8 by omega) (by decide) (by decide) (by decide)
            have hlt242 : j242 < 8 := by omega
            refine R_iload (pc := 242) dX9_narrow_242 rfl ?_
            refine R_aload_n (pc := 244) dX9_narrow_244 rfl rfl ?_
            refine g_X9_215 (pc := 245) (v := .int (σ242.1 14047)) rfl dX9_narrow_245 (c_140 _) rfl ?_
            refine R_icge (pc := 248) 319 dX9_narrow_248 (by decide) (fun b248_98 => ?_) (fun b248_98 => ?_)
            · skip
              exact R_vret (pc := 319) dX9_narrow_319 rfl (Nat.zero_le _) (Nat.zero_le _) ⟨rfl, _, rfl, hI242, hC242, hX242_0.1, hX242_0.2, hX242_1, (fun v hv => (ima_le hX242_2 (by have q := lel_of (iv_14047 hI242) b248_98 (by omega); rw [hC242.1 14047 rfl] at q; exact q)).1 v ((hK.2.2.2.2.2.1 c v hc).1.mp hv)), (fun v hv => (ima_le hX242_2 (by have q := lel_of (iv_14047 hI242) b248_98 (by omega); rw [hC242.1 14047 rfl] at q; exact q)).2 v ((hK.2.2.2.2.2.1 c v hc).2.mp hv))⟩
            · skip
              refine R_iload_n (pc := 251) dX9_narrow_251 rfl rfl ?_
              refine R_ifeq (pc := 252) 319 dX9_narrow_252 (by decide) (fun b252_99 => ?_) (fun b252_99 => ?_)
              · skip
                exact R_vret (pc := 319) dX9_narrow_319 rfl (Nat.zero_le _) (Nat.zero_le _) ⟨rfl, _, rfl, hI242, hC242, hX242_0.1, hX242_0.2, hX242_1, (fun v hv => (ima_b0 (n := (σ.1 14047).toNatClampNeg) b252_99 hX242_2).1 v ((hK.2.2.2.2.2.1 c v hc).1.mp hv)), (fun v hv => (ima_b0 (n := (σ.1 14047).toNatClampNeg) b252_99 hX242_2).2 v ((hK.2.2.2.2.2.1 c v hc).2.mp hv))⟩
              · skip
                refine R_aload_n (pc := 255) dX9_narrow_255 rfl rfl ?_
                refine g_X9_114 (pc := 256) (v := .ref 172) rfl dX9_narrow_256 (c_140 _) rfl ?_
                refine R_bipush (pc := 259) (v := 6) dX9_narrow_259 (by decide) ?_
                refine R_iload (pc := 261) dX9_narrow_261 rfl ?_
                refine R_imul (pc := 263) dX9_narrow_263 ?_
                have r100 : inR (6 * (nI j242)) 0 42 := inR_mulc (c := 6) (l := 0) (h := 42) 6 (by decide) (show inR (nI j242) 0 7 from hrg242) (by decide) (by decide)
                have e101 := ti_mulc (c := 6) (l := 0) (h := 42) 6 (by decide) (show inR (nI j242) 0 7 from hrg242) (by decide) (by decide)
                refine R_iconst (pc := 264) (v := 3) dX9_narrow_264 (by decide) ?_
                refine R_iadd (pc := 265) dX9_narrow_265 ?_
                have r102 : inR ((6 * (nI j242)) + 3) 3 45 := inR_add (show inR (6 * (nI j242)) 0 42 from r100) (show inR 3 3 3 from (inR_self _)) (by decide) (by decide)
                have e103 := ti_add (l := 3) (h := 45) (show inR (6 * (nI j242)) 0 42 from r100) (show inR 3 3 3 from (inR_self _)) (by decide) (by decide)
                have hx104 : vp_in ((6 * (nI j242)) + 3) 48 := (vp_ti (by have q0 := e101; have q1 := e103; have q2 := ti_eq b209_18; have q3 := ti_nle b248_98; have q4 := ti_ne b252_99; have q5 := ti_in (show inR (nI c) 0 19 from inR_nI (M := 19) (by omega) (by decide)); have q6 := ti_in (iva_152 hI _ (lt_of_vp hx1)); have q7 := ti_in (show inR (nI (dg D c)) 0 19 from inR_nI (M := 19) (Nat.le_of_lt_succ (hK.2.1 c hc).2.1) (by decide)); have q8 := ti_in (iva_144 hI10 _ (lt_of_vp hx3)); have q9 := ti_in hrg242; have q10 := ti_in (iv_14047 hI242); have q11 := ti_in r100; have q12 := ti_in r102; have z0 : (-1 : Int32).toInt = -1 := (by decide); have z1 : (0 : Int32).toInt = 0 := (by decide); have z2 : (1 : Int32).toInt = 1 := (by decide); have z3 : (14047 : Int32).toInt = 14047 := (by decide); have z4 : (147 : Int32).toInt = 147 := (by decide); have z5 : (19 : Int32).toInt = 19 := (by decide); have z6 : (3 : Int32).toInt = 3 := (by decide); have z7 : (4 : Int32).toInt = 4 := (by decide); have z8 : (42 : Int32).toInt = 42 := (by decide); have z9 : (45 : Int32).toInt = 45 := (by decide); have z10 : (7 : Int32).toInt = 7 := (by decide); have z11 : (8 : Int32).toInt = 8 := (by decide); omega) (by have q0 := e101; have q1 := e103; have q2 := ti_eq b209_18; have q3 := ti_nle b248_98; have q4 := ti_ne b252_99; have q5 := ti_in (show inR (nI c) 0 19 from inR_nI (M := 19) (by omega) (by decide)); have q6 := ti_in (iva_152 hI _ (lt_of_vp hx1)); have q7 := ti_in (show inR (nI (dg D c)) 0 19 from inR_nI (M := 19) (Nat.le_of_lt_succ (hK.2.1 c hc).2.1) (by decide)); have q8 := ti_in (iva_144 hI10 _ (lt_of_vp hx3)); have q9 := ti_in hrg242; have q10 := ti_in (iv_14047 hI242); have q11 := ti_in r100; have q12 := ti_in r102; have z0 : (-1 : Int32).toInt = -1 := (by decide); have z1 : (0 : Int32).toInt = 0 := (by decide); have z2 : (1 : Int32).toInt = 1 := (by decide); have z3 : (14047 : Int32).toInt = 14047 := (by decide); have z4 : (147 : Int32).toInt = 147 := (by decide); have z5 : (19 : Int32).toInt = 19 := (by decide); have z6 : (3 : Int32).toInt = 3 := (by decide); have z7 : (4 : Int32).toInt = 4 := (by decide); have z8 : (42 : Int32).toInt = 42 := (by decide); have z9 : (45 : Int32).toInt = 45 := (by decide); have z10 : (7 : Int32).toInt = 7 := (by decide); have z11 : (8 : Int32).toInt = 8 := (by decide); omega))
                refine R_iaload (pc := 266) dX9_narrow_266 (c_172 _) hx104 ?_
                refine R_iconst (pc := 267) (v := 1) dX9_narrow_267 (by decide) ?_
                refine R_icne (pc := 268) 313 dX9_narrow_268 (by decide) (fun b268_105 => ?_) (fun b268_105 => ?_)
                · skip
                  refine inc_5_4_1_i (pc := 313) dX9_narrow_313 ?_
                  have r106 : inR ((nI j242) + 1) 1 8 := inR_add (show inR (nI j242) 0 7 from hrg242) (show inR 1 1 1 from (inR_self _)) (by decide) (by decide)
                  have e107 := ti_add (l := 1) (h := 8) (show inR (nI j242) 0 7 from hrg242) (show inR 1 1 1 from (inR_self _)) (by decide) (by decide)
                  refine R_goto (pc := 316) 242 dX9_narrow_316 (by decide) ?_
                  rw [nI_1]
                  exact ih242 (j242 + 1) _ (by omega) (by omega) hI242 hC242 ⟨hX242_0.1, hX242_0.2⟩ hX242_1 (ima_f hX242_2 hc (LeX.rfl' D _) (Or.inr (fun e => (by have q := b268_105; rw [(idx6m (by omega)).2.1, congrFun (hC242.2.2.1 172 rfl) _] at q; exact q e.1))))
                · skip
                  refine R_aload_n (pc := 271) dX9_narrow_271 rfl rfl ?_
                  refine R_iload_n (pc := 272) dX9_narrow_272 rfl rfl ?_
                  refine R_bipush (pc := 273) (v := 6) dX9_narrow_273 (by decide) ?_
                  refine R_iload (pc := 275) dX9_narrow_275 rfl ?_
                  refine R_imul (pc := 277) dX9_narrow_277 ?_
                  have r108 : inR (6 * (nI j242)) 0 42 := inR_mulc (c := 6) (l := 0) (h := 42) 6 (by decide) (show inR (nI j242) 0 7 from hrg242) (by decide) (by decide)
                  have e109 := ti_mulc (c := 6) (l := 0) (h := 42) 6 (by decide) (show inR (nI j242) 0 7 from hrg242) (by decide) (by decide)
                  refine k_X9_218 (pc := 278) (ge_X9_isOf _ c j242 hI242 (by omega) (by omega)) rfl (c_140 _) (by decide) (Nat.le_refl _) (Nat.le_refl _) (Nat.le_of_ble_eq_true rfl) dX9_narrow_278 (fun x w2 h => ?_)
                  rcases h with ⟨rfl, ⟨hf110, rfl⟩ | ⟨hf110, rfl⟩⟩
                  · skip
                    refine R_ifeq (pc := 281) 313 dX9_narrow_281 (by decide) (fun h => absurd h (by decide)) (fun _ => ?_)
                    refine R_aload_n (pc := 284) dX9_narrow_284 rfl rfl ?_
                    refine R_iload_n (pc := 285) dX9_narrow_285 rfl rfl ?_
                    refine R_aload_n (pc := 286) dX9_narrow_286 rfl rfl ?_
                    refine g_X9_114 (pc := 287) (v := .ref 172) rfl dX9_narrow_287 (c_140 _) rfl ?_
                    refine R_bipush (pc := 290) (v := 6) dX9_narrow_290 (by decide) ?_
                    refine R_iload (pc := 292) dX9_narrow_292 rfl ?_
                    refine R_imul (pc := 294) dX9_narrow_294 ?_
                    have r112 : inR (6 * (nI j242)) 0 42 := inR_mulc (c := 6) (l := 0) (h := 42) 6 (by decide) (show inR (nI j242) 0 7 from hrg242) (by decide) (by decide)
                    have e113 := ti_mulc (c := 6) (l := 0) (h := 42) 6 (by decide) (show inR (nI j242) 0 7 from hrg242) (by decide) (by decide)
                    refine R_iconst (pc := 295) (v := 4) dX9_narrow_295 (by decide) ?_
                    refine R_iadd (pc := 296) dX9_narrow_296 ?_
                    have r114 : inR ((6 * (nI j242)) + 4) 4 46 := inR_add (show inR (6 * (nI j242)) 0 42 from r112) (show inR 4 4 4 from (inR_self _)) (by decide) (by decide)
                    have e115 := ti_add (l := 4) (h := 46) (show inR (6 * (nI j242)) 0 42 from r112) (show inR 4 4 4 from (inR_self _)) (by decide) (by decide)
                    have hx116 : vp_in ((6 * (nI j242)) + 4) 48 := (vp_ti (by have q0 := e101; have q1 := e103; have q2 := e109; have q3 := e113; have q4 := e115; have q5 := ti_eq b209_18; have q6 := ti_nle b248_98; have q7 := ti_ne b252_99; have q8 := ti_eq b268_105; have q9 := ti_in (show inR (nI c) 0 19 from inR_nI (M := 19) (by omega) (by decide)); have q10 := ti_in (iva_152 hI _ (lt_of_vp hx1)); have q11 := ti_in (show inR (nI (dg D c)) 0 19 from inR_nI (M := 19) (Nat.le_of_lt_succ (hK.2.1 c hc).2.1) (by decide)); have q12 := ti_in (iva_144 hI10 _ (lt_of_vp hx3)); have q13 := ti_in hrg242; have q14 := ti_in (iv_14047 hI242); have q15 := ti_in r112; have q16 := ti_in r102; have q17 := ti_in r114; have z0 : (-1 : Int32).toInt = -1 := (by decide); have z1 : (0 : Int32).toInt = 0 := (by decide); have z2 : (1 : Int32).toInt = 1 := (by decide); have z3 : (14047 : Int32).toInt = 14047 := (by decide); have z4 : (147 : Int32).toInt = 147 := (by decide); have z5 : (172 : Int32).toInt = 172 := (by decide); have z6 : (19 : Int32).toInt = 19 := (by decide); have z7 : (3 : Int32).toInt = 3 := (by decide); have z8 : (4 : Int32).toInt = 4 := (by decide); have z9 : (42 : Int32).toInt = 42 := (by decide); have z10 : (45 : Int32).toInt = 45 := (by decide); have z11 : (46 : Int32).toInt = 46 := (by decide); have z12 : (6 : Int32).toInt = 6 := (by decide); have z13 : (7 : Int32).toInt = 7 := (by decide); have z14 : (8 : Int32).toInt = 8 := (by decide); omega) (by have q0 := e101; have q1 := e103; have q2 := e109; have q3 := e113; have q4 := e115; have q5 := ti_eq b209_18; have q6 := ti_nle b248_98; have q7 := ti_ne b252_99; have q8 := ti_eq b268_105; have q9 := ti_in (show inR (nI c) 0 19 from inR_nI (M := 19) (by omega) (by decide)); have q10 := ti_in (iva_152 hI _ (lt_of_vp hx1)); have q11 := ti_in (show inR (nI (dg D c)) 0 19 from inR_nI (M := 19) (Nat.le_of_lt_succ (hK.2.1 c hc).2.1) (by decide)); have q12 := ti_in (iva_144 hI10 _ (lt_of_vp hx3)); have q13 := ti_in hrg242; have q14 := ti_in (iv_14047 hI242); have q15 := ti_in r112; have q16 := ti_in r102; have q17 := ti_in r114; have z0 : (-1 : Int32).toInt = -1 := (by decide); have z1 : (0 : Int32).toInt = 0 := (by decide); have z2 : (1 : Int32).toInt = 1 := (by decide); have z3 : (14047 : Int32).toInt = 14047 := (by decide); have z4 : (147 : Int32).toInt = 147 := (by decide); have z5 : (172 : Int32).toInt = 172 := (by decide); have z6 : (19 : Int32).toInt = 19 := (by decide); have z7 : (3 : Int32).toInt = 3 := (by decide); have z8 : (4 : Int32).toInt = 4 := (by decide); have z9 : (42 : Int32).toInt = 42 := (by decide); have z10 : (45 : Int32).toInt = 45 := (by decide); have z11 : (46 : Int32).toInt = 46 := (by decide); have z12 : (6 : Int32).toInt = 6 := (by decide); have z13 : (7 : Int32).toInt = 7 := (by decide); have z14 : (8 : Int32).toInt = 8 := (by decide); omega))
                    refine R_iaload (pc := 297) dX9_narrow_297 (c_172 _) hx116 ?_
                    refine R_aload_n (pc := 298) dX9_narrow_298 rfl rfl ?_
                    refine g_X9_114 (pc := 299) (v := .ref 172) rfl dX9_narrow_299 (c_140 _) rfl ?_
                    refine R_bipush (pc := 302) (v := 6) dX9_narrow_302 (by decide) ?_
                    refine R_iload (pc := 304) dX9_narrow_304 rfl ?_
                    refine R_imul (pc := 306) dX9_narrow_306 ?_
                    have r117 : inR (6 * (nI j242)) 0 42 := inR_mulc (c := 6) (l := 0) (h := 42) 6 (by decide) (show inR (nI j242) 0 7 from hrg242) (by decide) (by decide)
                    have e118 := ti_mulc (c := 6) (l := 0) (h := 42) 6 (by decide) (show inR (nI j242) 0 7 from hrg242) (by decide) (by decide)
                    refine R_iconst (pc := 307) (v := 5) dX9_narrow_307 (by decide) ?_
                    refine R_iadd (pc := 308) dX9_narrow_308 ?_
                    have r119 : inR ((6 * (nI j242)) + 5) 5 47 := inR_add (show inR (6 * (nI j242)) 0 42 from r117) (show inR 5 5 5 from (inR_self _)) (by decide) (by decide)
                    have e120 := ti_add (l := 5) (h := 47) (show inR (6 * (nI j242)) 0 42 from r117) (show inR 5 5 5 from (inR_self _)) (by decide) (by decide)
                    have hx121 : vp_in ((6 * (nI j242)) + 5) 48 := (vp_ti (by have q0 := e101; have q1 := e103; have q2 := e109; have q3 := e113; have q4 := e115; have q5 := e118; have q6 := e120; have q7 := ti_eq b209_18; have q8 := ti_nle b248_98; have q9 := ti_ne b252_99; have q10 := ti_eq b268_105; have q11 := ti_in (show inR (nI c) 0 19 from inR_nI (M := 19) (by omega) (by decide)); have q12 := ti_in (iva_152 hI _ (lt_of_vp hx1)); have q13 := ti_in (show inR (nI (dg D c)) 0 19 from inR_nI (M := 19) (Nat.le_of_lt_succ (hK.2.1 c hc).2.1) (by decide)); have q14 := ti_in (iva_144 hI10 _ (lt_of_vp hx3)); have q15 := ti_in hrg242; have q16 := ti_in (iv_14047 hI242); have q17 := ti_in r117; have q18 := ti_in r102; have q19 := ti_in r114; have q20 := ti_in r119; have z0 : (-1 : Int32).toInt = -1 := (by decide); have z1 : (0 : Int32).toInt = 0 := (by decide); have z2 : (1 : Int32).toInt = 1 := (by decide); have z3 : (14047 : Int32).toInt = 14047 := (by decide); have z4 : (147 : Int32).toInt = 147 := (by decide); have z5 : (172 : Int32).toInt = 172 := (by decide); have z6 : (19 : Int32).toInt = 19 := (by decide); have z7 : (3 : Int32).toInt = 3 := (by decide); have z8 : (4 : Int32).toInt = 4 := (by decide); have z9 : (42 : Int32).toInt = 42 := (by decide); have z10 : (45 : Int32).toInt = 45 := (by decide); have z11 : (46 : Int32).toInt = 46 := (by decide); have z12 : (47 : Int32).toInt = 47 := (by decide); have z13 : (5 : Int32).toInt = 5 := (by decide); have z14 : (6 : Int32).toInt = 6 := (by decide); have z15 : (7 : Int32).toInt = 7 := (by decide); have z16 : (8 : Int32).toInt = 8 := (by decide); omega) (by have q0 := e101; have q1 := e103; have q2 := e109; have q3 := e113; have q4 := e115; have q5 := e118; have q6 := e120; have q7 := ti_eq b209_18; have q8 := ti_nle b248_98; have q9 := ti_ne b252_99; have q10 := ti_eq b268_105; have q11 := ti_in (show inR (nI c) 0 19 from inR_nI (M := 19) (by omega) (by decide)); have q12 := ti_in (iva_152 hI _ (lt_of_vp hx1)); have q13 := ti_in (show inR (nI (dg D c)) 0 19 from inR_nI (M := 19) (Nat.le_of_lt_succ (hK.2.1 c hc).2.1) (by decide)); have q14 := ti_in (iva_144 hI10 _ (lt_of_vp hx3)); have q15 := ti_in hrg242; have q16 := ti_in (iv_14047 hI242); have q17 := ti_in r117; have q18 := ti_in r102; have q19 := ti_in r114; have q20 := ti_in r119; have z0 : (-1 : Int32).toInt = -1 := (by decide); have z1 : (0 : Int32).toInt = 0 := (by decide); have z2 : (1 : Int32).toInt = 1 := (by decide); have z3 : (14047 : Int32).toInt = 14047 := (by decide); have z4 : (147 : Int32).toInt = 147 := (by decide); have z5 : (172 : Int32).toInt = 172 := (by decide); have z6 : (19 : Int32).toInt = 19 := (by decide); have z7 : (3 : Int32).toInt = 3 := (by decide); have z8 : (4 : Int32).toInt = 4 := (by decide); have z9 : (42 : Int32).toInt = 42 := (by decide); have z10 : (45 : Int32).toInt = 45 := (by decide); have z11 : (46 : Int32).toInt = 46 := (by decide); have z12 : (47 : Int32).toInt = 47 := (by decide); have z13 : (5 : Int32).toInt = 5 := (by decide); have z14 : (6 : Int32).toInt = 6 := (by decide); have z15 : (7 : Int32).toInt = 7 := (by decide); have z16 : (8 : Int32).toInt = 8 := (by decide); omega))
                    refine R_iaload (pc := 309) dX9_narrow_309 (c_172 _) hx121 ?_
                    have hb1 : ¬ b = 0 := b252_99
                    have hjl : j242 < (σ.1 14047).toNatClampNeg := by have q := ltl_of (iv_14047 hI242) (show nI j242 < σ242.1 14047 from (Int32.not_le.mp b248_98)) (by omega); rw [hC242.1 14047 rfl] at q; exact q
                    have hlm : LmF σ c j242 := lmf_t hC242 (by have q := b268_105; rw [(idx6m (by omega)).2.1] at q; exact q) hf110
                    have hel1 : (σ242.2.2.1 172 (Int32.toNatClampNeg ((6 * (nI j242)) + 4))).toInt = (σ.2.2.1 172 (6 * j242 + 4)).toInt := by rw [(idx6m (by omega)).2.2.1, congrFun (hC242.2.2.1 172 rfl) _]
                    have hel2 : (σ242.2.2.1 172 (Int32.toNatClampNeg ((6 * (nI j242)) + 5))).toInt = (σ.2.2.1 172 (6 * j242 + 5)).toInt := by rw [(idx6m (by omega)).2.2.2.1, congrFun (hC242.2.2.1 172 rfl) _]
                    refine k_X9_212 (pc := 310) (ge_X9_outIn _ _ _ _ hI242 (show inR (nI c) 0 19 from inR_nI (M := 19) (by omega) (by decide))) rfl (c_140 _) (by decide) (Nat.le_refl _) (Nat.le_refl _) (Nat.le_of_ble_eq_true rfl) dX9_narrow_310 (fun w2 h => ?_)
                    obtain ⟨σx123, rfl, hV122, hW124, he125⟩ := h
                    have hW127 := Cor.trans hC242 hW124
                    have hS126 := stM_o (D := D) (c := c) (m := 1) he125 (nI_clamp (by omega)) hc (fun Z hZ _ => by rw [hel1]; exact (hZ.1 c hc).2.2.1 _ ((hK.2.2.2.2.2.1 c _ hc).1.mpr (Or.inr ⟨j242, hb1, hjl, hlm, rfl⟩))) (fun Z hZ _ => by rw [hel2]; exact (hZ.1 c hc).2.2.2 _ ((hK.2.2.2.2.2.1 c _ hc).2.mpr (Or.inr (Or.inr ⟨j242, hb1, hjl, hlm, rfl⟩)))) (by rw [hel1]; have := ((hK.2.2.2.2.2.2 c _ hc).1 ((hK.2.2.2.2.2.1 c _ hc).1.mpr (Or.inr ⟨j242, hb1, hjl, hlm, rfl⟩))); omega) (by rw [hel2]; have := ((hK.2.2.2.2.2.2 c _ hc).2 ((hK.2.2.2.2.2.1 c _ hc).2.mpr (Or.inr (Or.inr ⟨j242, hb1, hjl, hlm, rfl⟩)))); omega)
                    have hT128 := StM.tr hX242_0.1 hS126.1
                    have hB129 := hS126.2.2 hX242_0.2
                    have hK130 := lkm_st (lkm_st hK hC242 hX242_0.1.2.2) hW124 hS126.1.2.2
                    have hN1 := hS126.2.1
                    have hN1e := hS126.1.1.1
                    refine inc_5_4_1_i (pc := 313) dX9_narrow_313 ?_
                    have r131 : inR ((nI j242) + 1) 1 8 := inR_add (show inR (nI j242) 0 7 from hrg242) (show inR 1 1 1 from (inR_self _)) (by decide) (by decide)
                    have e132 := ti_add (l := 1) (h := 8) (show inR (nI j242) 0 7 from hrg242) (show inR 1 1 1 from (inR_self _)) (by decide) (by decide)
                    refine R_goto (pc := 316) 242 dX9_narrow_316 (by decide) ?_
                    rw [nI_1]
                    exact ih242 (j242 + 1) _ (by omega) (by omega) hV122 hW127 ⟨hT128, hB129⟩ (hX242_1.up hc hN1e) (ima_t hX242_2 hc hN1e (by have q := hN1.1; rw [hel1] at q; exact q) (by have q := hN1.2; rw [hel2] at q; exact q))
                  · skip
                    refine R_ifeq (pc := 281) 313 dX9_narrow_281 (by decide) (fun _ => ?_) (fun h => absurd (by decide) h)
                    refine inc_5_4_1_i (pc := 313) dX9_narrow_313 ?_
                    have r134 : inR ((nI j242) + 1) 1 8 := inR_add (show inR (nI j242) 0 7 from hrg242) (show inR 1 1 1 from (inR_self _)) (by decide) (by decide)
                    have e135 := ti_add (l := 1) (h := 8) (show inR (nI j242) 0 7 from hrg242) (show inR 1 1 1 from (inR_self _)) (by decide) (by decide)
                    refine R_goto (pc := 316) 242 dX9_narrow_316 (by decide) ?_
                    rw [nI_1]
                    exact ih242 (j242 + 1) _ (by omega) (by omega) hI242 hC242 ⟨hX242_0.1, hX242_0.2⟩ hX242_1 (ima_f hX242_2 hc (LeX.rfl' D _) (Or.inr (fun e => absurd (lmf_b hC242 e) (by rw [hf110]; decide))))
        exact HL242 8 0 _ (by omega) (by omega) hV88 hW93 ⟨hT94, hB95⟩ (rc_m hc hX10_0.1.1.1 hM1e hM2e hM3e hX10_1 hM2.1 hM3.2) (ima_0 (d3 := 0) hc hM2e hM3e heb1 heb2 hM1.1 hM1.2 (Or.inl hpo) (fun q => absurd hpo q))
    | succ q ih10 =>
      intro j10 σ10 hj hs10 hI10 hC10 hX10_0 hX10_1
      have hrg10 : inR (nI j10) 0 7 := inR_ix hs10 (show j10 < 8 by omega) (by decide) (by decide) (by decide)
      have hlt10 : j10 < 8 := by omega
      refine R_iload (pc := 10) dX9_narrow_10 rfl ?_
      refine R_bipush (pc := 12) (v := 8) dX9_narrow_12 (by decide) ?_
      refine R_icge (pc := 14) 167 dX9_narrow_14 (by decide) (fun h => False.elim (by have q1 := ti_le h; have q2 := ti_in (show inR (nI j10) 0 7 from hrg10); have q3 := ti_in (show inR 8 8 8 from (inR_self _)); have z0 : (0 : Int32).toInt = 0 := (by decide);  have z1 : (7 : Int32).toInt = 7 := (by decide);  have z2 : (8 : Int32).toInt = 8 := (by decide); omega)) (fun _ => ?_)
      refine R_aload_n (pc := 17) dX9_narrow_17 rfl rfl ?_
      refine g_X9_72 (pc := 18) (v := .ref 158) rfl dX9_narrow_18 (c_140 _) rfl ?_
      refine R_bipush (pc := 21) (v := 8) dX9_narrow_21 (by decide) ?_
      refine R_iload_n (pc := 23) dX9_narrow_23 rfl rfl ?_
      refine R_imul (pc := 24) dX9_narrow_24 ?_
      have r137 : inR (8 * (nI c)) 0 152 := inR_mulc (c := 8) (l := 0) (h := 152) 8 (by decide) (show inR (nI c) 0 19 from (show inR (nI c) 0 19 from inR_nI (M := 19) (by omega) (by decide))) (by decide) (by decide)
      have e138 := ti_mulc (c := 8) (l := 0) (h := 152) 8 (by decide) (show inR (nI c) 0 19 from (show inR (nI c) 0 19 from inR_nI (M := 19) (by omega) (by decide))) (by decide) (by decide)
      refine R_iload (pc := 25) dX9_narrow_25 rfl ?_
      refine R_iadd (pc := 27) dX9_narrow_27 ?_
      have r139 : inR ((8 * (nI c)) + (nI j10)) 0 159 := inR_add (show inR (8 * (nI c)) 0 152 from r137) (show inR (nI j10) 0 7 from hrg10) (by decide) (by decide)
      have e140 := ti_add (l := 0) (h := 159) (show inR (8 * (nI c)) 0 152 from r137) (show inR (nI j10) 0 7 from hrg10) (by decide) (by decide)
      have hx141 : vp_in ((8 * (nI c)) + (nI j10)) 160 := (vp_of_inR r139 (by decide))
      refine R_iaload (pc := 28) dX9_narrow_28 (c_158 _) hx141 ?_
      have hf8 : j10 < 8 := by omega
      have hff := hff9 (lkm_st hK hC10 hX10_0.1.2.2) hf8
      have hsh := (lkm_st hK hC10 hX10_0.1.2.2).2.2.1 c j10 hc hf8
      refine R_cv (σ10.2.2.1 158 (8 * c + j10)) (by show (σ10.2.2.1 158 (Int32.toNatClampNeg ((8 * (nI c)) + (nI j10)))) = _; rw [idx8m (by omega) (by omega)]) ?_
      refine R_iconst (pc := 29) (v := 1) dX9_narrow_29 (by decide) ?_
      refine R_icne (pc := 30) 52 dX9_narrow_30 (by decide) (fun b30_142 => ?_) (fun b30_142 => ?_)
      · skip
        have hsS0 : ¬ dS D c j10 := fun q => b30_142 (hsh.1.mp q)
        refine R_aload_n (pc := 52) dX9_narrow_52 rfl rfl ?_
        refine g_X9_72 (pc := 53) (v := .ref 158) rfl dX9_narrow_53 (c_140 _) rfl ?_
        refine R_bipush (pc := 56) (v := 8) dX9_narrow_56 (by decide) ?_
        refine R_iload_n (pc := 58) dX9_narrow_58 rfl rfl ?_
        refine R_imul (pc := 59) dX9_narrow_59 ?_
        have r143 : inR (8 * (nI c)) 0 152 := inR_mulc (c := 8) (l := 0) (h := 152) 8 (by decide) (show inR (nI c) 0 19 from (show inR (nI c) 0 19 from inR_nI (M := 19) (by omega) (by decide))) (by decide) (by decide)
        have e144 := ti_mulc (c := 8) (l := 0) (h := 152) 8 (by decide) (show inR (nI c) 0 19 from (show inR (nI c) 0 19 from inR_nI (M := 19) (by omega) (by decide))) (by decide) (by decide)
        refine R_iload (pc := 60) dX9_narrow_60 rfl ?_
        refine R_iadd (pc := 62) dX9_narrow_62 ?_
        have r145 : inR ((8 * (nI c)) + (nI j10)) 0 159 := inR_add (show inR (8 * (nI c)) 0 152 from r143) (show inR (nI j10) 0 7 from hrg10) (by decide) (by decide)
        have e146 := ti_add (l := 0) (h := 159) (show inR (8 * (nI c)) 0 152 from r143) (show inR (nI j10) 0 7 from hrg10) (by decide) (by decide)
        have hx147 : vp_in ((8 * (nI c)) + (nI j10)) 160 := (vp_of_inR r145 (by decide))
        refine R_iaload (pc := 63) dX9_narrow_63 (c_158 _) hx147 ?_
        refine R_cv (σ10.2.2.1 158 (8 * c + j10)) (by show (σ10.2.2.1 158 (Int32.toNatClampNeg ((8 * (nI c)) + (nI j10)))) = _; rw [idx8m (by omega) (by omega)]) ?_
        refine R_ifne (pc := 64) 161 dX9_narrow_64 (by decide) (fun b64_148 => ?_) (fun b64_148 => ?_)
        · skip
          refine inc_5_4_1_i (pc := 161) dX9_narrow_161 ?_
          have r149 : inR ((nI j10) + 1) 1 8 := inR_add (show inR (nI j10) 0 7 from hrg10) (show inR 1 1 1 from (inR_self _)) (by decide) (by decide)
          have e150 := ti_add (l := 1) (h := 8) (show inR (nI j10) 0 7 from hrg10) (show inR 1 1 1 from (inR_self _)) (by decide) (by decide)
          refine R_goto (pc := 164) 10 dX9_narrow_164 (by decide) ?_
          rw [nI_1]
          exact ih10 (j10 + 1) _ (by omega) (by omega) hI10 hC10 ⟨hX10_0.1, hX10_0.2⟩ (rf_s hX10_1 hc (LeX.rfl' D _) (rf_2 hsS0 (fun q => b64_148 (hsh.2.mp q))))
        · skip
          have hsH : dH D c j10 := hsh.2.mpr b64_148
          refine R_aload_n (pc := 67) dX9_narrow_67 rfl rfl ?_
          refine R_iload_n (pc := 68) dX9_narrow_68 rfl rfl ?_
          refine R_aload_n (pc := 69) dX9_narrow_69 rfl rfl ?_
          refine g_X9_87 (pc := 70) (v := .ref 163) rfl dX9_narrow_70 (c_140 _) rfl ?_
          refine R_iload_n (pc := 73) dX9_narrow_73 rfl rfl ?_
          have hx151 : vp_in (nI (dg D c)) 20 := (vp_of_inR (show inR (nI (dg D c)) 0 19 from inR_nI (M := 19) (Nat.le_of_lt_succ (hK.2.1 c hc).2.1) (by decide)) (by decide))
          refine R_iaload (pc := 74) dX9_narrow_74 (c_163 _) hx151 ?_
          refine R_cv (σ10.2.2.1 163 (dg D c)) (by rw [nI_clamp (by have q := (hK.2.1 c hc).2.1; omega)]) ?_
          refine R_aload_n (pc := 75) dX9_narrow_75 rfl rfl ?_
          refine g_X9_66 (pc := 76) (v := .ref 156) rfl dX9_narrow_76 (c_140 _) rfl ?_
          refine R_iload (pc := 79) dX9_narrow_79 rfl ?_
          have hx152 : vp_in (nI j10) 8 := (vp_in_nI (by omega) (by decide))
          refine R_iaload (pc := 81) dX9_narrow_81 (c_156 _) hx152 ?_
          refine R_cv (σ10.2.2.1 156 j10) (by show (σ10.2.2.1 156 (Int32.toNatClampNeg (nI j10))) = _; rw [nI_clamp (by omega)]) ?_
          refine R_aload_n (pc := 82) dX9_narrow_82 rfl rfl ?_
          refine g_X9_69 (pc := 83) (v := .ref 157) rfl dX9_narrow_83 (c_140 _) rfl ?_
          refine R_iload (pc := 86) dX9_narrow_86 rfl ?_
          have hx153 : vp_in (nI j10) 8 := (vp_in_nI (by omega) (by decide))
          refine R_iaload (pc := 88) dX9_narrow_88 (c_157 _) hx153 ?_
          refine R_cv (σ10.2.2.1 157 j10) (by show (σ10.2.2.1 157 (Int32.toNatClampNeg (nI j10))) = _; rw [nI_clamp (by omega)]) ?_
          refine k_X9_124 (pc := 89) (sp_X9_in _ _ _ _) rfl (by decide) (Nat.le_refl _) (Nat.le_refl _) (Nat.le_of_ble_eq_true rfl) dX9_narrow_89 (fun x w2 h => ?_)
          rcases h with ⟨rfl, ⟨h154, rfl⟩ | ⟨h154, rfl⟩⟩
          · skip
            refine R_ifeq (pc := 92) 107 dX9_narrow_92 (by decide) (fun h => absurd h (by decide)) (fun _ => ?_)
            refine R_aload_n (pc := 95) dX9_narrow_95 rfl rfl ?_
            refine g_X9_69 (pc := 96) (v := .ref 157) rfl dX9_narrow_96 (c_140 _) rfl ?_
            refine R_iload (pc := 99) dX9_narrow_99 rfl ?_
            have hx156 : vp_in (nI j10) 8 := (vp_in_nI (by omega) (by decide))
            refine R_iaload (pc := 101) dX9_narrow_101 (c_157 _) hx156 ?_
            refine R_cv (σ10.2.2.1 157 j10) (by show (σ10.2.2.1 157 (Int32.toNatClampNeg (nI j10))) = _; rw [nI_clamp (by omega)]) ?_
            refine R_iconst (pc := 102) (v := 1) dX9_narrow_102 (by decide) ?_
            refine R_iadd (pc := 103) dX9_narrow_103 ?_
            have r157 : inR ((σ10.2.2.1 157 j10) + 1) 1 20001 := inR_add (show inR (σ10.2.2.1 157 j10) 0 20000 from (rng_f hff.2.1 hff.2.2.2.2.1 hff.2.2.2.2.2)) (show inR 1 1 1 from (inR_self _)) (by decide) (by decide)
            have e158 := ti_add (l := 1) (h := 20001) (show inR (σ10.2.2.1 157 j10) 0 20000 from (rng_f hff.2.1 hff.2.2.2.2.1 hff.2.2.2.2.2)) (show inR 1 1 1 from (inR_self _)) (by decide) (by decide)
            refine R_goto (pc := 104) 108 dX9_narrow_104 (by decide) ?_
            refine R_sipush (pc := 108) (v := 20000) dX9_narrow_108 (by decide) ?_
            have hft1 : ((σ10.2.2.1 157 j10) + 1).toInt = dft D j10 + 1 := by rw [ti_add (l := 1) (h := 20001) (rng_f hff.2.1 hff.2.2.2.2.1 hff.2.2.2.2.2) (inR_self 1) (by decide) (by decide), hff.2.1]; rfl
            have hin1 := in_ff (h154) hff.1 hff.2.1
            refine k_X9_208 (pc := 111) (ge_X9_takenIn _ _ _ _ hI10 (show inR (nI (dg D c)) 0 19 from inR_nI (M := 19) (Nat.le_of_lt_succ (hK.2.1 c hc).2.1) (by decide))) rfl (c_140 _) (by decide) (Nat.le_refl _) (Nat.le_refl _) (Nat.le_of_ble_eq_true rfl) dX9_narrow_111 (fun w2 h => ?_)
            obtain ⟨σx160, rfl, hV159, hW161, he162⟩ := h
            have hW164 := Cor.trans hC10 hW161
            have hS163 := stM_t (D := D) (c := c) (m := 1) he162 (nI_clamp (by have q := (hK.2.1 c hc).2.1; omega)) hc (fun Z hZ hle => by rw [hft1]; exact hid_f hZ hc hf8 hsH hle hin1.1 hin1.2) (fun Z hZ _ => by rw [z2_ti]; exact (hZ.1 c hc).2.1) (by rw [hft1]; have := hff.2.2.2.2.2; omega) (by rw [z2_ti]; omega)
            have hT165 := StM.tr hX10_0.1 hS163.1
            have hB166 := hS163.2.2 hX10_0.2
            have hK167 := lkm_st (lkm_st hK hC10 hX10_0.1.2.2) hW161 hS163.1.2.2
            have hL2 := hS163.2.1
            have hL2e := hS163.1.1.1
            have hw111 : Cor σ10 σx160 := hW161
            refine R_aload_n (pc := 114) dX9_narrow_114 rfl rfl ?_
            refine R_iload_n (pc := 115) dX9_narrow_115 rfl rfl ?_
            refine R_iconst (pc := 116) (v := 0) dX9_narrow_116 (by decide) ?_
            refine R_aload_n (pc := 117) dX9_narrow_117 rfl rfl ?_
            refine g_X9_90 (pc := 118) (v := .ref 164) rfl dX9_narrow_118 (c_140 _) rfl ?_
            refine R_iload_n (pc := 121) dX9_narrow_121 rfl rfl ?_
            have hx168 : vp_in (nI (dg D c)) 20 := (vp_of_inR (show inR (nI (dg D c)) 0 19 from inR_nI (M := 19) (Nat.le_of_lt_succ (hK.2.1 c hc).2.1) (by decide)) (by decide))
            refine R_iaload (pc := 122) dX9_narrow_122 (c_164 _) hx168 ?_
            refine R_cv (σx160.2.2.1 164 (dg D c)) (by rw [nI_clamp (by have q := (hK.2.1 c hc).2.1; omega)]) ?_
            refine R_aload_n (pc := 123) dX9_narrow_123 rfl rfl ?_
            refine g_X9_66 (pc := 124) (v := .ref 156) rfl dX9_narrow_124 (c_140 _) rfl ?_
            refine R_iload (pc := 127) dX9_narrow_127 rfl ?_
            have hx169 : vp_in (nI j10) 8 := (vp_in_nI (by omega) (by decide))
            refine R_iaload (pc := 129) dX9_narrow_129 (c_156 _) hx169 ?_
            refine R_cv (σ10.2.2.1 156 j10) (by show (σx160.2.2.1 156 (Int32.toNatClampNeg (nI j10))) = _; rw [nI_clamp (by omega), ← show σ10.2.2.1 156 = σx160.2.2.1 156 from (hw111.2.2.1 156 rfl).symm]) ?_
            refine R_aload_n (pc := 130) dX9_narrow_130 rfl rfl ?_
            refine g_X9_69 (pc := 131) (v := .ref 157) rfl dX9_narrow_131 (c_140 _) rfl ?_
            refine R_iload (pc := 134) dX9_narrow_134 rfl ?_
            have hx170 : vp_in (nI j10) 8 := (vp_in_nI (by omega) (by decide))
            refine R_iaload (pc := 136) dX9_narrow_136 (c_157 _) hx170 ?_
            refine R_cv (σ10.2.2.1 157 j10) (by show (σx160.2.2.1 157 (Int32.toNatClampNeg (nI j10))) = _; rw [nI_clamp (by omega), ← show σ10.2.2.1 157 = σx160.2.2.1 157 from (hw111.2.2.1 157 rfl).symm]) ?_
            refine k_X9_124 (pc := 137) (sp_X9_in _ _ _ _) rfl (by decide) (Nat.le_refl _) (Nat.le_refl _) (Nat.le_of_ble_eq_true rfl) dX9_narrow_137 (fun x w2 h => ?_)
            rcases h with ⟨rfl, ⟨h171, rfl⟩ | ⟨h171, rfl⟩⟩
            · skip
              refine R_ifeq (pc := 140) 155 dX9_narrow_140 (by decide) (fun h => absurd h (by decide)) (fun _ => ?_)
              refine R_aload_n (pc := 143) dX9_narrow_143 rfl rfl ?_
              refine g_X9_66 (pc := 144) (v := .ref 156) rfl dX9_narrow_144 (c_140 _) rfl ?_
              refine R_iload (pc := 147) dX9_narrow_147 rfl ?_
              have hx173 : vp_in (nI j10) 8 := (vp_in_nI (by omega) (by decide))
              refine R_iaload (pc := 149) dX9_narrow_149 (c_156 _) hx173 ?_
              refine R_cv (σ10.2.2.1 156 j10) (by show (σx160.2.2.1 156 (Int32.toNatClampNeg (nI j10))) = _; rw [nI_clamp (by omega), ← show σ10.2.2.1 156 = σx160.2.2.1 156 from (hw111.2.2.1 156 rfl).symm]) ?_
              refine R_iconst (pc := 150) (v := 1) dX9_narrow_150 (by decide) ?_
              refine R_isub (pc := 151) dX9_narrow_151 ?_
              have r174 : inR ((σ10.2.2.1 156 j10) - 1) (-1) 19999 := inR_sub (show inR (σ10.2.2.1 156 j10) 0 20000 from (rng_f hff.1 hff.2.2.1 hff.2.2.2.1)) (show inR 1 1 1 from (inR_self _)) (by decide) (by decide)
              have e175 := ti_sub (l := (-1)) (h := 19999) (show inR (σ10.2.2.1 156 j10) 0 20000 from (rng_f hff.1 hff.2.2.1 hff.2.2.2.1)) (show inR 1 1 1 from (inR_self _)) (by decide) (by decide)
              refine R_goto (pc := 152) 158 dX9_narrow_152 (by decide) ?_
              have hff1 : ((σ10.2.2.1 156 j10) - 1).toInt = dff D j10 - 1 := by rw [ti_sub (l := -1) (h := 19999) (rng_f hff.1 hff.2.2.1 hff.2.2.2.1) (inR_self 1) (by decide) (by decide), hff.1]; rfl
              have hin2 := in_ff (h171) hff.1 hff.2.1
              refine k_X9_208 (pc := 158) (ge_X9_takenIn _ _ _ _ hV159 (show inR (nI (dg D c)) 0 19 from inR_nI (M := 19) (Nat.le_of_lt_succ (hK.2.1 c hc).2.1) (by decide))) rfl (c_140 _) (by decide) (Nat.le_refl _) (Nat.le_refl _) (Nat.le_of_ble_eq_true rfl) dX9_narrow_158 (fun w2 h => ?_)
              obtain ⟨σx177, rfl, hV176, hW178, he179⟩ := h
              have hW181 := Cor.trans hW164 hW178
              have hS180 := stM_t (D := D) (c := c) (m := 1) he179 (nI_clamp (by have q := (hK.2.1 c hc).2.1; omega)) hc (fun Z hZ _ => by rw [z0_ti]; exact (hZ.1 c hc).1) (fun Z hZ hle => by rw [hff1]; exact hid_t hZ hc hf8 hsH hle hin2.1 hin2.2) (by rw [z0_ti]; omega) (by rw [hff1]; have := hff.2.2.1; omega)
              have hT182 := StM.tr hT165 hS180.1
              have hB183 := hS180.2.2 hB166
              have hK184 := lkm_st hK167 hW178 hS180.1.2.2
              have hL3 := hS180.2.1
              have hL3e := hS180.1.1.1
              refine inc_5_4_1_i (pc := 161) dX9_narrow_161 ?_
              have r185 : inR ((nI j10) + 1) 1 8 := inR_add (show inR (nI j10) 0 7 from hrg10) (show inR 1 1 1 from (inR_self _)) (by decide) (by decide)
              have e186 := ti_add (l := 1) (h := 8) (show inR (nI j10) 0 7 from hrg10) (show inR 1 1 1 from (inR_self _)) (by decide) (by decide)
              refine R_goto (pc := 164) 10 dX9_narrow_164 (by decide) ?_
              rw [nI_1]
              exact ih10 (j10 + 1) _ (by omega) (by omega) hV176 hW181 ⟨hT182, hB183⟩ (rf_s hX10_1 hc (LeX.tr hL2e hL3e) (rf_0 hsS0 (fun _ _ => by have q := hL2.1; rw [hft1] at q; have r := (hL3e c hc).1; omega) (fun _ _ => by have q := hL3.2; rw [hff1] at q; exact q)))
            · skip
              refine R_ifeq (pc := 140) 155 dX9_narrow_140 (by decide) (fun _ => ?_) (fun h => absurd (by decide) h)
              refine R_sipush (pc := 155) (v := 20000) dX9_narrow_155 (by decide) ?_
              refine k_X9_208 (pc := 158) (ge_X9_takenIn _ _ _ _ hV159 (show inR (nI (dg D c)) 0 19 from inR_nI (M := 19) (Nat.le_of_lt_succ (hK.2.1 c hc).2.1) (by decide))) rfl (c_140 _) (by decide) (Nat.le_refl _) (Nat.le_refl _) (Nat.le_of_ble_eq_true rfl) dX9_narrow_158 (fun w2 h => ?_)
              obtain ⟨σx189, rfl, hV188, hW190, he191⟩ := h
              have hW193 := Cor.trans hW164 hW190
              have hS192 := stM_t (D := D) (c := c) (m := 1) he191 (nI_clamp (by have q := (hK.2.1 c hc).2.1; omega)) hc (fun Z hZ _ => by rw [z0_ti]; exact (hZ.1 c hc).1) (fun Z hZ _ => by rw [z2_ti]; exact (hZ.1 c hc).2.1) (by rw [z0_ti]; omega) (by rw [z2_ti]; omega)
              have hT194 := StM.tr hT165 hS192.1
              have hB195 := hS192.2.2 hB166
              have hK196 := lkm_st hK167 hW190 hS192.1.2.2
              have hL3 := hS192.2.1
              have hL3e := hS192.1.1.1
              refine inc_5_4_1_i (pc := 161) dX9_narrow_161 ?_
              have r197 : inR ((nI j10) + 1) 1 8 := inR_add (show inR (nI j10) 0 7 from hrg10) (show inR 1 1 1 from (inR_self _)) (by decide) (by decide)
              have e198 := ti_add (l := 1) (h := 8) (show inR (nI j10) 0 7 from hrg10) (show inR 1 1 1 from (inR_self _)) (by decide) (by decide)
              refine R_goto (pc := 164) 10 dX9_narrow_164 (by decide) ?_
              rw [nI_1]
              exact ih10 (j10 + 1) _ (by omega) (by omega) hV188 hW193 ⟨hT194, hB195⟩ (rf_s hX10_1 hc (LeX.tr hL2e hL3e) (rf_0 hsS0 (fun _ _ => by have q := hL2.1; rw [hft1] at q; have r := (hL3e c hc).1; omega) (fun h1 h2 => rf_n2 h171 hff.1 hff.2.1 (Int.le_trans (hL2e c hc).2.1 (hX10_0.1.1.1 c hc).2.1) h1 h2 (hL3e c hc).2.1)))
          · skip
            refine R_ifeq (pc := 92) 107 dX9_narrow_92 (by decide) (fun _ => ?_) (fun h => absurd (by decide) h)
            refine R_iconst (pc := 107) (v := 0) dX9_narrow_107 (by decide) ?_
            refine R_sipush (pc := 108) (v := 20000) dX9_narrow_108 (by decide) ?_
            refine k_X9_208 (pc := 111) (ge_X9_takenIn _ _ _ _ hI10 (show inR (nI (dg D c)) 0 19 from inR_nI (M := 19) (Nat.le_of_lt_succ (hK.2.1 c hc).2.1) (by decide))) rfl (c_140 _) (by decide) (Nat.le_refl _) (Nat.le_refl _) (Nat.le_of_ble_eq_true rfl) dX9_narrow_111 (fun w2 h => ?_)
            obtain ⟨σx201, rfl, hV200, hW202, he203⟩ := h
            have hW205 := Cor.trans hC10 hW202
            have hS204 := stM_t (D := D) (c := c) (m := 1) he203 (nI_clamp (by have q := (hK.2.1 c hc).2.1; omega)) hc (fun Z hZ _ => by rw [z0_ti]; exact (hZ.1 c hc).1) (fun Z hZ _ => by rw [z2_ti]; exact (hZ.1 c hc).2.1) (by rw [z0_ti]; omega) (by rw [z2_ti]; omega)
            have hT206 := StM.tr hX10_0.1 hS204.1
            have hB207 := hS204.2.2 hX10_0.2
            have hK208 := lkm_st (lkm_st hK hC10 hX10_0.1.2.2) hW202 hS204.1.2.2
            have hL2 := hS204.2.1
            have hL2e := hS204.1.1.1
            have hw111 : Cor σ10 σx201 := hW202
            refine R_aload_n (pc := 114) dX9_narrow_114 rfl rfl ?_
            refine R_iload_n (pc := 115) dX9_narrow_115 rfl rfl ?_
            refine R_iconst (pc := 116) (v := 0) dX9_narrow_116 (by decide) ?_
            refine R_aload_n (pc := 117) dX9_narrow_117 rfl rfl ?_
            refine g_X9_90 (pc := 118) (v := .ref 164) rfl dX9_narrow_118 (c_140 _) rfl ?_
            refine R_iload_n (pc := 121) dX9_narrow_121 rfl rfl ?_
            have hx209 : vp_in (nI (dg D c)) 20 := (vp_of_inR (show inR (nI (dg D c)) 0 19 from inR_nI (M := 19) (Nat.le_of_lt_succ (hK.2.1 c hc).2.1) (by decide)) (by decide))
            refine R_iaload (pc := 122) dX9_narrow_122 (c_164 _) hx209 ?_
            refine R_cv (σx201.2.2.1 164 (dg D c)) (by rw [nI_clamp (by have q := (hK.2.1 c hc).2.1; omega)]) ?_
            refine R_aload_n (pc := 123) dX9_narrow_123 rfl rfl ?_
            refine g_X9_66 (pc := 124) (v := .ref 156) rfl dX9_narrow_124 (c_140 _) rfl ?_
            refine R_iload (pc := 127) dX9_narrow_127 rfl ?_
            have hx210 : vp_in (nI j10) 8 := (vp_in_nI (by omega) (by decide))
            refine R_iaload (pc := 129) dX9_narrow_129 (c_156 _) hx210 ?_
            refine R_cv (σ10.2.2.1 156 j10) (by show (σx201.2.2.1 156 (Int32.toNatClampNeg (nI j10))) = _; rw [nI_clamp (by omega), ← show σ10.2.2.1 156 = σx201.2.2.1 156 from (hw111.2.2.1 156 rfl).symm]) ?_
            refine R_aload_n (pc := 130) dX9_narrow_130 rfl rfl ?_
            refine g_X9_69 (pc := 131) (v := .ref 157) rfl dX9_narrow_131 (c_140 _) rfl ?_
            refine R_iload (pc := 134) dX9_narrow_134 rfl ?_
            have hx211 : vp_in (nI j10) 8 := (vp_in_nI (by omega) (by decide))
            refine R_iaload (pc := 136) dX9_narrow_136 (c_157 _) hx211 ?_
            refine R_cv (σ10.2.2.1 157 j10) (by show (σx201.2.2.1 157 (Int32.toNatClampNeg (nI j10))) = _; rw [nI_clamp (by omega), ← show σ10.2.2.1 157 = σx201.2.2.1 157 from (hw111.2.2.1 157 rfl).symm]) ?_
            refine k_X9_124 (pc := 137) (sp_X9_in _ _ _ _) rfl (by decide) (Nat.le_refl _) (Nat.le_refl _) (Nat.le_of_ble_eq_true rfl) dX9_narrow_137 (fun x w2 h => ?_)
            rcases h with ⟨rfl, ⟨h212, rfl⟩ | ⟨h212, rfl⟩⟩
            · skip
              refine R_ifeq (pc := 140) 155 dX9_narrow_140 (by decide) (fun h => absurd h (by decide)) (fun _ => ?_)
              refine R_aload_n (pc := 143) dX9_narrow_143 rfl rfl ?_
              refine g_X9_66 (pc := 144) (v := .ref 156) rfl dX9_narrow_144 (c_140 _) rfl ?_
              refine R_iload (pc := 147) dX9_narrow_147 rfl ?_
              have hx214 : vp_in (nI j10) 8 := (vp_in_nI (by omega) (by decide))
              refine R_iaload (pc := 149) dX9_narrow_149 (c_156 _) hx214 ?_
              refine R_cv (σ10.2.2.1 156 j10) (by show (σx201.2.2.1 156 (Int32.toNatClampNeg (nI j10))) = _; rw [nI_clamp (by omega), ← show σ10.2.2.1 156 = σx201.2.2.1 156 from (hw111.2.2.1 156 rfl).symm]) ?_
              refine R_iconst (pc := 150) (v := 1) dX9_narrow_150 (by decide) ?_
              refine R_isub (pc := 151) dX9_narrow_151 ?_
              have r215 : inR ((σ10.2.2.1 156 j10) - 1) (-1) 19999 := inR_sub (show inR (σ10.2.2.1 156 j10) 0 20000 from (rng_f hff.1 hff.2.2.1 hff.2.2.2.1)) (show inR 1 1 1 from (inR_self _)) (by decide) (by decide)
              have e216 := ti_sub (l := (-1)) (h := 19999) (show inR (σ10.2.2.1 156 j10) 0 20000 from (rng_f hff.1 hff.2.2.1 hff.2.2.2.1)) (show inR 1 1 1 from (inR_self _)) (by decide) (by decide)
              refine R_goto (pc := 152) 158 dX9_narrow_152 (by decide) ?_
              have hff1 : ((σ10.2.2.1 156 j10) - 1).toInt = dff D j10 - 1 := by rw [ti_sub (l := -1) (h := 19999) (rng_f hff.1 hff.2.2.1 hff.2.2.2.1) (inR_self 1) (by decide) (by decide), hff.1]; rfl
              have hin2 := in_ff (h212) hff.1 hff.2.1
              refine k_X9_208 (pc := 158) (ge_X9_takenIn _ _ _ _ hV200 (show inR (nI (dg D c)) 0 19 from inR_nI (M := 19) (Nat.le_of_lt_succ (hK.2.1 c hc).2.1) (by decide))) rfl (c_140 _) (by decide) (Nat.le_refl _) (Nat.le_refl _) (Nat.le_of_ble_eq_true rfl) dX9_narrow_158 (fun w2 h => ?_)
              obtain ⟨σx218, rfl, hV217, hW219, he220⟩ := h
              have hW222 := Cor.trans hW205 hW219
              have hS221 := stM_t (D := D) (c := c) (m := 1) he220 (nI_clamp (by have q := (hK.2.1 c hc).2.1; omega)) hc (fun Z hZ _ => by rw [z0_ti]; exact (hZ.1 c hc).1) (fun Z hZ hle => by rw [hff1]; exact hid_t hZ hc hf8 hsH hle hin2.1 hin2.2) (by rw [z0_ti]; omega) (by rw [hff1]; have := hff.2.2.1; omega)
              have hT223 := StM.tr hT206 hS221.1
              have hB224 := hS221.2.2 hB207
              have hK225 := lkm_st hK208 hW219 hS221.1.2.2
              have hL3 := hS221.2.1
              have hL3e := hS221.1.1.1
              refine inc_5_4_1_i (pc := 161) dX9_narrow_161 ?_
              have r226 : inR ((nI j10) + 1) 1 8 := inR_add (show inR (nI j10) 0 7 from hrg10) (show inR 1 1 1 from (inR_self _)) (by decide) (by decide)
              have e227 := ti_add (l := 1) (h := 8) (show inR (nI j10) 0 7 from hrg10) (show inR 1 1 1 from (inR_self _)) (by decide) (by decide)
              refine R_goto (pc := 164) 10 dX9_narrow_164 (by decide) ?_
              rw [nI_1]
              exact ih10 (j10 + 1) _ (by omega) (by omega) hV217 hW222 ⟨hT223, hB224⟩ (rf_s hX10_1 hc (LeX.tr hL2e hL3e) (rf_0 hsS0 (fun h1 h2 => rf_n1 h154 hff.1 hff.2.1 (hX10_0.1.1.1 c hc).1 h1 h2 (LeX.tr hL2e hL3e c hc).1) (fun _ _ => by have q := hL3.2; rw [hff1] at q; exact q)))
            · skip
              refine R_ifeq (pc := 140) 155 dX9_narrow_140 (by decide) (fun _ => ?_) (fun h => absurd (by decide) h)
              refine R_sipush (pc := 155) (v := 20000) dX9_narrow_155 (by decide) ?_
              refine k_X9_208 (pc := 158) (ge_X9_takenIn _ _ _ _ hV200 (show inR (nI (dg D c)) 0 19 from inR_nI (M := 19) (Nat.le_of_lt_succ (hK.2.1 c hc).2.1) (by decide))) rfl (c_140 _) (by decide) (Nat.le_refl _) (Nat.le_refl _) (Nat.le_of_ble_eq_true rfl) dX9_narrow_158 (fun w2 h => ?_)
              obtain ⟨σx230, rfl, hV229, hW231, he232⟩ := h
              have hW234 := Cor.trans hW205 hW231
              have hS233 := stM_t (D := D) (c := c) (m := 1) he232 (nI_clamp (by have q := (hK.2.1 c hc).2.1; omega)) hc (fun Z hZ _ => by rw [z0_ti]; exact (hZ.1 c hc).1) (fun Z hZ _ => by rw [z2_ti]; exact (hZ.1 c hc).2.1) (by rw [z0_ti]; omega) (by rw [z2_ti]; omega)
              have hT235 := StM.tr hT206 hS233.1
              have hB236 := hS233.2.2 hB207
              have hK237 := lkm_st hK208 hW231 hS233.1.2.2
              have hL3 := hS233.2.1
              have hL3e := hS233.1.1.1
              refine inc_5_4_1_i (pc := 161) dX9_narrow_161 ?_
              have r238 : inR ((nI j10) + 1) 1 8 := inR_add (show inR (nI j10) 0 7 from hrg10) (show inR 1 1 1 from (inR_self _)) (by decide) (by decide)
              have e239 := ti_add (l := 1) (h := 8) (show inR (nI j10) 0 7 from hrg10) (show inR 1 1 1 from (inR_self _)) (by decide) (by decide)
              refine R_goto (pc := 164) 10 dX9_narrow_164 (by decide) ?_
              rw [nI_1]
              exact ih10 (j10 + 1) _ (by omega) (by omega) hV229 hW234 ⟨hT235, hB236⟩ (rf_s hX10_1 hc (LeX.tr hL2e hL3e) (rf_0 hsS0 (fun h1 h2 => rf_n1 h154 hff.1 hff.2.1 (hX10_0.1.1.1 c hc).1 h1 h2 (LeX.tr hL2e hL3e c hc).1) (fun h1 h2 => rf_n2 h212 hff.1 hff.2.1 (Int.le_trans (hL2e c hc).2.1 (hX10_0.1.1.1 c hc).2.1) h1 h2 (hL3e c hc).2.1)))
      · skip
        have hsS : dS D c j10 := hsh.1.mpr b30_142
        have hsH0 : ¬ dH D c j10 := fun q => absurd (b30_142.symm.trans (hsh.2.mp q)) (by decide)
        refine R_aload_n (pc := 33) dX9_narrow_33 rfl rfl ?_
        refine R_iload_n (pc := 34) dX9_narrow_34 rfl rfl ?_
        refine R_aload_n (pc := 35) dX9_narrow_35 rfl rfl ?_
        refine g_X9_66 (pc := 36) (v := .ref 156) rfl dX9_narrow_36 (c_140 _) rfl ?_
        refine R_iload (pc := 39) dX9_narrow_39 rfl ?_
        have hx240 : vp_in (nI j10) 8 := (vp_in_nI (by omega) (by decide))
        refine R_iaload (pc := 41) dX9_narrow_41 (c_156 _) hx240 ?_
        refine R_cv (σ10.2.2.1 156 j10) (by show (σ10.2.2.1 156 (Int32.toNatClampNeg (nI j10))) = _; rw [nI_clamp (by omega)]) ?_
        refine R_aload_n (pc := 42) dX9_narrow_42 rfl rfl ?_
        refine g_X9_69 (pc := 43) (v := .ref 157) rfl dX9_narrow_43 (c_140 _) rfl ?_
        refine R_iload (pc := 46) dX9_narrow_46 rfl ?_
        have hx241 : vp_in (nI j10) 8 := (vp_in_nI (by omega) (by decide))
        refine R_iaload (pc := 48) dX9_narrow_48 (c_157 _) hx241 ?_
        refine R_cv (σ10.2.2.1 157 j10) (by show (σ10.2.2.1 157 (Int32.toNatClampNeg (nI j10))) = _; rw [nI_clamp (by omega)]) ?_
        refine k_X9_208 (pc := 49) (ge_X9_takenIn _ _ _ _ hI10 (show inR (nI (dg D c)) 0 19 from inR_nI (M := 19) (Nat.le_of_lt_succ (hK.2.1 c hc).2.1) (by decide))) rfl (c_140 _) (by decide) (Nat.le_refl _) (Nat.le_refl _) (Nat.le_of_ble_eq_true rfl) dX9_narrow_49 (fun w2 h => ?_)
        obtain ⟨σx243, rfl, hV242, hW244, he245⟩ := h
        have hW247 := Cor.trans hC10 hW244
        have hS246 := stM_t (D := D) (c := c) (m := 1) he245 (nI_clamp (by have q := (hK.2.1 c hc).2.1; omega)) hc (fun Z hZ _ => by rw [hff.1]; exact (((hZ.2 c hc).2.2.1 j10 hf8).1 hsS).1) (fun Z hZ _ => by rw [hff.2.1]; exact (((hZ.2 c hc).2.2.1 j10 hf8).1 hsS).2) (by rw [hff.1]; have := hff.2.2.2.1; omega) (by rw [hff.2.1]; have := hff.2.2.2.2.1; omega)
        have hT248 := StM.tr hX10_0.1 hS246.1
        have hB249 := hS246.2.2 hX10_0.2
        have hK250 := lkm_st (lkm_st hK hC10 hX10_0.1.2.2) hW244 hS246.1.2.2
        have hL1 := hS246.2.1
        have hL1e := hS246.1.1.1
        have hw49 : Cor σ10 σx243 := hW244
        refine R_aload_n (pc := 52) dX9_narrow_52 rfl rfl ?_
        refine g_X9_72 (pc := 53) (v := .ref 158) rfl dX9_narrow_53 (c_140 _) rfl ?_
        refine R_bipush (pc := 56) (v := 8) dX9_narrow_56 (by decide) ?_
        refine R_iload_n (pc := 58) dX9_narrow_58 rfl rfl ?_
        refine R_imul (pc := 59) dX9_narrow_59 ?_
        have r251 : inR (8 * (nI c)) 0 152 := inR_mulc (c := 8) (l := 0) (h := 152) 8 (by decide) (show inR (nI c) 0 19 from (show inR (nI c) 0 19 from inR_nI (M := 19) (by omega) (by decide))) (by decide) (by decide)
        have e252 := ti_mulc (c := 8) (l := 0) (h := 152) 8 (by decide) (show inR (nI c) 0 19 from (show inR (nI c) 0 19 from inR_nI (M := 19) (by omega) (by decide))) (by decide) (by decide)
        refine R_iload (pc := 60) dX9_narrow_60 rfl ?_
        refine R_iadd (pc := 62) dX9_narrow_62 ?_
        have r253 : inR ((8 * (nI c)) + (nI j10)) 0 159 := inR_add (show inR (8 * (nI c)) 0 152 from r251) (show inR (nI j10) 0 7 from hrg10) (by decide) (by decide)
        have e254 := ti_add (l := 0) (h := 159) (show inR (8 * (nI c)) 0 152 from r251) (show inR (nI j10) 0 7 from hrg10) (by decide) (by decide)
        have hx255 : vp_in ((8 * (nI c)) + (nI j10)) 160 := (vp_of_inR r253 (by decide))
        refine R_iaload (pc := 63) dX9_narrow_63 (c_158 _) hx255 ?_
        refine R_cv (σ10.2.2.1 158 (8 * c + j10)) (by show (σx243.2.2.1 158 (Int32.toNatClampNeg ((8 * (nI c)) + (nI j10)))) = _; rw [idx8m (by omega) (by omega), ← show σ10.2.2.1 158 = σx243.2.2.1 158 from (hw49.2.2.1 158 rfl).symm]) ?_
        refine R_ifne (pc := 64) 161 dX9_narrow_64 (by decide) (fun b64_256 => ?_) (fun b64_256 => ?_)
        · skip
          refine inc_5_4_1_i (pc := 161) dX9_narrow_161 ?_
          have r257 : inR ((nI j10) + 1) 1 8 := inR_add (show inR (nI j10) 0 7 from hrg10) (show inR 1 1 1 from (inR_self _)) (by decide) (by decide)
          have e258 := ti_add (l := 1) (h := 8) (show inR (nI j10) 0 7 from hrg10) (show inR 1 1 1 from (inR_self _)) (by decide) (by decide)
          refine R_goto (pc := 164) 10 dX9_narrow_164 (by decide) ?_
          rw [nI_1]
          exact ih10 (j10 + 1) _ (by omega) (by omega) hV242 hW247 ⟨hT248, hB249⟩ (rf_s hX10_1 hc hL1e (rf_1 hsH0 (by rw [← hff.1]; exact hL1.1) (by rw [← hff.2.1]; exact hL1.2)))
        · skip
          exact absurd ((b30_142).symm.trans b64_256) (by decide)
  exact HL10 8 0 _ (by omega) (by omega) hI (show Cor σ σ from Cor.rfl' σ) ⟨StM.rfl' D σ, hB⟩ (fun f hf => absurd hf (by omega))
