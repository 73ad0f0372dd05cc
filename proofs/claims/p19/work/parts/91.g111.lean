/-! methods on any state that keeps the invariant -/
/-! the reader's steps -/
theorem te_p2 {f : Nat → Int32} {n s : Nat} (h : s ≤ n) : s ≤ tkE f n s ∧ tkE f n s ≤ n := ⟨(te_p h).1, (te_p h).2.1⟩
def GS (σ τ : Sg) (i k : Nat) : Prop := τ.2 = σ.2 ∧ (∀ m, ¬ m = 11702 → ¬ m = 11703 → τ.1 m = σ.1 m) ∧ τ.1 11702 = nI i ∧ τ.1 11703 = nI k
theorem gsr_0 {σ : Sg} {e : Nat} (h : σ.1 11703 = nI e) : GS σ (uI σ 11702 (nI e)) e e := by
  refine ⟨rfl, fun m h1 h2 => (show va_up σ.1 11702 (nI e) m = σ.1 m from up_ne _ h1), (show va_up σ.1 11702 (nI e) 11702 = nI e from up_at _ _ _), ?_⟩
  show va_up σ.1 11702 (nI e) 11703 = _
  rw [up_ne _ (by decide)]; exact h
theorem gsr_i {σ τ : Sg} {i k : Nat} (h : GS σ τ i k) : GS σ (uI τ 11702 (nI i + 1)) (i + 1) k := by
  refine ⟨h.1, fun m h1 h2 => (show va_up τ.1 11702 (nI i + 1) m = σ.1 m from (up_ne _ h1).trans (h.2.1 m h1 h2)), (show va_up τ.1 11702 (nI i + 1) 11702 = nI (i + 1) from (up_at _ _ _).trans (nI_1 i)), ?_⟩
  show va_up τ.1 11702 (nI i + 1) 11703 = _
  rw [up_ne _ (by decide)]; exact h.2.2.2
theorem gsr_k0 {σ τ : Sg} {i k : Nat} {v : Int32} {q : Nat} (h : GS σ τ i k) (hv : v = nI q) : GS σ (uI τ 11703 v) i q := by
  refine ⟨h.1, fun m h1 h2 => (show va_up τ.1 11703 v m = σ.1 m from (up_ne _ h2).trans (h.2.1 m h1 h2)), ?_, (show va_up τ.1 11703 v 11703 = nI q from (up_at _ _ _).trans hv)⟩
  show va_up τ.1 11703 v 11702 = _
  rw [up_ne _ (by decide)]; exact h.2.2.1
theorem gsr_k {σ τ : Sg} {i k : Nat} (h : GS σ τ i k) : GS σ (uI τ 11703 (nI k + 1)) i (k + 1) := gsr_k0 h (nI_1 k)
theorem min_nI {i n : Nat} (hi : i ≤ n) (hn : n ≤ 160) : (if nI n < nI i + 1 then nI n else nI i + 1) = nI (min (i + 1) n) := by
  rw [nI_1]
  by_cases q : nI n < nI (i + 1)
  · have := nI_lts (by omega) (by omega) q
    rw [if_pos q, show min (i + 1) n = n by omega]
  · have : ¬ n < i + 1 := fun e => q ((nI_ltI (by omega) (by omega)).mpr e)
    rw [if_neg q, show min (i + 1) n = i + 1 by omega]
theorem tk_0 {f : Nat → Int32} {n i : Nat} (hi : i ≤ n) (hn : n ≤ 160) : teF (fun k => rowB (f i) (f k)) n (160 - min (i + 1) n) (min (i + 1) n) = tkE f n i := by
  by_cases q : i < n
  · rw [tkE_lt q, show min (i + 1) n = i + 1 by omega]
  · rw [tkE_ge (by omega), show min (i + 1) n = n by omega]
    have := te_e (P := fun k => rowB (f i) (f k)) (n := n) (q := 160 - n) (k := n) rfl (Or.inl (Nat.le_refl n))
    omega
theorem sk_s2 {f : Nat → Int32} {n i T : Nat} (hn : n ≤ 160) (h : skF f n (160 - i) i = T) (h1 : i < n) (h2 : f i = 32) : skF f n (160 - (i + 1)) (i + 1) = T := by
  rw [show 160 - i = (160 - (i + 1)) + 1 by omega] at h
  exact sk_s h h1 h2
theorem te_s2 {P : Nat → Bool} {n k T : Nat} (hn : n ≤ 160) (h : teF P n (160 - k) k = T) (h1 : k < n) (h2 : P k = true) : teF P n (160 - (k + 1)) (k + 1) = T := by
  rw [show 160 - k = (160 - (k + 1)) + 1 by omega] at h
  exact te_s h h1 h2
theorem rs_gs {σ τ : Sg} {n i k e : Nat} {w : Int32} (h0 : σ.1 11701 = nI n) (hn : n ≤ 160) (hi : i ≤ n) (hw : σ.1 11704 = w) (G : GS σ τ i k) (e1 : i = sk (σ.2.2.1 118) n e) (e2 : k = tkE (σ.2.2.1 118) n i) : RS σ τ n (sk (σ.2.2.1 118) n e, w) := by
  subst e1
  subst e2
  exact ⟨G.1, fun m a b _ => G.2.1 m a b, h0, hn, hi, G.2.2.1, G.2.2.2, (G.2.1 11704 (by decide) (by decide)).trans hw⟩
theorem rs_w {σ : Sg} {n : Nat} {st : St} (h : RS σ σ n st) (hv : st.2 = -1) : RS σ (uI σ 11704 (nI st.1)) n (fwS st) := by
  refine ⟨rfl, fun m _ _ c => (show va_up σ.1 11704 (nI st.1) m = σ.1 m from up_ne _ c), h.2.2.1, h.2.2.2.1, h.2.2.2.2.1, ?_, ?_, ?_⟩
  · show va_up σ.1 11704 (nI st.1) 11702 = _
    rw [up_ne _ (by decide)]; exact h.2.2.2.2.2.1
  · show va_up σ.1 11704 (nI st.1) 11703 = _
    rw [up_ne _ (by decide)]; exact h.2.2.2.2.2.2.1
  · show va_up σ.1 11704 (nI st.1) 11704 = bif decide (st.2 = -1) then nI st.1 else st.2
    rw [up_at, decide_eq_true hv]; rfl
theorem rs_k {σ τ : Sg} {n : Nat} {st : St} (h : RS σ τ n st) (hv : ¬ st.2 = -1) : RS σ τ n (fwS st) := by
  have e : fwS st = st := by
    unfold fwS
    rw [decide_eq_false hv]; rfl
  rw [e]; exact h
theorem rw_t {f : Nat → Int32} {n k : Nat} {st : St} (h1 : st.2 = -1) (h2 : rdB f n st.1 k = true) : rwS f n k st = (sk f n (tkE f n st.1), st.2) := by unfold rwS; rw [decide_eq_true h1, h2]; rfl
theorem rw_f1 {f : Nat → Int32} {n k : Nat} {st : St} (h1 : ¬ st.2 = -1) : rwS f n k st = fwS st := by unfold rwS; rw [decide_eq_false h1]; rfl
theorem rw_f2 {f : Nat → Int32} {n k : Nat} {st : St} (h2 : rdB f n st.1 k = false) : rwS f n k st = fwS st := by unfold rwS; rw [h2, Bool.and_false]; rfl
theorem rn_t {f : Nat → Int32} {n : Nat} {lo hi : Int32} {st : St} (h1 : st.2 = -1) (h2 : inB (nu f n st.1) lo hi = true) : rnS f n lo hi st = (sk f n (tkE f n st.1), st.2) ∧ rnV f n lo hi st = nu f n st.1 := by unfold rnS rnV; rw [decide_eq_true h1, h2]; exact ⟨rfl, rfl⟩
theorem rn_f1 {f : Nat → Int32} {n : Nat} {lo hi : Int32} {st : St} (h1 : ¬ st.2 = -1) : rnS f n lo hi st = fwS st ∧ rnV f n lo hi st = lo := by unfold rnS rnV; rw [decide_eq_false h1]; exact ⟨rfl, rfl⟩
theorem rn_f2 {f : Nat → Int32} {n : Nat} {lo hi : Int32} {st : St} (h2 : inB (nu f n st.1) lo hi = false) : rnS f n lo hi st = fwS st ∧ rnV f n lo hi st = lo := by unfold rnS rnV; rw [h2, Bool.and_false]; exact ⟨rfl, rfl⟩
theorem rs_z {σ0 σ : Sg} {n : Nat} {st : St} (h : RS σ0 σ n st) : σ.1 11701 = nI n := (h.2.1 11701 (by decide) (by decide) (by decide)).trans h.2.2.1
set_option maxRecDepth 100000 in
set_option maxHeartbeats 40000000 in
theorem ge_X6_goOn {G : vG} {l : Launch} (σ : Sg) (n e : Nat) (w : Int32)  (hI : Inv σ) (hz : σ.1 11701 = nI n) (hn : n ≤ 160) (he : σ.1 11703 = nI e) (hen : e ≤ n) (hw : σ.1 11704 = w) : Sp G l yX6_goOn cX6_goOn 1 none 2 0 0 [.ref 117] (WW σ) (QV (fun w2 => ∃ σ2, w2 = WW σ2 ∧ Inv σ2 ∧ Cor σ σ2 ∧ RS σ σ2 n (sk (σ.2.2.1 118) n e, w))) := by
  refine Sp_of_R [(some (.ref 117))] [] rfl (by simp) rfl (Nat.le_of_ble_eq_true rfl) ?_
  refine R_aload_n (pc := 0) dX6_goOn_0 rfl rfl ?_
  refine R_aload_n (pc := 1) dX6_goOn_1 rfl rfl ?_
  refine g_X6_21 (pc := 2) (v := .int (nI e)) rfl dX6_goOn_2 (c_117 _) (by show some (Value.int (σ.1 11703)) = _; rw [he]) ?_
  refine p_X6_40 (pc := 5) rfl dX6_goOn_5 (c_117 _) (Nat.le_of_ble_eq_true rfl) rfl rfl (s_117_2 _ _) ?_
  have hW1 := cor_si 11702 (nI e) (show Cor σ σ from Cor.rfl' σ) rfl
  have HL8 : ∀ (q i : Nat) (σ8 : Sg), i + q = 160 → i ≤ n → skF (σ.2.2.1 118) n (160 - i) i = sk (σ.2.2.1 118) n e → GS σ σ8 i e → Inv σ8 → Cor σ σ8 → R G l yX6_goOn cX6_goOn 1 none 2 0 0 (QV (fun w2 => ∃ σ2, w2 = WW σ2 ∧ Inv σ2 ∧ Cor σ σ2 ∧ RS σ σ2 n (sk (σ.2.2.1 118) n e, w))) 8 [(some (.ref 117))] [] (WW σ8) 0 0 := by
    intro q
    induction q with
    | zero =>
      intro i σ8 hj8 hn8 hT8 hG8 hI8 hC8
      refine R_aload_n (pc := 8) dX6_goOn_8 rfl rfl ?_
      refine g_X6_40 (pc := 9) (v := .int (nI i)) rfl dX6_goOn_9 (c_117 _) (by show some (Value.int (σ8.1 11702)) = _; rw [hG8.2.2.1]) ?_
      refine R_aload_n (pc := 12) dX6_goOn_12 rfl rfl ?_
      refine g_X6_43 (pc := 13) (v := .int (nI n)) rfl dX6_goOn_13 (c_117 _) (by show some (Value.int (σ8.1 11701)) = _; rw [hG8.2.1 11701 (by decide) (by decide), hz]) ?_
      refine R_icge (pc := 16) 46 dX6_goOn_16 (by decide) (fun _ => ?_) (fun h => False.elim (by have q1 := ti_nle h; have q2 := ti_in (show inR (nI i) 160 160 from (show inR (nI i) 160 160 from by rw [show i = 160 by omega]; exact inR_self _)); have q3 := ti_in (show inR (nI n) 0 160 from (show inR (nI n) 0 160 from inR_nI (M := 160) (by omega) (by decide))); have z0 : (0 : Int32).toInt = 0 := (by decide);  have z1 : (160 : Int32).toInt = 160 := (by decide); omega))
      refine R_aload_n (pc := 46) dX6_goOn_46 rfl rfl ?_
      refine R_aload_n (pc := 47) dX6_goOn_47 rfl rfl ?_
      refine g_X6_40 (pc := 48) (v := .int (nI i)) rfl dX6_goOn_48 (c_117 _) (by show some (Value.int (σ8.1 11702)) = _; rw [hG8.2.2.1]) ?_
      refine R_iconst (pc := 51) (v := 1) dX6_goOn_51 (by decide) ?_
      refine R_iadd (pc := 52) dX6_goOn_52 ?_
      have r3 : inR ((nI i) + 1) 161 161 := inR_add (show inR (nI i) 160 160 from (show inR (nI i) 160 160 from by rw [show i = 160 by omega]; exact inR_self _)) (show inR 1 1 1 from (inR_self _)) (by decide) (by decide)
      have e4 := ti_add (l := 161) (h := 161) (show inR (nI i) 160 160 from (show inR (nI i) 160 160 from by rw [show i = 160 by omega]; exact inR_self _)) (show inR 1 1 1 from (inR_self _)) (by decide) (by decide)
      refine R_aload_n (pc := 53) dX6_goOn_53 rfl rfl ?_
      refine g_X6_43 (pc := 54) (v := .int (nI n)) rfl dX6_goOn_54 (c_117 _) (by show some (Value.int (σ8.1 11701)) = _; rw [hG8.2.1 11701 (by decide) (by decide), hz]) ?_
      refine R_mmin (pc := 57) wm_719 dX6_goOn_57 (by decide) (Nat.le_of_ble_eq_true rfl) (Nat.zero_le _) (Nat.zero_le _) ?_
      have r5 : inR (if (nI n) < ((nI i) + 1) then (nI n) else ((nI i) + 1)) 0 160 := inR_min (show inR ((nI i) + 1) 161 161 from r3) (show inR (nI n) 0 160 from (show inR (nI n) 0 160 from inR_nI (M := 160) (by omega) (by decide))) (by decide) (by decide) (by decide)
      have hm6 := min_rng (a := ((nI i) + 1)) (b := (nI n)) (s := (nI i)) (by have q0 := (nI_toInt (n := i) (by omega)); have q1 := (nI_toInt (n := e) (by omega)); have q2 := (nI_toInt (n := n) (by omega)); have q3 := e4; have q4 := ti_in (show inR (nI e) 0 160 from inR_nI (M := 160) (by omega) (by decide)); have q5 := ti_in (show inR (nI n) 0 160 from inR_nI (M := 160) (by omega) (by decide)); have q6 := ti_in (show inR (nI i) 160 160 from by rw [show i = 160 by omega]; exact inR_self _); have q7 := ti_in r3; have q8 := ti_in r5; have z0 : (0 : Int32).toInt = 0 := (by decide); have z1 : (1 : Int32).toInt = 1 := (by decide); have z2 : (160 : Int32).toInt = 160 := (by decide); have z3 : (161 : Int32).toInt = 161 := (by decide); omega) (by have q0 := (nI_toInt (n := i) (by omega)); have q1 := (nI_toInt (n := e) (by omega)); have q2 := (nI_toInt (n := n) (by omega)); have q3 := e4; have q4 := ti_in (show inR (nI e) 0 160 from inR_nI (M := 160) (by omega) (by decide)); have q5 := ti_in (show inR (nI n) 0 160 from inR_nI (M := 160) (by omega) (by decide)); have q6 := ti_in (show inR (nI i) 160 160 from by rw [show i = 160 by omega]; exact inR_self _); have q7 := ti_in r3; have q8 := ti_in r5; have z0 : (0 : Int32).toInt = 0 := (by decide); have z1 : (1 : Int32).toInt = 1 := (by decide); have z2 : (160 : Int32).toInt = 160 := (by decide); have z3 : (161 : Int32).toInt = 161 := (by decide); omega)
      refine p_X6_21 (pc := 60) rfl dX6_goOn_60 (c_117 _) (Nat.le_of_ble_eq_true rfl) rfl rfl (s_117_3 _ _) ?_
      have hW7 := cor_si 11703 (if (nI n) < ((nI i) + 1) then (nI n) else ((nI i) + 1)) hC8 rfl
      have HL63 : ∀ (q k : Nat) (σ63 : Sg), k + q = 160 → k ≤ n → teF (fun k => rowB ((σ.2.2.1 118) i) ((σ.2.2.1 118) k)) n (160 - k) k = tkE (σ.2.2.1 118) n i → GS σ σ63 i k → i ≤ k → Inv σ63 → Cor σ σ63 → R G l yX6_goOn cX6_goOn 1 none 2 0 0 (QV (fun w2 => ∃ σ2, w2 = WW σ2 ∧ Inv σ2 ∧ Cor σ σ2 ∧ RS σ σ2 n (sk (σ.2.2.1 118) n e, w))) 63 [(some (.ref 117))] [] (WW σ63) 0 0 := by
        intro q
        induction q with
        | zero =>
          intro k σ63 hj63 hn63 hT63 hG63 hik63 hI63 hC63
          refine R_aload_n (pc := 63) dX6_goOn_63 rfl rfl ?_
          refine g_X6_21 (pc := 64) (v := .int (nI k)) rfl dX6_goOn_64 (c_117 _) (by show some (Value.int (σ63.1 11703)) = _; rw [hG63.2.2.2]) ?_
          refine R_aload_n (pc := 67) dX6_goOn_67 rfl rfl ?_
          refine g_X6_43 (pc := 68) (v := .int (nI n)) rfl dX6_goOn_68 (c_117 _) (by show some (Value.int (σ63.1 11701)) = _; rw [hG63.2.1 11701 (by decide) (by decide), hz]) ?_
          refine R_icge (pc := 71) 111 dX6_goOn_71 (by decide) (fun _ => ?_) (fun h => False.elim (by have q1 := ti_nle h; have q2 := ti_in (show inR (nI k) 160 160 from (show inR (nI k) 160 160 from by rw [show k = 160 by omega]; exact inR_self _)); have q3 := ti_in (show inR (nI n) 0 160 from (show inR (nI n) 0 160 from inR_nI (M := 160) (by omega) (by decide))); have z0 : (0 : Int32).toInt = 0 := (by decide);  have z1 : (160 : Int32).toInt = 160 := (by decide); omega))
          exact R_vret (pc := 111) dX6_goOn_111 rfl (Nat.zero_le _) (Nat.zero_le _) ⟨rfl, _, rfl, hI63, hC63, rs_gs hz hn (by omega) hw hG63 (sk_e hT8 (Or.inl (by omega))) (te_e hT63 (Or.inl (by omega)))⟩
        | succ q ih63 =>
          intro k σ63 hj63 hn63 hT63 hG63 hik63 hI63 hC63
          refine R_aload_n (pc := 63) dX6_goOn_63 rfl rfl ?_
          refine g_X6_21 (pc := 64) (v := .int (nI k)) rfl dX6_goOn_64 (c_117 _) (by show some (Value.int (σ63.1 11703)) = _; rw [hG63.2.2.2]) ?_
          refine R_aload_n (pc := 67) dX6_goOn_67 rfl rfl ?_
          refine g_X6_43 (pc := 68) (v := .int (nI n)) rfl dX6_goOn_68 (c_117 _) (by show some (Value.int (σ63.1 11701)) = _; rw [hG63.2.1 11701 (by decide) (by decide), hz]) ?_
          refine R_icge (pc := 71) 111 dX6_goOn_71 (by decide) (fun b71_9 => ?_) (fun b71_9 => ?_)
          · skip
            exact R_vret (pc := 111) dX6_goOn_111 rfl (Nat.zero_le _) (Nat.zero_le _) ⟨rfl, _, rfl, hI63, hC63, rs_gs hz hn (by omega) hw hG63 (sk_e hT8 (Or.inl (by omega))) (te_e hT63 (Or.inl (nI_les (by omega) (by omega) b71_9)))⟩
          · skip
            refine R_aload_n (pc := 74) dX6_goOn_74 rfl rfl ?_
            refine g_X6_9 (pc := 75) (v := .ref 118) rfl dX6_goOn_75 (c_117 _) rfl ?_
            refine R_aload_n (pc := 78) dX6_goOn_78 rfl rfl ?_
            refine g_X6_40 (pc := 79) (v := .int (nI i)) rfl dX6_goOn_79 (c_117 _) (by show some (Value.int (σ63.1 11702)) = _; rw [hG63.2.2.1]) ?_
            have hx10 : vp_in (nI i) 160 := (vp_ti (by have q0 := (nI_toInt (n := i) (by omega)); have q1 := (nI_toInt (n := e) (by omega)); have q2 := (nI_toInt (n := n) (by omega)); have q3 := e4; have q4 := hm6.1; have q5 := hm6.2; have q6 := (nI_toInt (n := i) (by omega)); have q7 := (nI_toInt (n := k) (by omega)); have q8 := (nI_toInt (n := n) (by omega)); have q9 := ti_nle b71_9; have q10 := ti_in (show inR (nI e) 0 160 from inR_nI (M := 160) (by omega) (by decide)); have q11 := ti_in (show inR (nI n) 0 160 from inR_nI (M := 160) (by omega) (by decide)); have q12 := ti_in (show inR (nI i) 0 160 from inR_nI (M := 160) (by omega) (by decide)); have q13 := ti_in r3; have q14 := ti_in r5; have q15 := ti_in (show inR (nI k) 0 159 from inR_nI (M := 159) (by omega) (by decide)); have z0 : (0 : Int32).toInt = 0 := (by decide); have z1 : (1 : Int32).toInt = 1 := (by decide); have z2 : (159 : Int32).toInt = 159 := (by decide); have z3 : (160 : Int32).toInt = 160 := (by decide); have z4 : (161 : Int32).toInt = 161 := (by decide); omega) (by have q0 := (nI_toInt (n := i) (by omega)); have q1 := (nI_toInt (n := e) (by omega)); have q2 := (nI_toInt (n := n) (by omega)); have q3 := e4; have q4 := hm6.1; have q5 := hm6.2; have q6 := (nI_toInt (n := i) (by omega)); have q7 := (nI_toInt (n := k) (by omega)); have q8 := (nI_toInt (n := n) (by omega)); have q9 := ti_nle b71_9; have q10 := ti_in (show inR (nI e) 0 160 from inR_nI (M := 160) (by omega) (by decide)); have q11 := ti_in (show inR (nI n) 0 160 from inR_nI (M := 160) (by omega) (by decide)); have q12 := ti_in (show inR (nI i) 0 160 from inR_nI (M := 160) (by omega) (by decide)); have q13 := ti_in r3; have q14 := ti_in r5; have q15 := ti_in (show inR (nI k) 0 159 from inR_nI (M := 159) (by omega) (by decide)); have z0 : (0 : Int32).toInt = 0 := (by decide); have z1 : (1 : Int32).toInt = 1 := (by decide); have z2 : (159 : Int32).toInt = 159 := (by decide); have z3 : (160 : Int32).toInt = 160 := (by decide); have z4 : (161 : Int32).toInt = 161 := (by decide); omega))
            refine R_iaload (pc := 82) dX6_goOn_82 (c_118 _) hx10 ?_
            refine R_aload_n (pc := 83) dX6_goOn_83 rfl rfl ?_
            refine g_X6_9 (pc := 84) (v := .ref 118) rfl dX6_goOn_84 (c_117 _) rfl ?_
            refine R_aload_n (pc := 87) dX6_goOn_87 rfl rfl ?_
            refine g_X6_21 (pc := 88) (v := .int (nI k)) rfl dX6_goOn_88 (c_117 _) (by show some (Value.int (σ63.1 11703)) = _; rw [hG63.2.2.2]) ?_
            have hx11 : vp_in (nI k) 160 := (vp_of_inR (show inR (nI k) 0 159 from inR_nI (M := 159) (by omega) (by decide)) (by decide))
            refine R_iaload (pc := 91) dX6_goOn_91 (c_118 _) hx11 ?_
            refine k_X6_110 (pc := 92) (ge_X6_isOneRow _ _ _) rfl (by decide) (Nat.le_refl _) (Nat.le_refl _) (Nat.le_of_ble_eq_true rfl) dX6_goOn_92 (fun x w2 h => ?_)
            rcases h with ⟨rfl, ⟨h12, rfl⟩ | ⟨h12, rfl⟩⟩
            · skip
              refine R_ifeq (pc := 95) 111 dX6_goOn_95 (by decide) (fun h => absurd h (by decide)) (fun _ => ?_)
              refine R_aload_n (pc := 98) dX6_goOn_98 rfl rfl ?_
              refine R_dup (pc := 99) dX6_goOn_99 rfl ?_
              refine g_X6_21 (pc := 100) (v := .int (nI k)) rfl dX6_goOn_100 (c_117 _) (by show some (Value.int (σ63.1 11703)) = _; rw [hG63.2.2.2]) ?_
              refine R_iconst (pc := 103) (v := 1) dX6_goOn_103 (by decide) ?_
              refine R_iadd (pc := 104) dX6_goOn_104 ?_
              have r14 : inR ((nI k) + 1) 1 160 := inR_add (show inR (nI k) 0 159 from (show inR (nI k) 0 159 from inR_nI (M := 159) (by omega) (by decide))) (show inR 1 1 1 from (inR_self _)) (by decide) (by decide)
              have e15 := ti_add (l := 1) (h := 160) (show inR (nI k) 0 159 from (show inR (nI k) 0 159 from inR_nI (M := 159) (by omega) (by decide))) (show inR 1 1 1 from (inR_self _)) (by decide) (by decide)
              refine p_X6_21 (pc := 105) rfl dX6_goOn_105 (c_117 _) (Nat.le_of_ble_eq_true rfl) rfl rfl (s_117_3 _ _) ?_
              have hW16 := cor_si 11703 ((nI k) + 1) hC63 rfl
              refine R_goto (pc := 108) 63 dX6_goOn_108 (by decide) ?_
              exact ih63 (k + 1) _ (by omega) (nI_lts (by omega) (by omega) (Int32.not_le.mp b71_9)) (te_s2 hn hT63 (nI_lts (by omega) (by omega) (Int32.not_le.mp b71_9)) (by have q := h12; rw [hG63.1, nI_clamp (by omega), nI_clamp (by omega)] at q; exact q)) (gsr_k hG63) (by omega) hI63 hW16
            · skip
              refine R_ifeq (pc := 95) 111 dX6_goOn_95 (by decide) (fun _ => ?_) (fun h => absurd (by decide) h)
              exact R_vret (pc := 111) dX6_goOn_111 rfl (Nat.zero_le _) (Nat.zero_le _) ⟨rfl, _, rfl, hI63, hC63, rs_gs hz hn (by omega) hw hG63 (sk_e hT8 (Or.inl (by omega))) (te_e hT63 (Or.inr (by have q := h12; rw [hG63.1, nI_clamp (by omega), nI_clamp (by omega)] at q; exact q)))⟩
      exact HL63 (160 - min (i + 1) n) (min (i + 1) n) _ (by omega) (by omega) (tk_0 (by omega) hn) (gsr_k0 hG8 (min_nI (by omega) hn)) (by omega) hI8 hW7
    | succ q ih8 =>
      intro i σ8 hj8 hn8 hT8 hG8 hI8 hC8
      refine R_aload_n (pc := 8) dX6_goOn_8 rfl rfl ?_
      refine g_X6_40 (pc := 9) (v := .int (nI i)) rfl dX6_goOn_9 (c_117 _) (by show some (Value.int (σ8.1 11702)) = _; rw [hG8.2.2.1]) ?_
      refine R_aload_n (pc := 12) dX6_goOn_12 rfl rfl ?_
      refine g_X6_43 (pc := 13) (v := .int (nI n)) rfl dX6_goOn_13 (c_117 _) (by show some (Value.int (σ8.1 11701)) = _; rw [hG8.2.1 11701 (by decide) (by decide), hz]) ?_
      refine R_icge (pc := 16) 46 dX6_goOn_16 (by decide) (fun b16_18 => ?_) (fun b16_18 => ?_)
      · skip
        refine R_aload_n (pc := 46) dX6_goOn_46 rfl rfl ?_
        refine R_aload_n (pc := 47) dX6_goOn_47 rfl rfl ?_
        refine g_X6_40 (pc := 48) (v := .int (nI i)) rfl dX6_goOn_48 (c_117 _) (by show some (Value.int (σ8.1 11702)) = _; rw [hG8.2.2.1]) ?_
        refine R_iconst (pc := 51) (v := 1) dX6_goOn_51 (by decide) ?_
        refine R_iadd (pc := 52) dX6_goOn_52 ?_
        have r19 : inR ((nI i) + 1) 1 160 := inR_add (show inR (nI i) 0 159 from (show inR (nI i) 0 159 from inR_nI (M := 159) (by omega) (by decide))) (show inR 1 1 1 from (inR_self _)) (by decide) (by decide)
        have e20 := ti_add (l := 1) (h := 160) (show inR (nI i) 0 159 from (show inR (nI i) 0 159 from inR_nI (M := 159) (by omega) (by decide))) (show inR 1 1 1 from (inR_self _)) (by decide) (by decide)
        refine R_aload_n (pc := 53) dX6_goOn_53 rfl rfl ?_
        refine g_X6_43 (pc := 54) (v := .int (nI n)) rfl dX6_goOn_54 (c_117 _) (by show some (Value.int (σ8.1 11701)) = _; rw [hG8.2.1 11701 (by decide) (by decide), hz]) ?_
        refine R_mmin (pc := 57) wm_719 dX6_goOn_57 (by decide) (Nat.le_of_ble_eq_true rfl) (Nat.zero_le _) (Nat.zero_le _) ?_
        have r21 : inR (if (nI n) < ((nI i) + 1) then (nI n) else ((nI i) + 1)) 0 160 := inR_min (show inR ((nI i) + 1) 1 160 from r19) (show inR (nI n) 0 160 from (show inR (nI n) 0 160 from inR_nI (M := 160) (by omega) (by decide))) (by decide) (by decide) (by decide)
        have hm22 := min_rng (a := ((nI i) + 1)) (b := (nI n)) (s := (nI i)) (by have q0 := (nI_toInt (n := i) (by omega)); have q1 := (nI_toInt (n := e) (by omega)); have q2 := (nI_toInt (n := n) (by omega)); have q3 := e20; have q4 := ti_le b16_18; have q5 := ti_in (show inR (nI e) 0 160 from inR_nI (M := 160) (by omega) (by decide)); have q6 := ti_in (show inR (nI n) 0 160 from inR_nI (M := 160) (by omega) (by decide)); have q7 := ti_in (show inR (nI i) 0 159 from inR_nI (M := 159) (by omega) (by decide)); have q8 := ti_in r19; have q9 := ti_in r21; have z0 : (0 : Int32).toInt = 0 := (by decide); have z1 : (1 : Int32).toInt = 1 := (by decide); have z2 : (159 : Int32).toInt = 159 := (by decide); have z3 : (160 : Int32).toInt = 160 := (by decide); omega) (by have q0 := (nI_toInt (n := i) (by omega)); have q1 := (nI_toInt (n := e) (by omega)); have q2 := (nI_toInt (n := n) (by omega)); have q3 := e20; have q4 := ti_le b16_18; have q5 := ti_in (show inR (nI e) 0 160 from inR_nI (M := 160) (by omega) (by decide)); have q6 := ti_in (show inR (nI n) 0 160 from inR_nI (M := 160) (by omega) (by decide)); have q7 := ti_in (show inR (nI i) 0 159 from inR_nI (M := 159) (by omega) (by decide)); have q8 := ti_in r19; have q9 := ti_in r21; have z0 : (0 : Int32).toInt = 0 := (by decide); have z1 : (1 : Int32).toInt = 1 := (by decide); have z2 : (159 : Int32).toInt = 159 := (by decide); have z3 : (160 : Int32).toInt = 160 := (by decide); omega)
        refine p_X6_21 (pc := 60) rfl dX6_goOn_60 (c_117 _) (Nat.le_of_ble_eq_true rfl) rfl rfl (s_117_3 _ _) ?_
        have hW23 := cor_si 11703 (if (nI n) < ((nI i) + 1) then (nI n) else ((nI i) + 1)) hC8 rfl
        have HL63 : ∀ (q k : Nat) (σ63 : Sg), k + q = 160 → k ≤ n → teF (fun k => rowB ((σ.2.2.1 118) i) ((σ.2.2.1 118) k)) n (160 - k) k = tkE (σ.2.2.1 118) n i → GS σ σ63 i k → i ≤ k → Inv σ63 → Cor σ σ63 → R G l yX6_goOn cX6_goOn 1 none 2 0 0 (QV (fun w2 => ∃ σ2, w2 = WW σ2 ∧ Inv σ2 ∧ Cor σ σ2 ∧ RS σ σ2 n (sk (σ.2.2.1 118) n e, w))) 63 [(some (.ref 117))] [] (WW σ63) 0 0 := by
          intro q
          induction q with
          | zero =>
            intro k σ63 hj63 hn63 hT63 hG63 hik63 hI63 hC63
            refine R_aload_n (pc := 63) dX6_goOn_63 rfl rfl ?_
            refine g_X6_21 (pc := 64) (v := .int (nI k)) rfl dX6_goOn_64 (c_117 _) (by show some (Value.int (σ63.1 11703)) = _; rw [hG63.2.2.2]) ?_
            refine R_aload_n (pc := 67) dX6_goOn_67 rfl rfl ?_
            refine g_X6_43 (pc := 68) (v := .int (nI n)) rfl dX6_goOn_68 (c_117 _) (by show some (Value.int (σ63.1 11701)) = _; rw [hG63.2.1 11701 (by decide) (by decide), hz]) ?_
            refine R_icge (pc := 71) 111 dX6_goOn_71 (by decide) (fun _ => ?_) (fun h => False.elim (by have q1 := ti_nle h; have q2 := ti_in (show inR (nI k) 160 160 from (show inR (nI k) 160 160 from by rw [show k = 160 by omega]; exact inR_self _)); have q3 := ti_in (show inR (nI n) 0 160 from (show inR (nI n) 0 160 from inR_nI (M := 160) (by omega) (by decide))); have z0 : (0 : Int32).toInt = 0 := (by decide);  have z1 : (160 : Int32).toInt = 160 := (by decide); omega))
            exact R_vret (pc := 111) dX6_goOn_111 rfl (Nat.zero_le _) (Nat.zero_le _) ⟨rfl, _, rfl, hI63, hC63, rs_gs hz hn (by omega) hw hG63 (sk_e hT8 (Or.inl (nI_les (by omega) (by omega) b16_18))) (te_e hT63 (Or.inl (by omega)))⟩
          | succ q ih63 =>
            intro k σ63 hj63 hn63 hT63 hG63 hik63 hI63 hC63
            refine R_aload_n (pc := 63) dX6_goOn_63 rfl rfl ?_
            refine g_X6_21 (pc := 64) (v := .int (nI k)) rfl dX6_goOn_64 (c_117 _) (by show some (Value.int (σ63.1 11703)) = _; rw [hG63.2.2.2]) ?_
            refine R_aload_n (pc := 67) dX6_goOn_67 rfl rfl ?_
            refine g_X6_43 (pc := 68) (v := .int (nI n)) rfl dX6_goOn_68 (c_117 _) (by show some (Value.int (σ63.1 11701)) = _; rw [hG63.2.1 11701 (by decide) (by decide), hz]) ?_
            refine R_icge (pc := 71) 111 dX6_goOn_71 (by decide) (fun b71_25 => ?_) (fun b71_25 => ?_)
            · skip
              exact R_vret (pc := 111) dX6_goOn_111 rfl (Nat.zero_le _) (Nat.zero_le _) ⟨rfl, _, rfl, hI63, hC63, rs_gs hz hn (by omega) hw hG63 (sk_e hT8 (Or.inl (nI_les (by omega) (by omega) b16_18))) (te_e hT63 (Or.inl (nI_les (by omega) (by omega) b71_25)))⟩
            · skip
              refine R_aload_n (pc := 74) dX6_goOn_74 rfl rfl ?_
              refine g_X6_9 (pc := 75) (v := .ref 118) rfl dX6_goOn_75 (c_117 _) rfl ?_
              refine R_aload_n (pc := 78) dX6_goOn_78 rfl rfl ?_
              refine g_X6_40 (pc := 79) (v := .int (nI i)) rfl dX6_goOn_79 (c_117 _) (by show some (Value.int (σ63.1 11702)) = _; rw [hG63.2.2.1]) ?_
              have hx26 : vp_in (nI i) 160 := (vp_ti (by have q0 := (nI_toInt (n := i) (by omega)); have q1 := (nI_toInt (n := e) (by omega)); have q2 := (nI_toInt (n := n) (by omega)); have q3 := e20; have q4 := hm22.1; have q5 := hm22.2; have q6 := (nI_toInt (n := i) (by omega)); have q7 := (nI_toInt (n := k) (by omega)); have q8 := (nI_toInt (n := n) (by omega)); have q9 := ti_le b16_18; have q10 := ti_nle b71_25; have q11 := ti_in (show inR (nI e) 0 160 from inR_nI (M := 160) (by omega) (by decide)); have q12 := ti_in (show inR (nI n) 0 160 from inR_nI (M := 160) (by omega) (by decide)); have q13 := ti_in (show inR (nI i) 0 160 from inR_nI (M := 160) (by omega) (by decide)); have q14 := ti_in r19; have q15 := ti_in r21; have q16 := ti_in (show inR (nI k) 0 159 from inR_nI (M := 159) (by omega) (by decide)); have z0 : (0 : Int32).toInt = 0 := (by decide); have z1 : (1 : Int32).toInt = 1 := (by decide); have z2 : (159 : Int32).toInt = 159 := (by decide); have z3 : (160 : Int32).toInt = 160 := (by decide); omega) (by have q0 := (nI_toInt (n := i) (by omega)); have q1 := (nI_toInt (n := e) (by omega)); have q2 := (nI_toInt (n := n) (by omega)); have q3 := e20; have q4 := hm22.1; have q5 := hm22.2; have q6 := (nI_toInt (n := i) (by omega)); have q7 := (nI_toInt (n := k) (by omega)); have q8 := (nI_toInt (n := n) (by omega)); have q9 := ti_le b16_18; have q10 := ti_nle b71_25; have q11 := ti_in (show inR (nI e) 0 160 from inR_nI (M := 160) (by omega) (by decide)); have q12 := ti_in (show inR (nI n) 0 160 from inR_nI (M := 160) (by omega) (by decide)); have q13 := ti_in (show inR (nI i) 0 160 from inR_nI (M := 160) (by omega) (by decide)); have q14 := ti_in r19; have q15 := ti_in r21; have q16 := ti_in (show inR (nI k) 0 159 from inR_nI (M := 159) (by omega) (by decide)); have z0 : (0 : Int32).toInt = 0 := (by decide); have z1 : (1 : Int32).toInt = 1 := (by decide); have z2 : (159 : Int32).toInt = 159 := (by decide); have z3 : (160 : Int32).toInt = 160 := (by decide); omega))
              refine R_iaload (pc := 82) dX6_goOn_82 (c_118 _) hx26 ?_
              refine R_aload_n (pc := 83) dX6_goOn_83 rfl rfl ?_
              refine g_X6_9 (pc := 84) (v := .ref 118) rfl dX6_goOn_84 (c_117 _) rfl ?_
              refine R_aload_n (pc := 87) dX6_goOn_87 rfl rfl ?_
              refine g_X6_21 (pc := 88) (v := .int (nI k)) rfl dX6_goOn_88 (c_117 _) (by show some (Value.int (σ63.1 11703)) = _; rw [hG63.2.2.2]) ?_
              have hx27 : vp_in (nI k) 160 := (vp_of_inR (show inR (nI k) 0 159 from inR_nI (M := 159) (by omega) (by decide)) (by decide))
              refine R_iaload (pc := 91) dX6_goOn_91 (c_118 _) hx27 ?_
              refine k_X6_110 (pc := 92) (ge_X6_isOneRow _ _ _) rfl (by decide) (Nat.le_refl _) (Nat.le_refl _) (Nat.le_of_ble_eq_true rfl) dX6_goOn_92 (fun x w2 h => ?_)
              rcases h with ⟨rfl, ⟨h28, rfl⟩ | ⟨h28, rfl⟩⟩
              · skip
                refine R_ifeq (pc := 95) 111 dX6_goOn_95 (by decide) (fun h => absurd h (by decide)) (fun _ => ?_)
                refine R_aload_n (pc := 98) dX6_goOn_98 rfl rfl ?_
                refine R_dup (pc := 99) dX6_goOn_99 rfl ?_
                refine g_X6_21 (pc := 100) (v := .int (nI k)) rfl dX6_goOn_100 (c_117 _) (by show some (Value.int (σ63.1 11703)) = _; rw [hG63.2.2.2]) ?_
                refine R_iconst (pc := 103) (v := 1) dX6_goOn_103 (by decide) ?_
                refine R_iadd (pc := 104) dX6_goOn_104 ?_
                have r30 : inR ((nI k) + 1) 1 160 := inR_add (show inR (nI k) 0 159 from (show inR (nI k) 0 159 from inR_nI (M := 159) (by omega) (by decide))) (show inR 1 1 1 from (inR_self _)) (by decide) (by decide)
                have e31 := ti_add (l := 1) (h := 160) (show inR (nI k) 0 159 from (show inR (nI k) 0 159 from inR_nI (M := 159) (by omega) (by decide))) (show inR 1 1 1 from (inR_self _)) (by decide) (by decide)
                refine p_X6_21 (pc := 105) rfl dX6_goOn_105 (c_117 _) (Nat.le_of_ble_eq_true rfl) rfl rfl (s_117_3 _ _) ?_
                have hW32 := cor_si 11703 ((nI k) + 1) hC63 rfl
                refine R_goto (pc := 108) 63 dX6_goOn_108 (by decide) ?_
                exact ih63 (k + 1) _ (by omega) (nI_lts (by omega) (by omega) (Int32.not_le.mp b71_25)) (te_s2 hn hT63 (nI_lts (by omega) (by omega) (Int32.not_le.mp b71_25)) (by have q := h28; rw [hG63.1, nI_clamp (by omega), nI_clamp (by omega)] at q; exact q)) (gsr_k hG63) (by omega) hI63 hW32
              · skip
                refine R_ifeq (pc := 95) 111 dX6_goOn_95 (by decide) (fun _ => ?_) (fun h => absurd (by decide) h)
                exact R_vret (pc := 111) dX6_goOn_111 rfl (Nat.zero_le _) (Nat.zero_le _) ⟨rfl, _, rfl, hI63, hC63, rs_gs hz hn (by omega) hw hG63 (sk_e hT8 (Or.inl (nI_les (by omega) (by omega) b16_18))) (te_e hT63 (Or.inr (by have q := h28; rw [hG63.1, nI_clamp (by omega), nI_clamp (by omega)] at q; exact q)))⟩
        exact HL63 (160 - min (i + 1) n) (min (i + 1) n) _ (by omega) (by omega) (tk_0 (by omega) hn) (gsr_k0 hG8 (min_nI (by omega) hn)) (by omega) hI8 hW23
      · skip
        refine R_aload_n (pc := 19) dX6_goOn_19 rfl rfl ?_
        refine g_X6_9 (pc := 20) (v := .ref 118) rfl dX6_goOn_20 (c_117 _) rfl ?_
        refine R_aload_n (pc := 23) dX6_goOn_23 rfl rfl ?_
        refine g_X6_40 (pc := 24) (v := .int (nI i)) rfl dX6_goOn_24 (c_117 _) (by show some (Value.int (σ8.1 11702)) = _; rw [hG8.2.2.1]) ?_
        have hx34 : vp_in (nI i) 160 := (vp_of_inR (show inR (nI i) 0 159 from inR_nI (M := 159) (by omega) (by decide)) (by decide))
        refine R_iaload (pc := 27) dX6_goOn_27 (c_118 _) hx34 ?_
        refine R_bipush (pc := 28) (v := 32) dX6_goOn_28 (by decide) ?_
        refine R_icne (pc := 30) 46 dX6_goOn_30 (by decide) (fun b30_35 => ?_) (fun b30_35 => ?_)
        · skip
          refine R_aload_n (pc := 46) dX6_goOn_46 rfl rfl ?_
          refine R_aload_n (pc := 47) dX6_goOn_47 rfl rfl ?_
          refine g_X6_40 (pc := 48) (v := .int (nI i)) rfl dX6_goOn_48 (c_117 _) (by show some (Value.int (σ8.1 11702)) = _; rw [hG8.2.2.1]) ?_
          refine R_iconst (pc := 51) (v := 1) dX6_goOn_51 (by decide) ?_
          refine R_iadd (pc := 52) dX6_goOn_52 ?_
          have r36 : inR ((nI i) + 1) 1 160 := inR_add (show inR (nI i) 0 159 from (show inR (nI i) 0 159 from inR_nI (M := 159) (by omega) (by decide))) (show inR 1 1 1 from (inR_self _)) (by decide) (by decide)
          have e37 := ti_add (l := 1) (h := 160) (show inR (nI i) 0 159 from (show inR (nI i) 0 159 from inR_nI (M := 159) (by omega) (by decide))) (show inR 1 1 1 from (inR_self _)) (by decide) (by decide)
          refine R_aload_n (pc := 53) dX6_goOn_53 rfl rfl ?_
          refine g_X6_43 (pc := 54) (v := .int (nI n)) rfl dX6_goOn_54 (c_117 _) (by show some (Value.int (σ8.1 11701)) = _; rw [hG8.2.1 11701 (by decide) (by decide), hz]) ?_
          refine R_mmin (pc := 57) wm_719 dX6_goOn_57 (by decide) (Nat.le_of_ble_eq_true rfl) (Nat.zero_le _) (Nat.zero_le _) ?_
          have r38 : inR (if (nI n) < ((nI i) + 1) then (nI n) else ((nI i) + 1)) 0 160 := inR_min (show inR ((nI i) + 1) 1 160 from r36) (show inR (nI n) 0 160 from (show inR (nI n) 0 160 from inR_nI (M := 160) (by omega) (by decide))) (by decide) (by decide) (by decide)
          have hm39 := min_rng (a := ((nI i) + 1)) (b := (nI n)) (s := (nI i)) (by have q0 := (nI_toInt (n := i) (by omega)); have q1 := (nI_toInt (n := e) (by omega)); have q2 := (nI_toInt (n := n) (by omega)); have q3 := e37; have q4 := ti_nle b16_18; have q5 := ti_ne b30_35; have q6 := ti_in (show inR (nI e) 0 160 from inR_nI (M := 160) (by omega) (by decide)); have q7 := ti_in (show inR (nI n) 0 160 from inR_nI (M := 160) (by omega) (by decide)); have q8 := ti_in (show inR (nI i) 0 159 from inR_nI (M := 159) (by omega) (by decide)); have q9 := ti_in r36; have q10 := ti_in r38; have z0 : (0 : Int32).toInt = 0 := (by decide); have z1 : (1 : Int32).toInt = 1 := (by decide); have z2 : (118 : Int32).toInt = 118 := (by decide); have z3 : (159 : Int32).toInt = 159 := (by decide); have z4 : (160 : Int32).toInt = 160 := (by decide); have z5 : (32 : Int32).toInt = 32 := (by decide); omega) (by have q0 := (nI_toInt (n := i) (by omega)); have q1 := (nI_toInt (n := e) (by omega)); have q2 := (nI_toInt (n := n) (by omega)); have q3 := e37; have q4 := ti_nle b16_18; have q5 := ti_ne b30_35; have q6 := ti_in (show inR (nI e) 0 160 from inR_nI (M := 160) (by omega) (by decide)); have q7 := ti_in (show inR (nI n) 0 160 from inR_nI (M := 160) (by omega) (by decide)); have q8 := ti_in (show inR (nI i) 0 159 from inR_nI (M := 159) (by omega) (by decide)); have q9 := ti_in r36; have q10 := ti_in r38; have z0 : (0 : Int32).toInt = 0 := (by decide); have z1 : (1 : Int32).toInt = 1 := (by decide); have z2 : (118 : Int32).toInt = 118 := (by decide); have z3 : (159 : Int32).toInt = 159 := (by decide); have z4 : (160 : Int32).toInt = 160 := (by decide); have z5 : (32 : Int32).toInt = 32 := (by decide); omega)
          refine p_X6_21 (pc := 60) rfl dX6_goOn_60 (c_117 _) (Nat.le_of_ble_eq_true rfl) rfl rfl (s_117_3 _ _) ?_
          have hW40 := cor_si 11703 (if (nI n) < ((nI i) + 1) then (nI n) else ((nI i) + 1)) hC8 rfl
          have HL63 : ∀ (q k : Nat) (σ63 : Sg), k + q = 160 → k ≤ n → teF (fun k => rowB ((σ.2.2.1 118) i) ((σ.2.2.1 118) k)) n (160 - k) k = tkE (σ.2.2.1 118) n i → GS σ σ63 i k → i ≤ k → Inv σ63 → Cor σ σ63 → R G l yX6_goOn cX6_goOn 1 none 2 0 0 (QV (fun w2 => ∃ σ2, w2 = WW σ2 ∧ Inv σ2 ∧ Cor σ σ2 ∧ RS σ σ2 n (sk (σ.2.2.1 118) n e, w))) 63 [(some (.ref 117))] [] (WW σ63) 0 0 := by
            intro q
            induction q with
            | zero =>
              intro k σ63 hj63 hn63 hT63 hG63 hik63 hI63 hC63
              refine R_aload_n (pc := 63) dX6_goOn_63 rfl rfl ?_
              refine g_X6_21 (pc := 64) (v := .int (nI k)) rfl dX6_goOn_64 (c_117 _) (by show some (Value.int (σ63.1 11703)) = _; rw [hG63.2.2.2]) ?_
              refine R_aload_n (pc := 67) dX6_goOn_67 rfl rfl ?_
              refine g_X6_43 (pc := 68) (v := .int (nI n)) rfl dX6_goOn_68 (c_117 _) (by show some (Value.int (σ63.1 11701)) = _; rw [hG63.2.1 11701 (by decide) (by decide), hz]) ?_
              refine R_icge (pc := 71) 111 dX6_goOn_71 (by decide) (fun _ => ?_) (fun h => False.elim (by have q1 := ti_nle h; have q2 := ti_in (show inR (nI k) 160 160 from (show inR (nI k) 160 160 from by rw [show k = 160 by omega]; exact inR_self _)); have q3 := ti_in (show inR (nI n) 0 160 from (show inR (nI n) 0 160 from inR_nI (M := 160) (by omega) (by decide))); have z0 : (0 : Int32).toInt = 0 := (by decide);  have z1 : (160 : Int32).toInt = 160 := (by decide); omega))
              exact R_vret (pc := 111) dX6_goOn_111 rfl (Nat.zero_le _) (Nat.zero_le _) ⟨rfl, _, rfl, hI63, hC63, rs_gs hz hn (by omega) hw hG63 (sk_e hT8 (Or.inr (by have q := b30_35; rw [hG8.1, nI_clamp (by omega)] at q; exact q))) (te_e hT63 (Or.inl (by omega)))⟩
            | succ q ih63 =>
              intro k σ63 hj63 hn63 hT63 hG63 hik63 hI63 hC63
              refine R_aload_n (pc := 63) dX6_goOn_63 rfl rfl ?_
              refine g_X6_21 (pc := 64) (v := .int (nI k)) rfl dX6_goOn_64 (c_117 _) (by show some (Value.int (σ63.1 11703)) = _; rw [hG63.2.2.2]) ?_
              refine R_aload_n (pc := 67) dX6_goOn_67 rfl rfl ?_
              refine g_X6_43 (pc := 68) (v := .int (nI n)) rfl dX6_goOn_68 (c_117 _) (by show some (Value.int (σ63.1 11701)) = _; rw [hG63.2.1 11701 (by decide) (by decide), hz]) ?_
              refine R_icge (pc := 71) 111 dX6_goOn_71 (by decide) (fun b71_42 => ?_) (fun b71_42 => ?_)
              · skip
                exact R_vret (pc := 111) dX6_goOn_111 rfl (Nat.zero_le _) (Nat.zero_le _) ⟨rfl, _, rfl, hI63, hC63, rs_gs hz hn (by omega) hw hG63 (sk_e hT8 (Or.inr (by have q := b30_35; rw [hG8.1, nI_clamp (by omega)] at q; exact q))) (te_e hT63 (Or.inl (nI_les (by omega) (by omega) b71_42)))⟩
              · skip
                refine R_aload_n (pc := 74) dX6_goOn_74 rfl rfl ?_
                refine g_X6_9 (pc := 75) (v := .ref 118) rfl dX6_goOn_75 (c_117 _) rfl ?_
                refine R_aload_n (pc := 78) dX6_goOn_78 rfl rfl ?_
                refine g_X6_40 (pc := 79) (v := .int (nI i)) rfl dX6_goOn_79 (c_117 _) (by show some (Value.int (σ63.1 11702)) = _; rw [hG63.2.2.1]) ?_
                have hx43 : vp_in (nI i) 160 := (vp_ti (by have q0 := (nI_toInt (n := i) (by omega)); have q1 := (nI_toInt (n := e) (by omega)); have q2 := (nI_toInt (n := n) (by omega)); have q3 := e37; have q4 := hm39.1; have q5 := hm39.2; have q6 := (nI_toInt (n := i) (by omega)); have q7 := (nI_toInt (n := k) (by omega)); have q8 := (nI_toInt (n := n) (by omega)); have q9 := ti_nle b16_18; have q10 := ti_ne b30_35; have q11 := ti_nle b71_42; have q12 := ti_in (show inR (nI e) 0 160 from inR_nI (M := 160) (by omega) (by decide)); have q13 := ti_in (show inR (nI n) 0 160 from inR_nI (M := 160) (by omega) (by decide)); have q14 := ti_in (show inR (nI i) 0 160 from inR_nI (M := 160) (by omega) (by decide)); have q15 := ti_in r36; have q16 := ti_in r38; have q17 := ti_in (show inR (nI k) 0 159 from inR_nI (M := 159) (by omega) (by decide)); have z0 : (0 : Int32).toInt = 0 := (by decide); have z1 : (1 : Int32).toInt = 1 := (by decide); have z2 : (118 : Int32).toInt = 118 := (by decide); have z3 : (159 : Int32).toInt = 159 := (by decide); have z4 : (160 : Int32).toInt = 160 := (by decide); have z5 : (32 : Int32).toInt = 32 := (by decide); omega) (by have q0 := (nI_toInt (n := i) (by omega)); have q1 := (nI_toInt (n := e) (by omega)); have q2 := (nI_toInt (n := n) (by omega)); have q3 := e37; have q4 := hm39.1; have q5 := hm39.2; have q6 := (nI_toInt (n := i) (by omega)); have q7 := (nI_toInt (n := k) (by omega)); have q8 := (nI_toInt (n := n) (by omega)); have q9 := ti_nle b16_18; have q10 := ti_ne b30_35; have q11 := ti_nle b71_42; have q12 := ti_in (show inR (nI e) 0 160 from inR_nI (M := 160) (by omega) (by decide)); have q13 := ti_in (show inR (nI n) 0 160 from inR_nI (M := 160) (by omega) (by decide)); have q14 := ti_in (show inR (nI i) 0 160 from inR_nI (M := 160) (by omega) (by decide)); have q15 := ti_in r36; have q16 := ti_in r38; have q17 := ti_in (show inR (nI k) 0 159 from inR_nI (M := 159) (by omega) (by decide)); have z0 : (0 : Int32).toInt = 0 := (by decide); have z1 : (1 : Int32).toInt = 1 := (by decide); have z2 : (118 : Int32).toInt = 118 := (by decide); have z3 : (159 : Int32).toInt = 159 := (by decide); have z4 : (160 : Int32).toInt = 160 := (by decide); have z5 : (32 : Int32).toInt = 32 := (by decide); omega))
                refine R_iaload (pc := 82) dX6_goOn_82 (c_118 _) hx43 ?_
                refine R_aload_n (pc := 83) dX6_goOn_83 rfl rfl ?_
                refine g_X6_9 (pc := 84) (v := .ref 118) rfl dX6_goOn_84 (c_117 _) rfl ?_
                refine R_aload_n (pc := 87) dX6_goOn_87 rfl rfl ?_
                refine g_X6_21 (pc := 88) (v := .int (nI k)) rfl dX6_goOn_88 (c_117 _) (by show some (Value.int (σ63.1 11703)) = _; rw [hG63.2.2.2]) ?_
                have hx44 : vp_in (nI k) 160 := (vp_of_inR (show inR (nI k) 0 159 from inR_nI (M := 159) (by omega) (by decide)) (by decide))
                refine R_iaload (pc := 91) dX6_goOn_91 (c_118 _) hx44 ?_
                refine k_X6_110 (pc := 92) (ge_X6_isOneRow _ _ _) rfl (by decide) (Nat.le_refl _) (Nat.le_refl _) (Nat.le_of_ble_eq_true rfl) dX6_goOn_92 (fun x w2 h => ?_)
                rcases h with ⟨rfl, ⟨h45, rfl⟩ | ⟨h45, rfl⟩⟩
                · skip
                  refine R_ifeq (pc := 95) 111 dX6_goOn_95 (by decide) (fun h => absurd h (by decide)) (fun _ => ?_)
                  refine R_aload_n (pc := 98) dX6_goOn_98 rfl rfl ?_
                  refine R_dup (pc := 99) dX6_goOn_99 rfl ?_
                  refine g_X6_21 (pc := 100) (v := .int (nI k)) rfl dX6_goOn_100 (c_117 _) (by show some (Value.int (σ63.1 11703)) = _; rw [hG63.2.2.2]) ?_
                  refine R_iconst (pc := 103) (v := 1) dX6_goOn_103 (by decide) ?_
                  refine R_iadd (pc := 104) dX6_goOn_104 ?_
                  have r47 : inR ((nI k) + 1) 1 160 := inR_add (show inR (nI k) 0 159 from (show inR (nI k) 0 159 from inR_nI (M := 159) (by omega) (by decide))) (show inR 1 1 1 from (inR_self _)) (by decide) (by decide)
                  have e48 := ti_add (l := 1) (h := 160) (show inR (nI k) 0 159 from (show inR (nI k) 0 159 from inR_nI (M := 159) (by omega) (by decide))) (show inR 1 1 1 from (inR_self _)) (by decide) (by decide)
                  refine p_X6_21 (pc := 105) rfl dX6_goOn_105 (c_117 _) (Nat.le_of_ble_eq_true rfl) rfl rfl (s_117_3 _ _) ?_
                  have hW49 := cor_si 11703 ((nI k) + 1) hC63 rfl
                  refine R_goto (pc := 108) 63 dX6_goOn_108 (by decide) ?_
                  exact ih63 (k + 1) _ (by omega) (nI_lts (by omega) (by omega) (Int32.not_le.mp b71_42)) (te_s2 hn hT63 (nI_lts (by omega) (by omega) (Int32.not_le.mp b71_42)) (by have q := h45; rw [hG63.1, nI_clamp (by omega), nI_clamp (by omega)] at q; exact q)) (gsr_k hG63) (by omega) hI63 hW49
                · skip
                  refine R_ifeq (pc := 95) 111 dX6_goOn_95 (by decide) (fun _ => ?_) (fun h => absurd (by decide) h)
                  exact R_vret (pc := 111) dX6_goOn_111 rfl (Nat.zero_le _) (Nat.zero_le _) ⟨rfl, _, rfl, hI63, hC63, rs_gs hz hn (by omega) hw hG63 (sk_e hT8 (Or.inr (by have q := b30_35; rw [hG8.1, nI_clamp (by omega)] at q; exact q))) (te_e hT63 (Or.inr (by have q := h45; rw [hG63.1, nI_clamp (by omega), nI_clamp (by omega)] at q; exact q)))⟩
          exact HL63 (160 - min (i + 1) n) (min (i + 1) n) _ (by omega) (by omega) (tk_0 (by omega) hn) (gsr_k0 hG8 (min_nI (by omega) hn)) (by omega) hI8 hW40
        · skip
          refine R_aload_n (pc := 33) dX6_goOn_33 rfl rfl ?_
          refine R_dup (pc := 34) dX6_goOn_34 rfl ?_
          refine g_X6_40 (pc := 35) (v := .int (nI i)) rfl dX6_goOn_35 (c_117 _) (by show some (Value.int (σ8.1 11702)) = _; rw [hG8.2.2.1]) ?_
          refine R_iconst (pc := 38) (v := 1) dX6_goOn_38 (by decide) ?_
          refine R_iadd (pc := 39) dX6_goOn_39 ?_
          have r51 : inR ((nI i) + 1) 1 160 := inR_add (show inR (nI i) 0 159 from (show inR (nI i) 0 159 from inR_nI (M := 159) (by omega) (by decide))) (show inR 1 1 1 from (inR_self _)) (by decide) (by decide)
          have e52 := ti_add (l := 1) (h := 160) (show inR (nI i) 0 159 from (show inR (nI i) 0 159 from inR_nI (M := 159) (by omega) (by decide))) (show inR 1 1 1 from (inR_self _)) (by decide) (by decide)
          refine p_X6_40 (pc := 40) rfl dX6_goOn_40 (c_117 _) (Nat.le_of_ble_eq_true rfl) rfl rfl (s_117_2 _ _) ?_
          have hW53 := cor_si 11702 ((nI i) + 1) hC8 rfl
          refine R_goto (pc := 43) 8 dX6_goOn_43 (by decide) ?_
          exact ih8 (i + 1) _ (by omega) (nI_lts (by omega) (by omega) (Int32.not_le.mp b16_18)) (sk_s2 hn hT8 (nI_lts (by omega) (by omega) (Int32.not_le.mp b16_18)) (by have q := b30_35; rw [hG8.1, nI_clamp (by omega)] at q; exact q)) (gsr_i hG8) hI8 hW53
  exact HL8 (160 - e) e _ (by omega) (by omega) rfl (gsr_0 he) hI hW1
set_option maxRecDepth 100000 in
set_option maxHeartbeats 40000000 in
theorem ge_X6_findWrong {G : vG} {l : Launch} (σ : Sg) (n : Nat) (st : St)  (hI : Inv σ) (hR : RS σ σ n st) : Sp G l yX6_findWrong cX6_findWrong 1 none 0 0 0 [.ref 117] (WW σ) (QV (fun w2 => ∃ σ2, w2 = WW σ2 ∧ Inv σ2 ∧ Cor σ σ2 ∧ RS σ σ2 n (fwS st))) := by
  refine Sp_of_R [(some (.ref 117))] [] rfl (by simp) rfl (Nat.le_of_ble_eq_true rfl) ?_
  have hn160 : n ≤ 160 := hR.2.2.2.1
  have hsn : st.1 ≤ n := hR.2.2.2.2.1
  have hte := te_p (f := (σ.2.2.1 118)) hsn
  refine R_aload_n (pc := 0) dX6_findWrong_0 rfl rfl ?_
  refine g_X6_24 (pc := 1) (v := .int st.2) rfl dX6_findWrong_1 (c_117 _) (by show some (Value.int (σ.1 11704)) = _; rw [hR.2.2.2.2.2.2.2]) ?_
  refine R_iconst (pc := 4) (v := (-1)) dX6_findWrong_4 (by decide) ?_
  refine R_icne (pc := 5) 16 dX6_findWrong_5 (by decide) (fun b5_1 => ?_) (fun b5_1 => ?_)
  · skip
    exact R_vret (pc := 16) dX6_findWrong_16 rfl (Nat.zero_le _) (Nat.zero_le _) ⟨rfl, _, rfl, hI, (show Cor σ σ from Cor.rfl' σ), rs_k hR b5_1⟩
  · skip
    refine R_aload_n (pc := 8) dX6_findWrong_8 rfl rfl ?_
    refine R_aload_n (pc := 9) dX6_findWrong_9 rfl rfl ?_
    refine g_X6_40 (pc := 10) (v := .int (nI st.1)) rfl dX6_findWrong_10 (c_117 _) (by show some (Value.int (σ.1 11702)) = _; rw [hR.2.2.2.2.2.1]) ?_
    refine p_X6_24 (pc := 13) rfl dX6_findWrong_13 (c_117 _) (Nat.le_of_ble_eq_true rfl) rfl rfl (s_117_4 _ _) ?_
    have hW2 := cor_si 11704 (nI st.1) (show Cor σ σ from Cor.rfl' σ) rfl
    exact R_vret (pc := 16) dX6_findWrong_16 rfl (Nat.zero_le _) (Nat.zero_le _) ⟨rfl, _, rfl, hI, hW2, rs_w hR b5_1⟩
set_option maxRecDepth 100000 in
set_option maxHeartbeats 40000000 in
theorem ge_X6_readWord_0 {G : vG} {l : Launch} (σ : Sg) (n : Nat) (st : St)  (hI : Inv σ) (hR : RS σ σ n st) : Sp G l yX6_readWord cX6_readWord 2 none 6 0 0 [.ref 117, .ref 1000000] (WW σ) (QV (fun w2 => ∃ σ2, w2 = WW σ2 ∧ Inv σ2 ∧ Cor σ σ2 ∧ RS σ σ2 n (rwS (σ.2.2.1 118) n 0 st))) := by
  refine Sp_of_R [(some (.ref 117)), (some (.ref 1000000))] [] rfl (by simp) rfl (Nat.le_of_ble_eq_true rfl) ?_
  have hn160 : n ≤ 160 := hR.2.2.2.1
  have hsn : st.1 ≤ n := hR.2.2.2.2.1
  have hte := te_p (f := (σ.2.2.1 118)) hsn
  refine R_aload_n (pc := 0) dX6_readWord_0 rfl rfl ?_
  refine g_X6_24 (pc := 1) (v := .int st.2) rfl dX6_readWord_1 (c_117 _) (by show some (Value.int (σ.1 11704)) = _; rw [hR.2.2.2.2.2.2.2]) ?_
  refine R_iconst (pc := 4) (v := (-1)) dX6_readWord_4 (by decide) ?_
  refine R_icne (pc := 5) 23 dX6_readWord_5 (by decide) (fun b5_1 => ?_) (fun b5_1 => ?_)
  · skip
    refine R_aload_n (pc := 23) dX6_readWord_23 rfl rfl ?_
    refine k_X6_44 (pc := 24) (ge_X6_findWrong _ n st hI (rs_re hR)) rfl (c_117 _) (by decide) (Nat.le_refl _) (Nat.le_refl _) (Nat.le_of_ble_eq_true rfl) dX6_readWord_24 (fun w2 h => ?_)
    obtain ⟨σx3, rfl, hV2, hW4, hR5⟩ := h
    have hW8 := Cor.trans (show Cor σ σ from Cor.rfl' σ) hW4
    have hR9 : RS σ σx3 n (fwS st) := rs_tr hR hR5
    have ha10 : (fwS st).1 ≤ n := hR9.2.2.2.2.1
    have hte11 := te_p2 (f := (σ.2.2.1 118)) ha10
    exact R_vret (pc := 27) dX6_readWord_27 rfl (Nat.zero_le _) (Nat.zero_le _) ⟨rfl, _, rfl, hV2, hW8, (by rw [show rwS (σ.2.2.1 118) n 0 st = _ from rw_f1 b5_1]; exact hR9)⟩
  · skip
    refine R_aload_n (pc := 8) dX6_readWord_8 rfl rfl ?_
    refine R_aload_n (pc := 9) dX6_readWord_9 rfl rfl ?_
    refine k_X6_36 (pc := 10) (ge_X6_isAt_0 _ n st hI (rs_re hR)) rfl (c_117 _) (by decide) (Nat.le_refl _) (Nat.le_refl _) (Nat.le_of_ble_eq_true rfl) dX6_readWord_10 (fun x w2 h => ?_)
    rcases h with ⟨rfl, ⟨h12, rfl⟩ | ⟨h12, rfl⟩⟩
    · skip
      have hB13 := h12
      refine R_ifeq (pc := 13) 23 dX6_readWord_13 (by decide) (fun h => absurd h (by decide)) (fun _ => ?_)
      refine R_aload_n (pc := 16) dX6_readWord_16 rfl rfl ?_
      refine k_X6_27 (pc := 17) (ge_X6_goOn _ n (tkE (σ.2.2.1 118) n st.1) st.2 hI (rs_z hR) hn160 hR.2.2.2.2.2.2.1 (te_p hR.2.2.2.2.1).2.1 hR.2.2.2.2.2.2.2) rfl (c_117 _) (by decide) (Nat.le_refl _) (Nat.le_refl _) (Nat.le_of_ble_eq_true rfl) dX6_readWord_17 (fun w2 h => ?_)
      obtain ⟨σx16, rfl, hV15, hW17, hR18⟩ := h
      have hW20 := Cor.trans (show Cor σ σ from Cor.rfl' σ) hW17
      have hR19 : RS σ σx16 n (sk (σ.2.2.1 118) n (tkE (σ.2.2.1 118) n st.1), st.2) := rs_tr hR hR18
      have ha21 : (sk (σ.2.2.1 118) n (tkE (σ.2.2.1 118) n st.1), st.2).1 ≤ n := hR19.2.2.2.2.1
      have hte22 := te_p2 (f := (σ.2.2.1 118)) ha21
      refine R_goto (pc := 20) 27 dX6_readWord_20 (by decide) ?_
      exact R_vret (pc := 27) dX6_readWord_27 rfl (Nat.zero_le _) (Nat.zero_le _) ⟨rfl, _, rfl, hV15, hW20, (by rw [show rwS (σ.2.2.1 118) n 0 st = _ from rw_t b5_1 hB13]; exact hR19)⟩
    · skip
      have hB23 := h12
      refine R_ifeq (pc := 13) 23 dX6_readWord_13 (by decide) (fun _ => ?_) (fun h => absurd (by decide) h)
      refine R_aload_n (pc := 23) dX6_readWord_23 rfl rfl ?_
      refine k_X6_44 (pc := 24) (ge_X6_findWrong _ n st hI (rs_re hR)) rfl (c_117 _) (by decide) (Nat.le_refl _) (Nat.le_refl _) (Nat.le_of_ble_eq_true rfl) dX6_readWord_24 (fun w2 h => ?_)
      obtain ⟨σx26, rfl, hV25, hW27, hR28⟩ := h
      have hW31 := Cor.trans (show Cor σ σ from Cor.rfl' σ) hW27
      have hR32 : RS σ σx26 n (fwS st) := rs_tr hR hR28
      have ha33 : (fwS st).1 ≤ n := hR32.2.2.2.2.1
      have hte34 := te_p2 (f := (σ.2.2.1 118)) ha33
      exact R_vret (pc := 27) dX6_readWord_27 rfl (Nat.zero_le _) (Nat.zero_le _) ⟨rfl, _, rfl, hV25, hW31, (by rw [show rwS (σ.2.2.1 118) n 0 st = _ from rw_f2 hB23]; exact hR32)⟩
set_option maxRecDepth 100000 in
set_option maxHeartbeats 40000000 in
theorem ge_X6_readWord_1 {G : vG} {l : Launch} (σ : Sg) (n : Nat) (st : St)  (hI : Inv σ) (hR : RS σ σ n st) : Sp G l yX6_readWord cX6_readWord 2 none 6 0 0 [.ref 117, .ref 1000001] (WW σ) (QV (fun w2 => ∃ σ2, w2 = WW σ2 ∧ Inv σ2 ∧ Cor σ σ2 ∧ RS σ σ2 n (rwS (σ.2.2.1 118) n 1 st))) := by
  refine Sp_of_R [(some (.ref 117)), (some (.ref 1000001))] [] rfl (by simp) rfl (Nat.le_of_ble_eq_true rfl) ?_
  have hn160 : n ≤ 160 := hR.2.2.2.1
  have hsn : st.1 ≤ n := hR.2.2.2.2.1
  have hte := te_p (f := (σ.2.2.1 118)) hsn
  refine R_aload_n (pc := 0) dX6_readWord_0 rfl rfl ?_
  refine g_X6_24 (pc := 1) (v := .int st.2) rfl dX6_readWord_1 (c_117 _) (by show some (Value.int (σ.1 11704)) = _; rw [hR.2.2.2.2.2.2.2]) ?_
  refine R_iconst (pc := 4) (v := (-1)) dX6_readWord_4 (by decide) ?_
  refine R_icne (pc := 5) 23 dX6_readWord_5 (by decide) (fun b5_1 => ?_) (fun b5_1 => ?_)
  · skip
    refine R_aload_n (pc := 23) dX6_readWord_23 rfl rfl ?_
    refine k_X6_44 (pc := 24) (ge_X6_findWrong _ n st hI (rs_re hR)) rfl (c_117 _) (by decide) (Nat.le_refl _) (Nat.le_refl _) (Nat.le_of_ble_eq_true rfl) dX6_readWord_24 (fun w2 h => ?_)
    obtain ⟨σx3, rfl, hV2, hW4, hR5⟩ := h
    have hW8 := Cor.trans (show Cor σ σ from Cor.rfl' σ) hW4
    have hR9 : RS σ σx3 n (fwS st) := rs_tr hR hR5
    have ha10 : (fwS st).1 ≤ n := hR9.2.2.2.2.1
    have hte11 := te_p2 (f := (σ.2.2.1 118)) ha10
    exact R_vret (pc := 27) dX6_readWord_27 rfl (Nat.zero_le _) (Nat.zero_le _) ⟨rfl, _, rfl, hV2, hW8, (by rw [show rwS (σ.2.2.1 118) n 1 st = _ from rw_f1 b5_1]; exact hR9)⟩
  · skip
    refine R_aload_n (pc := 8) dX6_readWord_8 rfl rfl ?_
    refine R_aload_n (pc := 9) dX6_readWord_9 rfl rfl ?_
    refine k_X6_36 (pc := 10) (ge_X6_isAt_1 _ n st hI (rs_re hR)) rfl (c_117 _) (by decide) (Nat.le_refl _) (Nat.le_refl _) (Nat.le_of_ble_eq_true rfl) dX6_readWord_10 (fun x w2 h => ?_)
    rcases h with ⟨rfl, ⟨h12, rfl⟩ | ⟨h12, rfl⟩⟩
    · skip
      have hB13 := h12
      refine R_ifeq (pc := 13) 23 dX6_readWord_13 (by decide) (fun h => absurd h (by decide)) (fun _ => ?_)
      refine R_aload_n (pc := 16) dX6_readWord_16 rfl rfl ?_
      refine k_X6_27 (pc := 17) (ge_X6_goOn _ n (tkE (σ.2.2.1 118) n st.1) st.2 hI (rs_z hR) hn160 hR.2.2.2.2.2.2.1 (te_p hR.2.2.2.2.1).2.1 hR.2.2.2.2.2.2.2) rfl (c_117 _) (by decide) (Nat.le_refl _) (Nat.le_refl _) (Nat.le_of_ble_eq_true rfl) dX6_readWord_17 (fun w2 h => ?_)
      obtain ⟨σx16, rfl, hV15, hW17, hR18⟩ := h
      have hW20 := Cor.trans (show Cor σ σ from Cor.rfl' σ) hW17
      have hR19 : RS σ σx16 n (sk (σ.2.2.1 118) n (tkE (σ.2.2.1 118) n st.1), st.2) := rs_tr hR hR18
      have ha21 : (sk (σ.2.2.1 118) n (tkE (σ.2.2.1 118) n st.1), st.2).1 ≤ n := hR19.2.2.2.2.1
      have hte22 := te_p2 (f := (σ.2.2.1 118)) ha21
      refine R_goto (pc := 20) 27 dX6_readWord_20 (by decide) ?_
      exact R_vret (pc := 27) dX6_readWord_27 rfl (Nat.zero_le _) (Nat.zero_le _) ⟨rfl, _, rfl, hV15, hW20, (by rw [show rwS (σ.2.2.1 118) n 1 st = _ from rw_t b5_1 hB13]; exact hR19)⟩
    · skip
      have hB23 := h12
      refine R_ifeq (pc := 13) 23 dX6_readWord_13 (by decide) (fun _ => ?_) (fun h => absurd (by decide) h)
      refine R_aload_n (pc := 23) dX6_readWord_23 rfl rfl ?_
      refine k_X6_44 (pc := 24) (ge_X6_findWrong _ n st hI (rs_re hR)) rfl (c_117 _) (by decide) (Nat.le_refl _) (Nat.le_refl _) (Nat.le_of_ble_eq_true rfl) dX6_readWord_24 (fun w2 h => ?_)
      obtain ⟨σx26, rfl, hV25, hW27, hR28⟩ := h
      have hW31 := Cor.trans (show Cor σ σ from Cor.rfl' σ) hW27
      have hR32 : RS σ σx26 n (fwS st) := rs_tr hR hR28
      have ha33 : (fwS st).1 ≤ n := hR32.2.2.2.2.1
      have hte34 := te_p2 (f := (σ.2.2.1 118)) ha33
      exact R_vret (pc := 27) dX6_readWord_27 rfl (Nat.zero_le _) (Nat.zero_le _) ⟨rfl, _, rfl, hV25, hW31, (by rw [show rwS (σ.2.2.1 118) n 1 st = _ from rw_f2 hB23]; exact hR32)⟩
set_option maxRecDepth 100000 in
set_option maxHeartbeats 40000000 in
theorem ge_X6_readWord_2 {G : vG} {l : Launch} (σ : Sg) (n : Nat) (st : St)  (hI : Inv σ) (hR : RS σ σ n st) : Sp G l yX6_readWord cX6_readWord 2 none 6 0 0 [.ref 117, .ref 1000002] (WW σ) (QV (fun w2 => ∃ σ2, w2 = WW σ2 ∧ Inv σ2 ∧ Cor σ σ2 ∧ RS σ σ2 n (rwS (σ.2.2.1 118) n 2 st))) := by
  refine Sp_of_R [(some (.ref 117)), (some (.ref 1000002))] [] rfl (by simp) rfl (Nat.le_of_ble_eq_true rfl) ?_
  have hn160 : n ≤ 160 := hR.2.2.2.1
  have hsn : st.1 ≤ n := hR.2.2.2.2.1
  have hte := te_p (f := (σ.2.2.1 118)) hsn
  refine R_aload_n (pc := 0) dX6_readWord_0 rfl rfl ?_
  refine g_X6_24 (pc := 1) (v := .int st.2) rfl dX6_readWord_1 (c_117 _) (by show some (Value.int (σ.1 11704)) = _; rw [hR.2.2.2.2.2.2.2]) ?_
  refine R_iconst (pc := 4) (v := (-1)) dX6_readWord_4 (by decide) ?_
  refine R_icne (pc := 5) 23 dX6_readWord_5 (by decide) (fun b5_1 => ?_) (fun b5_1 => ?_)
  · skip
    refine R_aload_n (pc := 23) dX6_readWord_23 rfl rfl ?_
    refine k_X6_44 (pc := 24) (ge_X6_findWrong _ n st hI (rs_re hR)) rfl (c_117 _) (by decide) (Nat.le_refl _) (Nat.le_refl _) (Nat.le_of_ble_eq_true rfl) dX6_readWord_24 (fun w2 h => ?_)
    obtain ⟨σx3, rfl, hV2, hW4, hR5⟩ := h
    have hW8 := Cor.trans (show Cor σ σ from Cor.rfl' σ) hW4
    have hR9 : RS σ σx3 n (fwS st) := rs_tr hR hR5
    have ha10 : (fwS st).1 ≤ n := hR9.2.2.2.2.1
    have hte11 := te_p2 (f := (σ.2.2.1 118)) ha10
    exact R_vret (pc := 27) dX6_readWord_27 rfl (Nat.zero_le _) (Nat.zero_le _) ⟨rfl, _, rfl, hV2, hW8, (by rw [show rwS (σ.2.2.1 118) n 2 st = _ from rw_f1 b5_1]; exact hR9)⟩
  · skip
    refine R_aload_n (pc := 8) dX6_readWord_8 rfl rfl ?_
    refine R_aload_n (pc := 9) dX6_readWord_9 rfl rfl ?_
    refine k_X6_36 (pc := 10) (ge_X6_isAt_2 _ n st hI (rs_re hR)) rfl (c_117 _) (by decide) (Nat.le_refl _) (Nat.le_refl _) (Nat.le_of_ble_eq_true rfl) dX6_readWord_10 (fun x w2 h => ?_)
    rcases h with ⟨rfl, ⟨h12, rfl⟩ | ⟨h12, rfl⟩⟩
    · skip
      have hB13 := h12
      refine R_ifeq (pc := 13) 23 dX6_readWord_13 (by decide) (fun h => absurd h (by decide)) (fun _ => ?_)
      refine R_aload_n (pc := 16) dX6_readWord_16 rfl rfl ?_
      refine k_X6_27 (pc := 17) (ge_X6_goOn _ n (tkE (σ.2.2.1 118) n st.1) st.2 hI (rs_z hR) hn160 hR.2.2.2.2.2.2.1 (te_p hR.2.2.2.2.1).2.1 hR.2.2.2.2.2.2.2) rfl (c_117 _) (by decide) (Nat.le_refl _) (Nat.le_refl _) (Nat.le_of_ble_eq_true rfl) dX6_readWord_17 (fun w2 h => ?_)
      obtain ⟨σx16, rfl, hV15, hW17, hR18⟩ := h
      have hW20 := Cor.trans (show Cor σ σ from Cor.rfl' σ) hW17
      have hR19 : RS σ σx16 n (sk (σ.2.2.1 118) n (tkE (σ.2.2.1 118) n st.1), st.2) := rs_tr hR hR18
      have ha21 : (sk (σ.2.2.1 118) n (tkE (σ.2.2.1 118) n st.1), st.2).1 ≤ n := hR19.2.2.2.2.1
      have hte22 := te_p2 (f := (σ.2.2.1 118)) ha21
      refine R_goto (pc := 20) 27 dX6_readWord_20 (by decide) ?_
      exact R_vret (pc := 27) dX6_readWord_27 rfl (Nat.zero_le _) (Nat.zero_le _) ⟨rfl, _, rfl, hV15, hW20, (by rw [show rwS (σ.2.2.1 118) n 2 st = _ from rw_t b5_1 hB13]; exact hR19)⟩
    · skip
      have hB23 := h12
      refine R_ifeq (pc := 13) 23 dX6_readWord_13 (by decide) (fun _ => ?_) (fun h => absurd (by decide) h)
      refine R_aload_n (pc := 23) dX6_readWord_23 rfl rfl ?_
      refine k_X6_44 (pc := 24) (ge_X6_findWrong _ n st hI (rs_re hR)) rfl (c_117 _) (by decide) (Nat.le_refl _) (Nat.le_refl _) (Nat.le_of_ble_eq_true rfl) dX6_readWord_24 (fun w2 h => ?_)
      obtain ⟨σx26, rfl, hV25, hW27, hR28⟩ := h
      have hW31 := Cor.trans (show Cor σ σ from Cor.rfl' σ) hW27
      have hR32 : RS σ σx26 n (fwS st) := rs_tr hR hR28
      have ha33 : (fwS st).1 ≤ n := hR32.2.2.2.2.1
      have hte34 := te_p2 (f := (σ.2.2.1 118)) ha33
      exact R_vret (pc := 27) dX6_readWord_27 rfl (Nat.zero_le _) (Nat.zero_le _) ⟨rfl, _, rfl, hV25, hW31, (by rw [show rwS (σ.2.2.1 118) n 2 st = _ from rw_f2 hB23]; exact hR32)⟩
set_option maxRecDepth 100000 in
set_option maxHeartbeats 40000000 in
theorem ge_X6_readWord_3 {G : vG} {l : Launch} (σ : Sg) (n : Nat) (st : St)  (hI : Inv σ) (hR : RS σ σ n st) : Sp G l yX6_readWord cX6_readWord 2 none 6 0 0 [.ref 117, .ref 1000003] (WW σ) (QV (fun w2 => ∃ σ2, w2 = WW σ2 ∧ Inv σ2 ∧ Cor σ σ2 ∧ RS σ σ2 n (rwS (σ.2.2.1 118) n 3 st))) := by
  refine Sp_of_R [(some (.ref 117)), (some (.ref 1000003))] [] rfl (by simp) rfl (Nat.le_of_ble_eq_true rfl) ?_
  have hn160 : n ≤ 160 := hR.2.2.2.1
  have hsn : st.1 ≤ n := hR.2.2.2.2.1
  have hte := te_p (f := (σ.2.2.1 118)) hsn
  refine R_aload_n (pc := 0) dX6_readWord_0 rfl rfl ?_
  refine g_X6_24 (pc := 1) (v := .int st.2) rfl dX6_readWord_1 (c_117 _) (by show some (Value.int (σ.1 11704)) = _; rw [hR.2.2.2.2.2.2.2]) ?_
  refine R_iconst (pc := 4) (v := (-1)) dX6_readWord_4 (by decide) ?_
  refine R_icne (pc := 5) 23 dX6_readWord_5 (by decide) (fun b5_1 => ?_) (fun b5_1 => ?_)
  · skip
    refine R_aload_n (pc := 23) dX6_readWord_23 rfl rfl ?_
    refine k_X6_44 (pc := 24) (ge_X6_findWrong _ n st hI (rs_re hR)) rfl (c_117 _) (by decide) (Nat.le_refl _) (Nat.le_refl _) (Nat.le_of_ble_eq_true rfl) dX6_readWord_24 (fun w2 h => ?_)
    obtain ⟨σx3, rfl, hV2, hW4, hR5⟩ := h
    have hW8 := Cor.trans (show Cor σ σ from Cor.rfl' σ) hW4
    have hR9 : RS σ σx3 n (fwS st) := rs_tr hR hR5
    have ha10 : (fwS st).1 ≤ n := hR9.2.2.2.2.1
    have hte11 := te_p2 (f := (σ.2.2.1 118)) ha10
    exact R_vret (pc := 27) dX6_readWord_27 rfl (Nat.zero_le _) (Nat.zero_le _) ⟨rfl, _, rfl, hV2, hW8, (by rw [show rwS (σ.2.2.1 118) n 3 st = _ from rw_f1 b5_1]; exact hR9)⟩
  · skip
    refine R_aload_n (pc := 8) dX6_readWord_8 rfl rfl ?_
    refine R_aload_n (pc := 9) dX6_readWord_9 rfl rfl ?_
    refine k_X6_36 (pc := 10) (ge_X6_isAt_3 _ n st hI (rs_re hR)) rfl (c_117 _) (by decide) (Nat.le_refl _) (Nat.le_refl _) (Nat.le_of_ble_eq_true rfl) dX6_readWord_10 (fun x w2 h => ?_)
    rcases h with ⟨rfl, ⟨h12, rfl⟩ | ⟨h12, rfl⟩⟩
    · skip
      have hB13 := h12
      refine R_ifeq (pc := 13) 23 dX6_readWord_13 (by decide) (fun h => absurd h (by decide)) (fun _ => ?_)
      refine R_aload_n (pc := 16) dX6_readWord_16 rfl rfl ?_
      refine k_X6_27 (pc := 17) (ge_X6_goOn _ n (tkE (σ.2.2.1 118) n st.1) st.2 hI (rs_z hR) hn160 hR.2.2.2.2.2.2.1 (te_p hR.2.2.2.2.1).2.1 hR.2.2.2.2.2.2.2) rfl (c_117 _) (by decide) (Nat.le_refl _) (Nat.le_refl _) (Nat.le_of_ble_eq_true rfl) dX6_readWord_17 (fun w2 h => ?_)
      obtain ⟨σx16, rfl, hV15, hW17, hR18⟩ := h
      have hW20 := Cor.trans (show Cor σ σ from Cor.rfl' σ) hW17
      have hR19 : RS σ σx16 n (sk (σ.2.2.1 118) n (tkE (σ.2.2.1 118) n st.1), st.2) := rs_tr hR hR18
      have ha21 : (sk (σ.2.2.1 118) n (tkE (σ.2.2.1 118) n st.1), st.2).1 ≤ n := hR19.2.2.2.2.1
      have hte22 := te_p2 (f := (σ.2.2.1 118)) ha21
      refine R_goto (pc := 20) 27 dX6_readWord_20 (by decide) ?_
      exact R_vret (pc := 27) dX6_readWord_27 rfl (Nat.zero_le _) (Nat.zero_le _) ⟨rfl, _, rfl, hV15, hW20, (by rw [show rwS (σ.2.2.1 118) n 3 st = _ from rw_t b5_1 hB13]; exact hR19)⟩
    · skip
      have hB23 := h12
      refine R_ifeq (pc := 13) 23 dX6_readWord_13 (by decide) (fun _ => ?_) (fun h => absurd (by decide) h)
      refine R_aload_n (pc := 23) dX6_readWord_23 rfl rfl ?_
      refine k_X6_44 (pc := 24) (ge_X6_findWrong _ n st hI (rs_re hR)) rfl (c_117 _) (by decide) (Nat.le_refl _) (Nat.le_refl _) (Nat.le_of_ble_eq_true rfl) dX6_readWord_24 (fun w2 h => ?_)
      obtain ⟨σx26, rfl, hV25, hW27, hR28⟩ := h
      have hW31 := Cor.trans (show Cor σ σ from Cor.rfl' σ) hW27
      have hR32 : RS σ σx26 n (fwS st) := rs_tr hR hR28
      have ha33 : (fwS st).1 ≤ n := hR32.2.2.2.2.1
      have hte34 := te_p2 (f := (σ.2.2.1 118)) ha33
      exact R_vret (pc := 27) dX6_readWord_27 rfl (Nat.zero_le _) (Nat.zero_le _) ⟨rfl, _, rfl, hV25, hW31, (by rw [show rwS (σ.2.2.1 118) n 3 st = _ from rw_f2 hB23]; exact hR32)⟩
set_option maxRecDepth 100000 in
set_option maxHeartbeats 40000000 in
theorem ge_X6_readWord_4 {G : vG} {l : Launch} (σ : Sg) (n : Nat) (st : St)  (hI : Inv σ) (hR : RS σ σ n st) : Sp G l yX6_readWord cX6_readWord 2 none 6 0 0 [.ref 117, .ref 1000004] (WW σ) (QV (fun w2 => ∃ σ2, w2 = WW σ2 ∧ Inv σ2 ∧ Cor σ σ2 ∧ RS σ σ2 n (rwS (σ.2.2.1 118) n 4 st))) := by
  refine Sp_of_R [(some (.ref 117)), (some (.ref 1000004))] [] rfl (by simp) rfl (Nat.le_of_ble_eq_true rfl) ?_
  have hn160 : n ≤ 160 := hR.2.2.2.1
  have hsn : st.1 ≤ n := hR.2.2.2.2.1
  have hte := te_p (f := (σ.2.2.1 118)) hsn
  refine R_aload_n (pc := 0) dX6_readWord_0 rfl rfl ?_
  refine g_X6_24 (pc := 1) (v := .int st.2) rfl dX6_readWord_1 (c_117 _) (by show some (Value.int (σ.1 11704)) = _; rw [hR.2.2.2.2.2.2.2]) ?_
  refine R_iconst (pc := 4) (v := (-1)) dX6_readWord_4 (by decide) ?_
  refine R_icne (pc := 5) 23 dX6_readWord_5 (by decide) (fun b5_1 => ?_) (fun b5_1 => ?_)
  · skip
    refine R_aload_n (pc := 23) dX6_readWord_23 rfl rfl ?_
    refine k_X6_44 (pc := 24) (ge_X6_findWrong _ n st hI (rs_re hR)) rfl (c_117 _) (by decide) (Nat.le_refl _) (Nat.le_refl _) (Nat.le_of_ble_eq_true rfl) dX6_readWord_24 (fun w2 h => ?_)
    obtain ⟨σx3, rfl, hV2, hW4, hR5⟩ := h
    have hW8 := Cor.trans (show Cor σ σ from Cor.rfl' σ) hW4
    have hR9 : RS σ σx3 n (fwS st) := rs_tr hR hR5
    have ha10 : (fwS st).1 ≤ n := hR9.2.2.2.2.1
    have hte11 := te_p2 (f := (σ.2.2.1 118)) ha10
    exact R_vret (pc := 27) dX6_readWord_27 rfl (Nat.zero_le _) (Nat.zero_le _) ⟨rfl, _, rfl, hV2, hW8, (by rw [show rwS (σ.2.2.1 118) n 4 st = _ from rw_f1 b5_1]; exact hR9)⟩
  · skip
    refine R_aload_n (pc := 8) dX6_readWord_8 rfl rfl ?_
    refine R_aload_n (pc := 9) dX6_readWord_9 rfl rfl ?_
    refine k_X6_36 (pc := 10) (ge_X6_isAt_4 _ n st hI (rs_re hR)) rfl (c_117 _) (by decide) (Nat.le_refl _) (Nat.le_refl _) (Nat.le_of_ble_eq_true rfl) dX6_readWord_10 (fun x w2 h => ?_)
    rcases h with ⟨rfl, ⟨h12, rfl⟩ | ⟨h12, rfl⟩⟩
    · skip
      have hB13 := h12
      refine R_ifeq (pc := 13) 23 dX6_readWord_13 (by decide) (fun h => absurd h (by decide)) (fun _ => ?_)
      refine R_aload_n (pc := 16) dX6_readWord_16 rfl rfl ?_
      refine k_X6_27 (pc := 17) (ge_X6_goOn _ n (tkE (σ.2.2.1 118) n st.1) st.2 hI (rs_z hR) hn160 hR.2.2.2.2.2.2.1 (te_p hR.2.2.2.2.1).2.1 hR.2.2.2.2.2.2.2) rfl (c_117 _) (by decide) (Nat.le_refl _) (Nat.le_refl _) (Nat.le_of_ble_eq_true rfl) dX6_readWord_17 (fun w2 h => ?_)
      obtain ⟨σx16, rfl, hV15, hW17, hR18⟩ := h
      have hW20 := Cor.trans (show Cor σ σ from Cor.rfl' σ) hW17
      have hR19 : RS σ σx16 n (sk (σ.2.2.1 118) n (tkE (σ.2.2.1 118) n st.1), st.2) := rs_tr hR hR18
      have ha21 : (sk (σ.2.2.1 118) n (tkE (σ.2.2.1 118) n st.1), st.2).1 ≤ n := hR19.2.2.2.2.1
      have hte22 := te_p2 (f := (σ.2.2.1 118)) ha21
      refine R_goto (pc := 20) 27 dX6_readWord_20 (by decide) ?_
      exact R_vret (pc := 27) dX6_readWord_27 rfl (Nat.zero_le _) (Nat.zero_le _) ⟨rfl, _, rfl, hV15, hW20, (by rw [show rwS (σ.2.2.1 118) n 4 st = _ from rw_t b5_1 hB13]; exact hR19)⟩
    · skip
      have hB23 := h12
      refine R_ifeq (pc := 13) 23 dX6_readWord_13 (by decide) (fun _ => ?_) (fun h => absurd (by decide) h)
      refine R_aload_n (pc := 23) dX6_readWord_23 rfl rfl ?_
      refine k_X6_44 (pc := 24) (ge_X6_findWrong _ n st hI (rs_re hR)) rfl (c_117 _) (by decide) (Nat.le_refl _) (Nat.le_refl _) (Nat.le_of_ble_eq_true rfl) dX6_readWord_24 (fun w2 h => ?_)
      obtain ⟨σx26, rfl, hV25, hW27, hR28⟩ := h
      have hW31 := Cor.trans (show Cor σ σ from Cor.rfl' σ) hW27
      have hR32 : RS σ σx26 n (fwS st) := rs_tr hR hR28
      have ha33 : (fwS st).1 ≤ n := hR32.2.2.2.2.1
      have hte34 := te_p2 (f := (σ.2.2.1 118)) ha33
      exact R_vret (pc := 27) dX6_readWord_27 rfl (Nat.zero_le _) (Nat.zero_le _) ⟨rfl, _, rfl, hV25, hW31, (by rw [show rwS (σ.2.2.1 118) n 4 st = _ from rw_f2 hB23]; exact hR32)⟩
set_option maxRecDepth 100000 in
set_option maxHeartbeats 40000000 in
theorem ge_X6_readNumber {G : vG} {l : Launch} (σ : Sg) (n : Nat) (st : St) (a b : Int32)  (hI : Inv σ) (hR : RS σ σ n st) : Sp G l yX6_readNumber cX6_readNumber 4 (some .int) 3 0 0 [.ref 117, .int a, .int b] (WW σ) (QI (fun x w2 => ∃ σ2, w2 = WW σ2 ∧ Inv σ2 ∧ Cor σ σ2 ∧ RS σ σ2 n (rnS (σ.2.2.1 118) n a b st) ∧ x = rnV (σ.2.2.1 118) n a b st)) := by
  refine Sp_of_R [(some (.ref 117)), (some (.int a)), (some (.int b)), none] [none] rfl (by simp) rfl (Nat.le_of_ble_eq_true rfl) ?_
  have hn160 : n ≤ 160 := hR.2.2.2.1
  have hsn : st.1 ≤ n := hR.2.2.2.2.1
  have hte := te_p (f := (σ.2.2.1 118)) hsn
  refine R_aload_n (pc := 0) dX6_readNumber_0 rfl rfl ?_
  refine k_X6_84 (pc := 1) (ge_X6_numberAt _ n st hI (rs_re hR)) rfl (c_117 _) (by decide) (Nat.le_refl _) (Nat.le_refl _) (Nat.le_of_ble_eq_true rfl) dX6_readNumber_1 (fun x w2 h => ?_)
  obtain ⟨rfl, rfl⟩ := h
  refine R_cv (nu (σ.2.2.1 118) n st.1) rfl ?_
  refine st_4_3_i_i (pc := 4) dX6_readNumber_4 ?_
  refine R_aload_n (pc := 5) dX6_readNumber_5 rfl rfl ?_
  refine g_X6_24 (pc := 6) (v := .int st.2) rfl dX6_readNumber_6 (c_117 _) (by show some (Value.int (σ.1 11704)) = _; rw [hR.2.2.2.2.2.2.2]) ?_
  refine R_iconst (pc := 9) (v := (-1)) dX6_readNumber_9 (by decide) ?_
  refine R_icne (pc := 10) 22 dX6_readNumber_10 (by decide) (fun b10_1 => ?_) (fun b10_1 => ?_)
  · skip
    refine R_aload_n (pc := 22) dX6_readNumber_22 rfl rfl ?_
    refine k_X6_44 (pc := 23) (ge_X6_findWrong _ n st hI (rs_re hR)) rfl (c_117 _) (by decide) (Nat.le_refl _) (Nat.le_refl _) (Nat.le_of_ble_eq_true rfl) dX6_readNumber_23 (fun w2 h => ?_)
    obtain ⟨σx3, rfl, hV2, hW4, hR5⟩ := h
    have hW8 := Cor.trans (show Cor σ σ from Cor.rfl' σ) hW4
    have hR9 : RS σ σx3 n (fwS st) := rs_tr hR hR5
    have ha10 : (fwS st).1 ≤ n := hR9.2.2.2.2.1
    have hte11 := te_p2 (f := (σ.2.2.1 118)) ha10
    refine R_iload_n (pc := 26) dX6_readNumber_26 rfl rfl ?_
    exact R_iret (pc := 27) dX6_readNumber_27 rfl rfl (Nat.zero_le _) (Nat.zero_le _) ⟨_, rfl, _, rfl, hV2, hW8, (by rw [(rn_f1 b10_1).1]; exact hR9), (rn_f1 b10_1).2.symm⟩
  · skip
    refine R_iload_n (pc := 13) dX6_readNumber_13 rfl rfl ?_
    refine R_iload_n (pc := 14) dX6_readNumber_14 rfl rfl ?_
    refine R_iload_n (pc := 15) dX6_readNumber_15 rfl rfl ?_
    refine k_X6_88 (pc := 16) (sp_X8_isWithin _ _ _ _) rfl (by decide) (Nat.le_refl _) (Nat.le_refl _) (Nat.le_of_ble_eq_true rfl) dX6_readNumber_16 (fun x w2 h => ?_)
    rcases h with ⟨rfl, ⟨h12, rfl⟩ | ⟨h12, rfl⟩⟩
    · skip
      refine R_ifne (pc := 19) 28 dX6_readNumber_19 (by decide) (fun _ => ?_) (fun h => absurd h (by decide))
      refine R_aload_n (pc := 28) dX6_readNumber_28 rfl rfl ?_
      refine k_X6_27 (pc := 29) (ge_X6_goOn _ n (tkE (σ.2.2.1 118) n st.1) st.2 hI (rs_z hR) hn160 hR.2.2.2.2.2.2.1 (te_p hR.2.2.2.2.1).2.1 hR.2.2.2.2.2.2.2) rfl (c_117 _) (by decide) (Nat.le_refl _) (Nat.le_refl _) (Nat.le_of_ble_eq_true rfl) dX6_readNumber_29 (fun w2 h => ?_)
      obtain ⟨σx15, rfl, hV14, hW16, hR17⟩ := h
      have hW19 := Cor.trans (show Cor σ σ from Cor.rfl' σ) hW16
      have hR18 : RS σ σx15 n (sk (σ.2.2.1 118) n (tkE (σ.2.2.1 118) n st.1), st.2) := rs_tr hR hR17
      have ha20 : (sk (σ.2.2.1 118) n (tkE (σ.2.2.1 118) n st.1), st.2).1 ≤ n := hR18.2.2.2.2.1
      have hte21 := te_p2 (f := (σ.2.2.1 118)) ha20
      refine R_iload_n (pc := 32) dX6_readNumber_32 rfl rfl ?_
      exact R_iret (pc := 33) dX6_readNumber_33 rfl rfl (Nat.zero_le _) (Nat.zero_le _) ⟨_, rfl, _, rfl, hV14, hW19, (by rw [(rn_t b10_1 (inB_t h12)).1]; exact hR18), (rn_t b10_1 (inB_t h12)).2.symm⟩
    · skip
      refine R_ifne (pc := 19) 28 dX6_readNumber_19 (by decide) (fun h => absurd (by decide) h) (fun _ => ?_)
      refine R_aload_n (pc := 22) dX6_readNumber_22 rfl rfl ?_
      refine k_X6_44 (pc := 23) (ge_X6_findWrong _ n st hI (rs_re hR)) rfl (c_117 _) (by decide) (Nat.le_refl _) (Nat.le_refl _) (Nat.le_of_ble_eq_true rfl) dX6_readNumber_23 (fun w2 h => ?_)
      obtain ⟨σx24, rfl, hV23, hW25, hR26⟩ := h
      have hW29 := Cor.trans (show Cor σ σ from Cor.rfl' σ) hW25
      have hR30 : RS σ σx24 n (fwS st) := rs_tr hR hR26
      have ha31 : (fwS st).1 ≤ n := hR30.2.2.2.2.1
      have hte32 := te_p2 (f := (σ.2.2.1 118)) ha31
      refine R_iload_n (pc := 26) dX6_readNumber_26 rfl rfl ?_
      exact R_iret (pc := 27) dX6_readNumber_27 rfl rfl (Nat.zero_le _) (Nat.zero_le _) ⟨_, rfl, _, rfl, hV23, hW29, (by rw [(rn_f2 (inB_f h12)).1]; exact hR30), (rn_f2 (inB_f h12)).2.symm⟩
