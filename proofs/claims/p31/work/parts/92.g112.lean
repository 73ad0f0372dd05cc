/-! methods on any state that keeps the invariant -/
/-! a line, and THE TEXT -/
def ln1 (f : Nat → Int32) (n : Nat) (st : St) : St := rwS f n 0 st
def ln2 (f : Nat → Int32) (n : Nat) (st : St) : St := rnS f n 0 4 (ln1 f n st)
def ln3 (f : Nat → Int32) (n : Nat) (st : St) : St := rwS f n 1 (ln2 f n st)
def ln4 (f : Nat → Int32) (n : Nat) (st : St) : St := rnS f n 1 99 (ln3 f n st)
def lnF (f : Nat → Int32) (n : Nat) (st : St) : Int32 := rnV f n 1 99 (ln3 f n st)
def ln5 (f : Nat → Int32) (n : Nat) (st : St) : St := rwS f n 2 (ln4 f n st)
def ln6 (f : Nat → Int32) (n : Nat) (st : St) : St := rnS f n (lnF f n st) 99 (ln5 f n st)
def lnD7 (f : Nat → Int32) (n : Nat) (st : St) : St := rwS f n 3 (ln6 f n st)
def lnD8 (f : Nat → Int32) (n : Nat) (st : St) : St := rnS f n 0 20000 (lnD7 f n st)
def lnL (f : Nat → Int32) (n : Nat) (st : St) : Int32 := rnV f n 0 20000 (lnD7 f n st)
def lnD9 (f : Nat → Int32) (n : Nat) (st : St) : St := rwS f n 2 (lnD8 f n st)
def lnD10 (f : Nat → Int32) (n : Nat) (st : St) : St := rnS f n (lnL f n st) 20000 (lnD9 f n st)
def lnB7 (f : Nat → Int32) (n : Nat) (st : St) : St := rwS f n 4 (ln6 f n st)
def lnB8 (f : Nat → Int32) (n : Nat) (st : St) : St := rnS f n 0 4 (lnB7 f n st)
def lnS (f : Nat → Int32) (n : Nat) (st : St) : St := bif rdB f n (ln6 f n st).1 3 then lnD10 f n st else lnB8 f n st
theorem lnS_t {f : Nat → Int32} {n : Nat} {st : St} (h : rdB f n (ln6 f n st).1 3 = true) : lnS f n st = lnD10 f n st := by unfold lnS; rw [h, cond_true]
theorem lnS_f {f : Nat → Int32} {n : Nat} {st : St} (h : rdB f n (ln6 f n st).1 3 = false) : lnS f n st = lnB8 f n st := by unfold lnS; rw [h, cond_false]
/-- where the reader stands; what else is changed is not said -/
def RT (σ0 σ : Sg) (n : Nat) (st : St) : Prop := σ.2.2.1 118 = σ0.2.2.1 118 ∧ σ.1 11701 = nI n ∧ n ≤ 160 ∧ st.1 ≤ n ∧ σ.1 11702 = nI st.1 ∧ σ.1 11703 = nI (tkE (σ0.2.2.1 118) n st.1) ∧ σ.1 11704 = st.2
theorem rt_rs {σ0 σ : Sg} {n : Nat} {st : St} (h : RT σ0 σ n st) : RS σ σ n st := ⟨rfl, fun _ _ _ _ => rfl, h.2.1, h.2.2.1, h.2.2.2.1, h.2.2.2.2.1, by rw [h.1]; exact h.2.2.2.2.2.1, h.2.2.2.2.2.2⟩
theorem rs_rt {σ0 σ : Sg} {n : Nat} {st : St} (h : RS σ0 σ n st) : RT σ0 σ n st := ⟨by rw [h.1], rs_z h, h.2.2.2.1, h.2.2.2.2.1, h.2.2.2.2.2.1, h.2.2.2.2.2.2.1, h.2.2.2.2.2.2.2⟩
theorem rt_tr {σ0 σ τ : Sg} {n : Nat} {st st2 : St} (h : RT σ0 σ n st) (k : RT σ τ n st2) : RT σ0 τ n st2 := ⟨k.1.trans h.1, k.2.1, k.2.2.1, k.2.2.2.1, k.2.2.2.2.1, by rw [k.2.2.2.2.2.1, h.1], k.2.2.2.2.2.2⟩
theorem rt_of {σ σx σ2 : Sg} {n : Nat} {st : St} (h : RS σ σx n st) (e0 : σ2.2.2.1 118 = σx.2.2.1 118) (e1 : σ2.1 11701 = σx.1 11701) (e2 : σ2.1 11702 = σx.1 11702) (e3 : σ2.1 11703 = σx.1 11703) (e4 : σ2.1 11704 = σx.1 11704) : RT σ σ2 n st := rt_tr (rs_rt h) ⟨e0, e1.trans (rs_z h), h.2.2.2.1, h.2.2.2.2.1, e2.trans h.2.2.2.2.2.1, by rw [e3, h.2.2.2.2.2.2.1, h.1], e4.trans h.2.2.2.2.2.2.2⟩
def szS (w a : Int32) : Int32 := bif decide (w = -1) && decide (a < 8) then a + 1 else a
theorem rsz_t {w a : Int32} (h : w = -1) (h2 : a < 8) : szS w a = a + 1 := by unfold szS; rw [decide_eq_true h, decide_eq_true h2]; rfl
theorem rsz_f1 {w a : Int32} (h : ¬ w = -1) : szS w a = a := by unfold szS; rw [decide_eq_false h]; rfl
theorem rsz_f2 {w a : Int32} (h : ¬ a < 8) : szS w a = a := by unfold szS; rw [decide_eq_false h, Bool.and_false]; rfl
/-- line by line; how many there are -/
def rdL (f : Nat → Int32) (n : Nat) : Nat → St → St
  | 0, st => st
  | q + 1, st => bif decide (st.2 = -1) && rdB f n st.1 5 then rdL f n q (lnS f n (sk f n (tkE f n st.1), st.2)) else st
def rdC (f : Nat → Int32) (n : Nat) : Nat → St → Int32 → Int32
  | 0, _, a => a
  | q + 1, st, a => bif decide (st.2 = -1) && rdB f n st.1 5 then rdC f n q (lnS f n (sk f n (tkE f n st.1), st.2)) (szS (lnS f n (sk f n (tkE f n st.1), st.2)).2 a) else a
def rd1 (f : Nat → Int32) (n : Nat) : St := lnS f n (sk f n 0, -1)
def rdE (f : Nat → Int32) (n : Nat) : St := rdL f n 7 (rd1 f n)
def rdR (f : Nat → Int32) (n : Nat) : Int32 := bif decide ((rdE f n).1 < n) then (fwS (rdE f n)).2 else (rdE f n).2
def rdZ (f : Nat → Int32) (n : Nat) : Int32 := rdC f n 7 (rd1 f n) (szS (rd1 f n).2 0)
theorem rdL_s {f : Nat → Int32} {n q : Nat} {st T : St} {a b : Int32} (h : rdL f n (q + 1) st = T ∧ rdC f n (q + 1) st a = b) (h1 : st.2 = -1) (h2 : rdB f n st.1 5 = true) : rdL f n q (lnS f n (sk f n (tkE f n st.1), st.2)) = T ∧ rdC f n q (lnS f n (sk f n (tkE f n st.1), st.2)) (szS (lnS f n (sk f n (tkE f n st.1), st.2)).2 a) = b := by
  obtain ⟨e1, e2⟩ := h
  constructor
  · rw [← e1]
    show _ = (bif decide (st.2 = -1) && rdB f n st.1 5 then rdL f n q (lnS f n (sk f n (tkE f n st.1), st.2)) else st)
    rw [decide_eq_true h1, h2, Bool.and_self, cond_true]
  · rw [← e2]
    show _ = (bif decide (st.2 = -1) && rdB f n st.1 5 then rdC f n q (lnS f n (sk f n (tkE f n st.1), st.2)) (szS (lnS f n (sk f n (tkE f n st.1), st.2)).2 a) else a)
    rw [decide_eq_true h1, h2, Bool.and_self, cond_true]
theorem rdL_e {f : Nat → Int32} {n q : Nat} {st T : St} {a b : Int32} (h : rdL f n q st = T ∧ rdC f n q st a = b) (h1 : q = 0 ∨ ¬ st.2 = -1 ∨ rdB f n st.1 5 = false) : st = T ∧ a = b := by
  cases q with
  | zero => exact h
  | succ q =>
    have e : (decide (st.2 = -1) && rdB f n st.1 5) = false := by
      rcases h1 with h1 | h1 | h1
      · omega
      · rw [decide_eq_false h1]; rfl
      · rw [h1, Bool.and_false]
    obtain ⟨e1, e2⟩ := h
    rw [← e1, ← e2]
    constructor
    · show st = (bif decide (st.2 = -1) && rdB f n st.1 5 then rdL f n q (lnS f n (sk f n (tkE f n st.1), st.2)) else st)
      rw [e, cond_false]
    · show a = (bif decide (st.2 = -1) && rdB f n st.1 5 then rdC f n q (lnS f n (sk f n (tkE f n st.1), st.2)) (szS (lnS f n (sk f n (tkE f n st.1), st.2)).2 a) else a)
      rw [e, cond_false]
theorem rdR_t {f : Nat → Int32} {n : Nat} {st : St} (h : st = rdE f n) (h1 : st.1 < n) : rdR f n = (fwS st).2 := by unfold rdR; rw [← h, decide_eq_true h1]; rfl
theorem rdR_f {f : Nat → Int32} {n : Nat} {st : St} (h : st = rdE f n) (h1 : ¬ st.1 < n) : rdR f n = st.2 := by unfold rdR; rw [← h, decide_eq_false h1]; rfl
set_option maxRecDepth 100000 in
set_option maxHeartbeats 40000000 in
theorem ge_X6_readLine_126 {G : vG} {l : Launch} (σ : Sg) (n : Nat) (st : St)  (hI : Inv σ) (hR : RS σ σ n st) : Sp G l yX6_readLine cX6_readLine 8 none 7 0 0 [.ref 117, .ref 126] (WW σ) (QV (fun w2 => ∃ σ2, w2 = WW σ2 ∧ Inv σ2 ∧ CoL σ σ2 ∧ RT σ σ2 n (lnS (σ.2.2.1 118) n st) ∧ σ2.1 12606 = szS (lnS (σ.2.2.1 118) n st).2 (σ.1 12606))) := by
  refine Sp_of_R [(some (.ref 117)), (some (.ref 126)), none, none, none, none, none, none] [none, none, none, none, none, none] rfl (by simp) rfl (Nat.le_of_ble_eq_true rfl) ?_
  have hn160 : n ≤ 160 := hR.2.2.2.1
  have hsn : st.1 ≤ n := hR.2.2.2.2.1
  have hte := te_p (f := (σ.2.2.1 118)) hsn
  refine R_aload_n (pc := 0) dX6_readLine_0 rfl rfl ?_
  refine R_ldcS (pc := 1) (i := 0) rfl rfl dX6_readLine_1 (adS _ (by decide)) ?_
  refine k_X6_49 (pc := 3) (ge_X6_readWord_0 _ n st hI (rs_re hR)) rfl (c_117 _) (by decide) (Nat.le_refl _) (Nat.le_refl _) (Nat.le_of_ble_eq_true rfl) dX6_readLine_3 (fun w2 h => ?_)
  obtain ⟨σx2, rfl, hV1, hW3, hR4⟩ := h
  have hW7 := Cor.trans (show CoL σ σ from Cor.rfl' σ) (cor_l hW3)
  have hR8 : RS σ σx2 n (rwS (σ.2.2.1 118) n 0 st) := rs_tr hR hR4
  obtain ⟨t9, ht9⟩ : ∃ t : St, (rwS (σ.2.2.1 118) n 0 st) = t := ⟨_, rfl⟩
  rw [ht9] at hR8
  have ha10 : t9.1 ≤ n := hR8.2.2.2.2.1
  have hte11 := te_p2 (f := (σ.2.2.1 118)) ha10
  refine R_aload_n (pc := 6) dX6_readLine_6 rfl rfl ?_
  refine R_iconst (pc := 7) (v := 0) dX6_readLine_7 (by decide) ?_
  refine R_iconst (pc := 8) (v := 4) dX6_readLine_8 (by decide) ?_
  refine k_X6_53 (pc := 9) (ge_X6_readNumber _ n t9 0 4 hV1 (rs_re hR8)) rfl (c_117 _) (by decide) (Nat.le_refl _) (Nat.le_refl _) (Nat.le_of_ble_eq_true rfl) dX6_readLine_9 (fun y16 w2 h => ?_)
  obtain ⟨σx13, rfl, hV12, hW14, hR15⟩ := h
  have hW18 := Cor.trans hW7 (cor_l hW14)
  obtain ⟨hR15, rfl⟩ := hR15
  have hR19 : RS σ σx13 n (rnS (σ.2.2.1 118) n 0 4 t9) := rs_tr hR8 (by have q := hR15; rw [hR8.1] at q; exact q)
  obtain ⟨t20, ht20⟩ : ∃ t : St, (rnS (σ.2.2.1 118) n 0 4 t9) = t := ⟨_, rfl⟩
  rw [ht20] at hR19
  refine R_cv (rnV (σ.2.2.1 118) n 0 4 t9) (by rw [hR8.1]) ?_
  obtain ⟨v21, hv21⟩ : ∃ t : Int32, (rnV (σ.2.2.1 118) n 0 4 t9) = t := ⟨_, rfl⟩
  rw [hv21]
  have ha22 : t20.1 ≤ n := hR19.2.2.2.2.1
  have hte23 := te_p2 (f := (σ.2.2.1 118)) ha22
  refine st_8_2_i_a (pc := 12) dX6_readLine_12 ?_
  refine R_aload_n (pc := 13) dX6_readLine_13 rfl rfl ?_
  refine R_ldcS (pc := 14) (i := 1) rfl rfl dX6_readLine_14 (adS _ (by decide)) ?_
  refine k_X6_49 (pc := 16) (ge_X6_readWord_1 _ n t20 hV12 (rs_re hR19)) rfl (c_117 _) (by decide) (Nat.le_refl _) (Nat.le_refl _) (Nat.le_of_ble_eq_true rfl) dX6_readLine_16 (fun w2 h => ?_)
  obtain ⟨σx25, rfl, hV24, hW26, hR27⟩ := h
  have hW30 := Cor.trans hW18 (cor_l hW26)
  have hR31 : RS σ σx25 n (rwS (σ.2.2.1 118) n 1 t20) := rs_tr hR19 (by have q := hR27; rw [hR19.1] at q; exact q)
  obtain ⟨t32, ht32⟩ : ∃ t : St, (rwS (σ.2.2.1 118) n 1 t20) = t := ⟨_, rfl⟩
  rw [ht32] at hR31
  have ha33 : t32.1 ≤ n := hR31.2.2.2.2.1
  have hte34 := te_p2 (f := (σ.2.2.1 118)) ha33
  refine R_aload_n (pc := 19) dX6_readLine_19 rfl rfl ?_
  refine R_iconst (pc := 20) (v := 1) dX6_readLine_20 (by decide) ?_
  refine R_bipush (pc := 21) (v := 99) dX6_readLine_21 (by decide) ?_
  refine k_X6_53 (pc := 23) (ge_X6_readNumber _ n t32 1 99 hV24 (rs_re hR31)) rfl (c_117 _) (by decide) (Nat.le_refl _) (Nat.le_refl _) (Nat.le_of_ble_eq_true rfl) dX6_readLine_23 (fun y39 w2 h => ?_)
  obtain ⟨σx36, rfl, hV35, hW37, hR38⟩ := h
  have hW41 := Cor.trans hW30 (cor_l hW37)
  obtain ⟨hR38, rfl⟩ := hR38
  have hR42 : RS σ σx36 n (rnS (σ.2.2.1 118) n 1 99 t32) := rs_tr hR31 (by have q := hR38; rw [hR31.1] at q; exact q)
  obtain ⟨t43, ht43⟩ : ∃ t : St, (rnS (σ.2.2.1 118) n 1 99 t32) = t := ⟨_, rfl⟩
  rw [ht43] at hR42
  refine R_cv (rnV (σ.2.2.1 118) n 1 99 t32) (by rw [hR31.1]) ?_
  obtain ⟨v44, hv44⟩ : ∃ t : Int32, (rnV (σ.2.2.1 118) n 1 99 t32) = t := ⟨_, rfl⟩
  rw [hv44]
  have ha45 : t43.1 ≤ n := hR42.2.2.2.2.1
  have hte46 := te_p2 (f := (σ.2.2.1 118)) ha45
  refine st_8_3_i_i (pc := 26) dX6_readLine_26 ?_
  refine R_aload_n (pc := 27) dX6_readLine_27 rfl rfl ?_
  refine R_ldcS (pc := 28) (i := 2) rfl rfl dX6_readLine_28 (adS _ (by decide)) ?_
  refine k_X6_49 (pc := 30) (ge_X6_readWord_2 _ n t43 hV35 (rs_re hR42)) rfl (c_117 _) (by decide) (Nat.le_refl _) (Nat.le_refl _) (Nat.le_of_ble_eq_true rfl) dX6_readLine_30 (fun w2 h => ?_)
  obtain ⟨σx48, rfl, hV47, hW49, hR50⟩ := h
  have hW53 := Cor.trans hW41 (cor_l hW49)
  have hR54 : RS σ σx48 n (rwS (σ.2.2.1 118) n 2 t43) := rs_tr hR42 (by have q := hR50; rw [hR42.1] at q; exact q)
  obtain ⟨t55, ht55⟩ : ∃ t : St, (rwS (σ.2.2.1 118) n 2 t43) = t := ⟨_, rfl⟩
  rw [ht55] at hR54
  have ha56 : t55.1 ≤ n := hR54.2.2.2.2.1
  have hte57 := te_p2 (f := (σ.2.2.1 118)) ha56
  refine R_aload_n (pc := 33) dX6_readLine_33 rfl rfl ?_
  refine R_iload_n (pc := 34) dX6_readLine_34 rfl rfl ?_
  refine R_bipush (pc := 35) (v := 99) dX6_readLine_35 (by decide) ?_
  refine k_X6_53 (pc := 37) (ge_X6_readNumber _ n t55 v44 99 hV47 (rs_re hR54)) rfl (c_117 _) (by decide) (Nat.le_refl _) (Nat.le_refl _) (Nat.le_of_ble_eq_true rfl) dX6_readLine_37 (fun y62 w2 h => ?_)
  obtain ⟨σx59, rfl, hV58, hW60, hR61⟩ := h
  have hW64 := Cor.trans hW53 (cor_l hW60)
  obtain ⟨hR61, rfl⟩ := hR61
  have hR65 : RS σ σx59 n (rnS (σ.2.2.1 118) n v44 99 t55) := rs_tr hR54 (by have q := hR61; rw [hR54.1] at q; exact q)
  obtain ⟨t66, ht66⟩ : ∃ t : St, (rnS (σ.2.2.1 118) n v44 99 t55) = t := ⟨_, rfl⟩
  rw [ht66] at hR65
  refine R_cv (rnV (σ.2.2.1 118) n v44 99 t55) (by rw [hR54.1]) ?_
  obtain ⟨v67, hv67⟩ : ∃ t : Int32, (rnV (σ.2.2.1 118) n v44 99 t55) = t := ⟨_, rfl⟩
  rw [hv67]
  have ha68 : t66.1 ≤ n := hR65.2.2.2.2.1
  have hte69 := te_p2 (f := (σ.2.2.1 118)) ha68
  refine st_8_4_i_i (pc := 40) dX6_readLine_40 ?_
  refine R_aload_n (pc := 42) dX6_readLine_42 rfl rfl ?_
  refine R_ldcS (pc := 43) (i := 3) rfl rfl dX6_readLine_43 (adS _ (by decide)) ?_
  refine k_X6_36 (pc := 45) (ge_X6_isAt_3 _ n t66 hV58 (rs_re hR65)) rfl (c_117 _) (by decide) (Nat.le_refl _) (Nat.le_refl _) (Nat.le_of_ble_eq_true rfl) dX6_readLine_45 (fun x w2 h => ?_)
  rcases h with ⟨rfl, ⟨h70, rfl⟩ | ⟨h70, rfl⟩⟩
  · skip
    have hB71 : rdB (σ.2.2.1 118) n t66.1 3 = true := (by have q := h70; rw [hR65.1] at q; exact q)
    refine st_8_5_i_i (pc := 48) dX6_readLine_48 ?_
    refine R_iload (pc := 50) dX6_readLine_50 rfl ?_
    refine R_ifeq (pc := 52) 91 dX6_readLine_52 (by decide) (fun h => absurd h (by decide)) (fun _ => ?_)
    refine R_aload_n (pc := 55) dX6_readLine_55 rfl rfl ?_
    refine R_ldcS (pc := 56) (i := 3) rfl rfl dX6_readLine_56 (adS _ (by decide)) ?_
    refine k_X6_49 (pc := 58) (ge_X6_readWord_3 _ n t66 hV58 (rs_re hR65)) rfl (c_117 _) (by decide) (Nat.le_refl _) (Nat.le_refl _) (Nat.le_of_ble_eq_true rfl) dX6_readLine_58 (fun w2 h => ?_)
    obtain ⟨σx74, rfl, hV73, hW75, hR76⟩ := h
    have hW79 := Cor.trans hW64 (cor_l hW75)
    have hR80 : RS σ σx74 n (rwS (σ.2.2.1 118) n 3 t66) := rs_tr hR65 (by have q := hR76; rw [hR65.1] at q; exact q)
    obtain ⟨t81, ht81⟩ : ∃ t : St, (rwS (σ.2.2.1 118) n 3 t66) = t := ⟨_, rfl⟩
    rw [ht81] at hR80
    have ha82 : t81.1 ≤ n := hR80.2.2.2.2.1
    have hte83 := te_p2 (f := (σ.2.2.1 118)) ha82
    refine R_aload_n (pc := 61) dX6_readLine_61 rfl rfl ?_
    refine R_iconst (pc := 62) (v := 0) dX6_readLine_62 (by decide) ?_
    refine R_sipush (pc := 63) (v := 20000) dX6_readLine_63 (by decide) ?_
    refine k_X6_53 (pc := 66) (ge_X6_readNumber _ n t81 0 20000 hV73 (rs_re hR80)) rfl (c_117 _) (by decide) (Nat.le_refl _) (Nat.le_refl _) (Nat.le_of_ble_eq_true rfl) dX6_readLine_66 (fun y88 w2 h => ?_)
    obtain ⟨σx85, rfl, hV84, hW86, hR87⟩ := h
    have hW90 := Cor.trans hW79 (cor_l hW86)
    obtain ⟨hR87, rfl⟩ := hR87
    have hR91 : RS σ σx85 n (rnS (σ.2.2.1 118) n 0 20000 t81) := rs_tr hR80 (by have q := hR87; rw [hR80.1] at q; exact q)
    obtain ⟨t92, ht92⟩ : ∃ t : St, (rnS (σ.2.2.1 118) n 0 20000 t81) = t := ⟨_, rfl⟩
    rw [ht92] at hR91
    refine R_cv (rnV (σ.2.2.1 118) n 0 20000 t81) (by rw [hR80.1]) ?_
    obtain ⟨v93, hv93⟩ : ∃ t : Int32, (rnV (σ.2.2.1 118) n 0 20000 t81) = t := ⟨_, rfl⟩
    rw [hv93]
    have ha94 : t92.1 ≤ n := hR91.2.2.2.2.1
    have hte95 := te_p2 (f := (σ.2.2.1 118)) ha94
    refine st_8_6_i_i (pc := 69) dX6_readLine_69 ?_
    refine R_aload_n (pc := 71) dX6_readLine_71 rfl rfl ?_
    refine R_ldcS (pc := 72) (i := 2) rfl rfl dX6_readLine_72 (adS _ (by decide)) ?_
    refine k_X6_49 (pc := 74) (ge_X6_readWord_2 _ n t92 hV84 (rs_re hR91)) rfl (c_117 _) (by decide) (Nat.le_refl _) (Nat.le_refl _) (Nat.le_of_ble_eq_true rfl) dX6_readLine_74 (fun w2 h => ?_)
    obtain ⟨σx97, rfl, hV96, hW98, hR99⟩ := h
    have hW102 := Cor.trans hW90 (cor_l hW98)
    have hR103 : RS σ σx97 n (rwS (σ.2.2.1 118) n 2 t92) := rs_tr hR91 (by have q := hR99; rw [hR91.1] at q; exact q)
    obtain ⟨t104, ht104⟩ : ∃ t : St, (rwS (σ.2.2.1 118) n 2 t92) = t := ⟨_, rfl⟩
    rw [ht104] at hR103
    have ha105 : t104.1 ≤ n := hR103.2.2.2.2.1
    have hte106 := te_p2 (f := (σ.2.2.1 118)) ha105
    refine R_aload_n (pc := 77) dX6_readLine_77 rfl rfl ?_
    refine R_iload (pc := 78) dX6_readLine_78 rfl ?_
    refine R_sipush (pc := 80) (v := 20000) dX6_readLine_80 (by decide) ?_
    refine k_X6_53 (pc := 83) (ge_X6_readNumber _ n t104 v93 20000 hV96 (rs_re hR103)) rfl (c_117 _) (by decide) (Nat.le_refl _) (Nat.le_refl _) (Nat.le_of_ble_eq_true rfl) dX6_readLine_83 (fun y111 w2 h => ?_)
    obtain ⟨σx108, rfl, hV107, hW109, hR110⟩ := h
    have hW113 := Cor.trans hW102 (cor_l hW109)
    obtain ⟨hR110, rfl⟩ := hR110
    have hR114 : RS σ σx108 n (rnS (σ.2.2.1 118) n v93 20000 t104) := rs_tr hR103 (by have q := hR110; rw [hR103.1] at q; exact q)
    obtain ⟨t115, ht115⟩ : ∃ t : St, (rnS (σ.2.2.1 118) n v93 20000 t104) = t := ⟨_, rfl⟩
    rw [ht115] at hR114
    refine R_cv (rnV (σ.2.2.1 118) n v93 20000 t104) (by rw [hR103.1]) ?_
    obtain ⟨v116, hv116⟩ : ∃ t : Int32, (rnV (σ.2.2.1 118) n v93 20000 t104) = t := ⟨_, rfl⟩
    rw [hv116]
    have ha117 : t115.1 ≤ n := hR114.2.2.2.2.1
    have hte118 := te_p2 (f := (σ.2.2.1 118)) ha117
    refine st_8_7_i_i (pc := 86) dX6_readLine_86 ?_
    refine R_goto (pc := 88) 109 dX6_readLine_88 (by decide) ?_
    refine R_aload_n (pc := 109) dX6_readLine_109 rfl rfl ?_
    refine g_X6_24 (pc := 110) (v := .int t115.2) rfl dX6_readLine_110 (c_117 _) (by show some (Value.int (σx108.1 11704)) = _; rw [hR114.2.2.2.2.2.2.2]) ?_
    refine R_iconst (pc := 113) (v := (-1)) dX6_readLine_113 (by decide) ?_
    refine R_icne (pc := 114) 200 dX6_readLine_114 (by decide) (fun b114_119 => ?_) (fun b114_119 => ?_)
    · skip
      exact R_vret (pc := 200) dX6_readLine_200 rfl (Nat.zero_le _) (Nat.zero_le _) ⟨rfl, _, rfl, hV107, hW113, (by rw [(show lnS (σ.2.2.1 118) n st = t115 from by subst ht9; subst ht20; subst hv21; subst ht32; subst ht43; subst hv44; subst ht55; subst ht66; subst hv67; subst ht81; subst ht92; subst hv93; subst ht104; subst ht115; subst hv116; exact lnS_t hB71)]; exact rt_of hR114 rfl rfl rfl rfl rfl), (by rw [(show lnS (σ.2.2.1 118) n st = t115 from by subst ht9; subst ht20; subst hv21; subst ht32; subst ht43; subst hv44; subst ht55; subst ht66; subst hv67; subst ht81; subst ht92; subst hv93; subst ht104; subst ht115; subst hv116; exact lnS_t hB71)]; exact (hR114.2.1 12606 (by decide) (by decide) (by decide)).trans (rsz_f1 b114_119).symm)⟩
    · skip
      refine R_aload_n (pc := 117) dX6_readLine_117 rfl rfl ?_
      refine g_X6_15 (pc := 118) (v := .int (σx108.1 12606)) rfl dX6_readLine_118 (c_126 _) rfl ?_
      refine R_bipush (pc := 121) (v := 8) dX6_readLine_121 (by decide) ?_
      refine R_icge (pc := 123) 200 dX6_readLine_123 (by decide) (fun b123_120 => ?_) (fun b123_120 => ?_)
      · skip
        exact R_vret (pc := 200) dX6_readLine_200 rfl (Nat.zero_le _) (Nat.zero_le _) ⟨rfl, _, rfl, hV107, hW113, (by rw [(show lnS (σ.2.2.1 118) n st = t115 from by subst ht9; subst ht20; subst hv21; subst ht32; subst ht43; subst hv44; subst ht55; subst ht66; subst hv67; subst ht81; subst ht92; subst hv93; subst ht104; subst ht115; subst hv116; exact lnS_t hB71)]; exact rt_of hR114 rfl rfl rfl rfl rfl), (by rw [(show lnS (σ.2.2.1 118) n st = t115 from by subst ht9; subst ht20; subst hv21; subst ht32; subst ht43; subst hv44; subst ht55; subst ht66; subst hv67; subst ht81; subst ht92; subst hv93; subst ht104; subst ht115; subst hv116; exact lnS_t hB71)]; exact (hR114.2.1 12606 (by decide) (by decide) (by decide)).trans (rsz_f2 (Int32.not_lt.mpr (by have q := b123_120; rw [(hR114.2.1 12606 (by decide) (by decide) (by decide))] at q; exact q))).symm)⟩
      · skip
        refine R_aload_n (pc := 126) dX6_readLine_126 rfl rfl ?_
        refine g_X6_65 (pc := 127) (v := .ref 127) rfl dX6_readLine_127 (c_126 _) rfl ?_
        refine R_aload_n (pc := 130) dX6_readLine_130 rfl rfl ?_
        refine g_X6_15 (pc := 131) (v := .int (σx108.1 12606)) rfl dX6_readLine_131 (c_126 _) rfl ?_
        refine R_iload_n (pc := 134) dX6_readLine_134 rfl rfl ?_
        have hx121 : vp_in (σx108.1 12606) 8 := (vp_ti (by have q0 := (nI_toInt (n := t115.1) (by omega)); have q1 := (nI_toInt (n := (tkE (σ.2.2.1 118) n t115.1)) (by omega)); have q2 := (nI_toInt (n := n) (by omega)); have q3 := ti_eq b114_119; have q4 := ti_nle b123_120; have q5 := ti_in (show inR (nI t115.1) 0 160 from (inR_nI (M := 160) (by omega) (by decide))); have q6 := ti_in (show inR (nI (tkE (σ.2.2.1 118) n t115.1)) 0 160 from (inR_nI (M := 160) (by omega) (by decide))); have q7 := ti_in (show inR (nI n) 0 160 from (inR_nI (M := 160) (by omega) (by decide))); have q8 := ti_in (iv_12606 hV107); have z0 : (-1 : Int32).toInt = -1 := (by decide); have z1 : (0 : Int32).toInt = 0 := (by decide); have z2 : (1 : Int32).toInt = 1 := (by decide); have z3 : (12606 : Int32).toInt = 12606 := (by decide); have z4 : (160 : Int32).toInt = 160 := (by decide); have z5 : (8 : Int32).toInt = 8 := (by decide); omega) (by have q0 := (nI_toInt (n := t115.1) (by omega)); have q1 := (nI_toInt (n := (tkE (σ.2.2.1 118) n t115.1)) (by omega)); have q2 := (nI_toInt (n := n) (by omega)); have q3 := ti_eq b114_119; have q4 := ti_nle b123_120; have q5 := ti_in (show inR (nI t115.1) 0 160 from (inR_nI (M := 160) (by omega) (by decide))); have q6 := ti_in (show inR (nI (tkE (σ.2.2.1 118) n t115.1)) 0 160 from (inR_nI (M := 160) (by omega) (by decide))); have q7 := ti_in (show inR (nI n) 0 160 from (inR_nI (M := 160) (by omega) (by decide))); have q8 := ti_in (iv_12606 hV107); have z0 : (-1 : Int32).toInt = -1 := (by decide); have z1 : (0 : Int32).toInt = 0 := (by decide); have z2 : (1 : Int32).toInt = 1 := (by decide); have z3 : (12606 : Int32).toInt = 12606 := (by decide); have z4 : (160 : Int32).toInt = 160 := (by decide); have z5 : (8 : Int32).toInt = 8 := (by decide); omega))
        refine W_iastore (pc := 135) dX6_readLine_135 (c_127 _) hx121 (a_127 _ _) ?_
        have hW122 := cor_sa 127 (upd (σx108.2.2.1 127) (Int32.toNatClampNeg (σx108.1 12606)) v21) hW113 rfl
        refine R_aload_n (pc := 136) dX6_readLine_136 rfl rfl ?_
        refine g_X6_68 (pc := 137) (v := .ref 128) rfl dX6_readLine_137 (c_126 _) rfl ?_
        refine R_aload_n (pc := 140) dX6_readLine_140 rfl rfl ?_
        refine g_X6_15 (pc := 141) (v := .int (σx108.1 12606)) rfl dX6_readLine_141 (c_126 _) rfl ?_
        refine R_iload_n (pc := 144) dX6_readLine_144 rfl rfl ?_
        have hx123 : vp_in (σx108.1 12606) 8 := (vp_ti (by have q0 := (nI_toInt (n := t115.1) (by omega)); have q1 := (nI_toInt (n := (tkE (σ.2.2.1 118) n t115.1)) (by omega)); have q2 := (nI_toInt (n := n) (by omega)); have q3 := ti_eq b114_119; have q4 := ti_nle b123_120; have q5 := ti_in (show inR (nI t115.1) 0 160 from (inR_nI (M := 160) (by omega) (by decide))); have q6 := ti_in (show inR (nI (tkE (σ.2.2.1 118) n t115.1)) 0 160 from (inR_nI (M := 160) (by omega) (by decide))); have q7 := ti_in (show inR (nI n) 0 160 from (inR_nI (M := 160) (by omega) (by decide))); have q8 := ti_in (iv_12606 hV107); have z0 : (-1 : Int32).toInt = -1 := (by decide); have z1 : (0 : Int32).toInt = 0 := (by decide); have z2 : (1 : Int32).toInt = 1 := (by decide); have z3 : (12606 : Int32).toInt = 12606 := (by decide); have z4 : (160 : Int32).toInt = 160 := (by decide); have z5 : (8 : Int32).toInt = 8 := (by decide); omega) (by have q0 := (nI_toInt (n := t115.1) (by omega)); have q1 := (nI_toInt (n := (tkE (σ.2.2.1 118) n t115.1)) (by omega)); have q2 := (nI_toInt (n := n) (by omega)); have q3 := ti_eq b114_119; have q4 := ti_nle b123_120; have q5 := ti_in (show inR (nI t115.1) 0 160 from (inR_nI (M := 160) (by omega) (by decide))); have q6 := ti_in (show inR (nI (tkE (σ.2.2.1 118) n t115.1)) 0 160 from (inR_nI (M := 160) (by omega) (by decide))); have q7 := ti_in (show inR (nI n) 0 160 from (inR_nI (M := 160) (by omega) (by decide))); have q8 := ti_in (iv_12606 hV107); have z0 : (-1 : Int32).toInt = -1 := (by decide); have z1 : (0 : Int32).toInt = 0 := (by decide); have z2 : (1 : Int32).toInt = 1 := (by decide); have z3 : (12606 : Int32).toInt = 12606 := (by decide); have z4 : (160 : Int32).toInt = 160 := (by decide); have z5 : (8 : Int32).toInt = 8 := (by decide); omega))
        refine W_iastore (pc := 145) dX6_readLine_145 (c_128 _) hx123 (a_128 _ _) ?_
        have hW124 := cor_sa 128 (upd ((uA σx108 127 (upd (σx108.2.2.1 127) (Int32.toNatClampNeg (σx108.1 12606)) v21)).2.2.1 128) (Int32.toNatClampNeg (σx108.1 12606)) v44) hW122 rfl
        refine R_aload_n (pc := 146) dX6_readLine_146 rfl rfl ?_
        refine g_X6_71 (pc := 147) (v := .ref 129) rfl dX6_readLine_147 (c_126 _) rfl ?_
        refine R_aload_n (pc := 150) dX6_readLine_150 rfl rfl ?_
        refine g_X6_15 (pc := 151) (v := .int (σx108.1 12606)) rfl dX6_readLine_151 (c_126 _) rfl ?_
        refine R_iload (pc := 154) dX6_readLine_154 rfl ?_
        have hx125 : vp_in (σx108.1 12606) 8 := (vp_ti (by have q0 := (nI_toInt (n := t115.1) (by omega)); have q1 := (nI_toInt (n := (tkE (σ.2.2.1 118) n t115.1)) (by omega)); have q2 := (nI_toInt (n := n) (by omega)); have q3 := ti_eq b114_119; have q4 := ti_nle b123_120; have q5 := ti_in (show inR (nI t115.1) 0 160 from (inR_nI (M := 160) (by omega) (by decide))); have q6 := ti_in (show inR (nI (tkE (σ.2.2.1 118) n t115.1)) 0 160 from (inR_nI (M := 160) (by omega) (by decide))); have q7 := ti_in (show inR (nI n) 0 160 from (inR_nI (M := 160) (by omega) (by decide))); have q8 := ti_in (iv_12606 hV107); have z0 : (-1 : Int32).toInt = -1 := (by decide); have z1 : (0 : Int32).toInt = 0 := (by decide); have z2 : (1 : Int32).toInt = 1 := (by decide); have z3 : (12606 : Int32).toInt = 12606 := (by decide); have z4 : (160 : Int32).toInt = 160 := (by decide); have z5 : (8 : Int32).toInt = 8 := (by decide); omega) (by have q0 := (nI_toInt (n := t115.1) (by omega)); have q1 := (nI_toInt (n := (tkE (σ.2.2.1 118) n t115.1)) (by omega)); have q2 := (nI_toInt (n := n) (by omega)); have q3 := ti_eq b114_119; have q4 := ti_nle b123_120; have q5 := ti_in (show inR (nI t115.1) 0 160 from (inR_nI (M := 160) (by omega) (by decide))); have q6 := ti_in (show inR (nI (tkE (σ.2.2.1 118) n t115.1)) 0 160 from (inR_nI (M := 160) (by omega) (by decide))); have q7 := ti_in (show inR (nI n) 0 160 from (inR_nI (M := 160) (by omega) (by decide))); have q8 := ti_in (iv_12606 hV107); have z0 : (-1 : Int32).toInt = -1 := (by decide); have z1 : (0 : Int32).toInt = 0 := (by decide); have z2 : (1 : Int32).toInt = 1 := (by decide); have z3 : (12606 : Int32).toInt = 12606 := (by decide); have z4 : (160 : Int32).toInt = 160 := (by decide); have z5 : (8 : Int32).toInt = 8 := (by decide); omega))
        refine W_iastore (pc := 156) dX6_readLine_156 (c_129 _) hx125 (a_129 _ _) ?_
        have hW126 := cor_sa 129 (upd ((uA (uA σx108 127 (upd (σx108.2.2.1 127) (Int32.toNatClampNeg (σx108.1 12606)) v21)) 128 (upd ((uA σx108 127 (upd (σx108.2.2.1 127) (Int32.toNatClampNeg (σx108.1 12606)) v21)).2.2.1 128) (Int32.toNatClampNeg (σx108.1 12606)) v44)).2.2.1 129) (Int32.toNatClampNeg (σx108.1 12606)) v67) hW124 rfl
        refine R_aload_n (pc := 157) dX6_readLine_157 rfl rfl ?_
        refine g_X6_74 (pc := 158) (v := .ref 130) rfl dX6_readLine_158 (c_126 _) rfl ?_
        refine R_aload_n (pc := 161) dX6_readLine_161 rfl rfl ?_
        refine g_X6_15 (pc := 162) (v := .int (σx108.1 12606)) rfl dX6_readLine_162 (c_126 _) rfl ?_
        refine R_iload (pc := 165) dX6_readLine_165 rfl ?_
        have hx127 : vp_in (σx108.1 12606) 8 := (vp_ti (by have q0 := (nI_toInt (n := t115.1) (by omega)); have q1 := (nI_toInt (n := (tkE (σ.2.2.1 118) n t115.1)) (by omega)); have q2 := (nI_toInt (n := n) (by omega)); have q3 := ti_eq b114_119; have q4 := ti_nle b123_120; have q5 := ti_in (show inR (nI t115.1) 0 160 from (inR_nI (M := 160) (by omega) (by decide))); have q6 := ti_in (show inR (nI (tkE (σ.2.2.1 118) n t115.1)) 0 160 from (inR_nI (M := 160) (by omega) (by decide))); have q7 := ti_in (show inR (nI n) 0 160 from (inR_nI (M := 160) (by omega) (by decide))); have q8 := ti_in (iv_12606 hV107); have z0 : (-1 : Int32).toInt = -1 := (by decide); have z1 : (0 : Int32).toInt = 0 := (by decide); have z2 : (1 : Int32).toInt = 1 := (by decide); have z3 : (12606 : Int32).toInt = 12606 := (by decide); have z4 : (160 : Int32).toInt = 160 := (by decide); have z5 : (8 : Int32).toInt = 8 := (by decide); omega) (by have q0 := (nI_toInt (n := t115.1) (by omega)); have q1 := (nI_toInt (n := (tkE (σ.2.2.1 118) n t115.1)) (by omega)); have q2 := (nI_toInt (n := n) (by omega)); have q3 := ti_eq b114_119; have q4 := ti_nle b123_120; have q5 := ti_in (show inR (nI t115.1) 0 160 from (inR_nI (M := 160) (by omega) (by decide))); have q6 := ti_in (show inR (nI (tkE (σ.2.2.1 118) n t115.1)) 0 160 from (inR_nI (M := 160) (by omega) (by decide))); have q7 := ti_in (show inR (nI n) 0 160 from (inR_nI (M := 160) (by omega) (by decide))); have q8 := ti_in (iv_12606 hV107); have z0 : (-1 : Int32).toInt = -1 := (by decide); have z1 : (0 : Int32).toInt = 0 := (by decide); have z2 : (1 : Int32).toInt = 1 := (by decide); have z3 : (12606 : Int32).toInt = 12606 := (by decide); have z4 : (160 : Int32).toInt = 160 := (by decide); have z5 : (8 : Int32).toInt = 8 := (by decide); omega))
        refine W_bastore (pc := 167) dX6_readLine_167 (c_130 _) hx127 rfl (a_130 _ _) ?_
        have hW128 := cor_sa 130 (upd ((uA (uA (uA σx108 127 (upd (σx108.2.2.1 127) (Int32.toNatClampNeg (σx108.1 12606)) v21)) 128 (upd ((uA σx108 127 (upd (σx108.2.2.1 127) (Int32.toNatClampNeg (σx108.1 12606)) v21)).2.2.1 128) (Int32.toNatClampNeg (σx108.1 12606)) v44)) 129 (upd ((uA (uA σx108 127 (upd (σx108.2.2.1 127) (Int32.toNatClampNeg (σx108.1 12606)) v21)) 128 (upd ((uA σx108 127 (upd (σx108.2.2.1 127) (Int32.toNatClampNeg (σx108.1 12606)) v21)).2.2.1 128) (Int32.toNatClampNeg (σx108.1 12606)) v44)).2.2.1 129) (Int32.toNatClampNeg (σx108.1 12606)) v67)).2.2.1 130) (Int32.toNatClampNeg (σx108.1 12606)) 1) hW126 rfl
        refine R_aload_n (pc := 168) dX6_readLine_168 rfl rfl ?_
        refine g_X6_78 (pc := 169) (v := .ref 131) rfl dX6_readLine_169 (c_126 _) rfl ?_
        refine R_aload_n (pc := 172) dX6_readLine_172 rfl rfl ?_
        refine g_X6_15 (pc := 173) (v := .int (σx108.1 12606)) rfl dX6_readLine_173 (c_126 _) rfl ?_
        refine R_iload (pc := 176) dX6_readLine_176 rfl ?_
        have hx129 : vp_in (σx108.1 12606) 8 := (vp_ti (by have q0 := (nI_toInt (n := t115.1) (by omega)); have q1 := (nI_toInt (n := (tkE (σ.2.2.1 118) n t115.1)) (by omega)); have q2 := (nI_toInt (n := n) (by omega)); have q3 := ti_eq b114_119; have q4 := ti_nle b123_120; have q5 := ti_in (show inR (nI t115.1) 0 160 from (inR_nI (M := 160) (by omega) (by decide))); have q6 := ti_in (show inR (nI (tkE (σ.2.2.1 118) n t115.1)) 0 160 from (inR_nI (M := 160) (by omega) (by decide))); have q7 := ti_in (show inR (nI n) 0 160 from (inR_nI (M := 160) (by omega) (by decide))); have q8 := ti_in (iv_12606 hV107); have z0 : (-1 : Int32).toInt = -1 := (by decide); have z1 : (0 : Int32).toInt = 0 := (by decide); have z2 : (1 : Int32).toInt = 1 := (by decide); have z3 : (12606 : Int32).toInt = 12606 := (by decide); have z4 : (160 : Int32).toInt = 160 := (by decide); have z5 : (8 : Int32).toInt = 8 := (by decide); omega) (by have q0 := (nI_toInt (n := t115.1) (by omega)); have q1 := (nI_toInt (n := (tkE (σ.2.2.1 118) n t115.1)) (by omega)); have q2 := (nI_toInt (n := n) (by omega)); have q3 := ti_eq b114_119; have q4 := ti_nle b123_120; have q5 := ti_in (show inR (nI t115.1) 0 160 from (inR_nI (M := 160) (by omega) (by decide))); have q6 := ti_in (show inR (nI (tkE (σ.2.2.1 118) n t115.1)) 0 160 from (inR_nI (M := 160) (by omega) (by decide))); have q7 := ti_in (show inR (nI n) 0 160 from (inR_nI (M := 160) (by omega) (by decide))); have q8 := ti_in (iv_12606 hV107); have z0 : (-1 : Int32).toInt = -1 := (by decide); have z1 : (0 : Int32).toInt = 0 := (by decide); have z2 : (1 : Int32).toInt = 1 := (by decide); have z3 : (12606 : Int32).toInt = 12606 := (by decide); have z4 : (160 : Int32).toInt = 160 := (by decide); have z5 : (8 : Int32).toInt = 8 := (by decide); omega))
        refine W_iastore (pc := 178) dX6_readLine_178 (c_131 _) hx129 (a_131 _ _) ?_
        have hW130 := cor_sa 131 (upd ((uA (uA (uA (uA σx108 127 (upd (σx108.2.2.1 127) (Int32.toNatClampNeg (σx108.1 12606)) v21)) 128 (upd ((uA σx108 127 (upd (σx108.2.2.1 127) (Int32.toNatClampNeg (σx108.1 12606)) v21)).2.2.1 128) (Int32.toNatClampNeg (σx108.1 12606)) v44)) 129 (upd ((uA (uA σx108 127 (upd (σx108.2.2.1 127) (Int32.toNatClampNeg (σx108.1 12606)) v21)) 128 (upd ((uA σx108 127 (upd (σx108.2.2.1 127) (Int32.toNatClampNeg (σx108.1 12606)) v21)).2.2.1 128) (Int32.toNatClampNeg (σx108.1 12606)) v44)).2.2.1 129) (Int32.toNatClampNeg (σx108.1 12606)) v67)) 130 (upd ((uA (uA (uA σx108 127 (upd (σx108.2.2.1 127) (Int32.toNatClampNeg (σx108.1 12606)) v21)) 128 (upd ((uA σx108 127 (upd (σx108.2.2.1 127) (Int32.toNatClampNeg (σx108.1 12606)) v21)).2.2.1 128) (Int32.toNatClampNeg (σx108.1 12606)) v44)) 129 (upd ((uA (uA σx108 127 (upd (σx108.2.2.1 127) (Int32.toNatClampNeg (σx108.1 12606)) v21)) 128 (upd ((uA σx108 127 (upd (σx108.2.2.1 127) (Int32.toNatClampNeg (σx108.1 12606)) v21)).2.2.1 128) (Int32.toNatClampNeg (σx108.1 12606)) v44)).2.2.1 129) (Int32.toNatClampNeg (σx108.1 12606)) v67)).2.2.1 130) (Int32.toNatClampNeg (σx108.1 12606)) 1)).2.2.1 131) (Int32.toNatClampNeg (σx108.1 12606)) v93) hW128 rfl
        refine R_aload_n (pc := 179) dX6_readLine_179 rfl rfl ?_
        refine g_X6_81 (pc := 180) (v := .ref 132) rfl dX6_readLine_180 (c_126 _) rfl ?_
        refine R_aload_n (pc := 183) dX6_readLine_183 rfl rfl ?_
        refine g_X6_15 (pc := 184) (v := .int (σx108.1 12606)) rfl dX6_readLine_184 (c_126 _) rfl ?_
        refine R_iload (pc := 187) dX6_readLine_187 rfl ?_
        have hx131 : vp_in (σx108.1 12606) 8 := (vp_ti (by have q0 := (nI_toInt (n := t115.1) (by omega)); have q1 := (nI_toInt (n := (tkE (σ.2.2.1 118) n t115.1)) (by omega)); have q2 := (nI_toInt (n := n) (by omega)); have q3 := ti_eq b114_119; have q4 := ti_nle b123_120; have q5 := ti_in (show inR (nI t115.1) 0 160 from (inR_nI (M := 160) (by omega) (by decide))); have q6 := ti_in (show inR (nI (tkE (σ.2.2.1 118) n t115.1)) 0 160 from (inR_nI (M := 160) (by omega) (by decide))); have q7 := ti_in (show inR (nI n) 0 160 from (inR_nI (M := 160) (by omega) (by decide))); have q8 := ti_in (iv_12606 hV107); have z0 : (-1 : Int32).toInt = -1 := (by decide); have z1 : (0 : Int32).toInt = 0 := (by decide); have z2 : (1 : Int32).toInt = 1 := (by decide); have z3 : (12606 : Int32).toInt = 12606 := (by decide); have z4 : (160 : Int32).toInt = 160 := (by decide); have z5 : (8 : Int32).toInt = 8 := (by decide); omega) (by have q0 := (nI_toInt (n := t115.1) (by omega)); have q1 := (nI_toInt (n := (tkE (σ.2.2.1 118) n t115.1)) (by omega)); have q2 := (nI_toInt (n := n) (by omega)); have q3 := ti_eq b114_119; have q4 := ti_nle b123_120; have q5 := ti_in (show inR (nI t115.1) 0 160 from (inR_nI (M := 160) (by omega) (by decide))); have q6 := ti_in (show inR (nI (tkE (σ.2.2.1 118) n t115.1)) 0 160 from (inR_nI (M := 160) (by omega) (by decide))); have q7 := ti_in (show inR (nI n) 0 160 from (inR_nI (M := 160) (by omega) (by decide))); have q8 := ti_in (iv_12606 hV107); have z0 : (-1 : Int32).toInt = -1 := (by decide); have z1 : (0 : Int32).toInt = 0 := (by decide); have z2 : (1 : Int32).toInt = 1 := (by decide); have z3 : (12606 : Int32).toInt = 12606 := (by decide); have z4 : (160 : Int32).toInt = 160 := (by decide); have z5 : (8 : Int32).toInt = 8 := (by decide); omega))
        refine W_iastore (pc := 189) dX6_readLine_189 (c_132 _) hx131 (a_132 _ _) ?_
        have hW132 := cor_sa 132 (upd ((uA (uA (uA (uA (uA σx108 127 (upd (σx108.2.2.1 127) (Int32.toNatClampNeg (σx108.1 12606)) v21)) 128 (upd ((uA σx108 127 (upd (σx108.2.2.1 127) (Int32.toNatClampNeg (σx108.1 12606)) v21)).2.2.1 128) (Int32.toNatClampNeg (σx108.1 12606)) v44)) 129 (upd ((uA (uA σx108 127 (upd (σx108.2.2.1 127) (Int32.toNatClampNeg (σx108.1 12606)) v21)) 128 (upd ((uA σx108 127 (upd (σx108.2.2.1 127) (Int32.toNatClampNeg (σx108.1 12606)) v21)).2.2.1 128) (Int32.toNatClampNeg (σx108.1 12606)) v44)).2.2.1 129) (Int32.toNatClampNeg (σx108.1 12606)) v67)) 130 (upd ((uA (uA (uA σx108 127 (upd (σx108.2.2.1 127) (Int32.toNatClampNeg (σx108.1 12606)) v21)) 128 (upd ((uA σx108 127 (upd (σx108.2.2.1 127) (Int32.toNatClampNeg (σx108.1 12606)) v21)).2.2.1 128) (Int32.toNatClampNeg (σx108.1 12606)) v44)) 129 (upd ((uA (uA σx108 127 (upd (σx108.2.2.1 127) (Int32.toNatClampNeg (σx108.1 12606)) v21)) 128 (upd ((uA σx108 127 (upd (σx108.2.2.1 127) (Int32.toNatClampNeg (σx108.1 12606)) v21)).2.2.1 128) (Int32.toNatClampNeg (σx108.1 12606)) v44)).2.2.1 129) (Int32.toNatClampNeg (σx108.1 12606)) v67)).2.2.1 130) (Int32.toNatClampNeg (σx108.1 12606)) 1)) 131 (upd ((uA (uA (uA (uA σx108 127 (upd (σx108.2.2.1 127) (Int32.toNatClampNeg (σx108.1 12606)) v21)) 128 (upd ((uA σx108 127 (upd (σx108.2.2.1 127) (Int32.toNatClampNeg (σx108.1 12606)) v21)).2.2.1 128) (Int32.toNatClampNeg (σx108.1 12606)) v44)) 129 (upd ((uA (uA σx108 127 (upd (σx108.2.2.1 127) (Int32.toNatClampNeg (σx108.1 12606)) v21)) 128 (upd ((uA σx108 127 (upd (σx108.2.2.1 127) (Int32.toNatClampNeg (σx108.1 12606)) v21)).2.2.1 128) (Int32.toNatClampNeg (σx108.1 12606)) v44)).2.2.1 129) (Int32.toNatClampNeg (σx108.1 12606)) v67)) 130 (upd ((uA (uA (uA σx108 127 (upd (σx108.2.2.1 127) (Int32.toNatClampNeg (σx108.1 12606)) v21)) 128 (upd ((uA σx108 127 (upd (σx108.2.2.1 127) (Int32.toNatClampNeg (σx108.1 12606)) v21)).2.2.1 128) (Int32.toNatClampNeg (σx108.1 12606)) v44)) 129 (upd ((uA (uA σx108 127 (upd (σx108.2.2.1 127) (Int32.toNatClampNeg (σx108.1 12606)) v21)) 128 (upd ((uA σx108 127 (upd (σx108.2.2.1 127) (Int32.toNatClampNeg (σx108.1 12606)) v21)).2.2.1 128) (Int32.toNatClampNeg (σx108.1 12606)) v44)).2.2.1 129) (Int32.toNatClampNeg (σx108.1 12606)) v67)).2.2.1 130) (Int32.toNatClampNeg (σx108.1 12606)) 1)).2.2.1 131) (Int32.toNatClampNeg (σx108.1 12606)) v93)).2.2.1 132) (Int32.toNatClampNeg (σx108.1 12606)) v116) hW130 rfl
        refine R_aload_n (pc := 190) dX6_readLine_190 rfl rfl ?_
        refine R_dup (pc := 191) dX6_readLine_191 rfl ?_
        refine g_X6_15 (pc := 192) (v := .int (σx108.1 12606)) rfl dX6_readLine_192 (c_126 _) rfl ?_
        refine R_iconst (pc := 195) (v := 1) dX6_readLine_195 (by decide) ?_
        refine R_iadd (pc := 196) dX6_readLine_196 ?_
        have r133 : inR ((σx108.1 12606) + 1) 1 9 := inR_add (show inR (σx108.1 12606) 0 8 from (iv_12606 hV107)) (show inR 1 1 1 from (inR_self _)) (by decide) (by decide)
        have e134 := ti_add (l := 1) (h := 9) (show inR (σx108.1 12606) 0 8 from (iv_12606 hV107)) (show inR 1 1 1 from (inR_self _)) (by decide) (by decide)
        refine p_X6_15 (pc := 197) rfl dX6_readLine_197 (c_126 _) (Nat.le_of_ble_eq_true rfl) rfl rfl (s_126_6 _ _) ?_
        have hV135 := su_12606 hV107 (show inR ((σx108.1 12606) + 1) 0 8 from of_ti (by have q0 := (nI_toInt (n := t115.1) (by omega)); have q1 := (nI_toInt (n := (tkE (σ.2.2.1 118) n t115.1)) (by omega)); have q2 := (nI_toInt (n := n) (by omega)); have q3 := e134; have q4 := ti_eq b114_119; have q5 := ti_nle b123_120; have q6 := ti_in (show inR (nI t115.1) 0 160 from (inR_nI (M := 160) (by omega) (by decide))); have q7 := ti_in (show inR (nI (tkE (σ.2.2.1 118) n t115.1)) 0 160 from (inR_nI (M := 160) (by omega) (by decide))); have q8 := ti_in (show inR (nI n) 0 160 from (inR_nI (M := 160) (by omega) (by decide))); have q9 := ti_in (iv_12606 hV107); have q10 := ti_in r133; have z0 : (-1 : Int32).toInt = -1 := (by decide); have z1 : (0 : Int32).toInt = 0 := (by decide); have z2 : (1 : Int32).toInt = 1 := (by decide); have z3 : (12606 : Int32).toInt = 12606 := (by decide); have z4 : (160 : Int32).toInt = 160 := (by decide); have z5 : (8 : Int32).toInt = 8 := (by decide); have z6 : (9 : Int32).toInt = 9 := (by decide); omega) (by have q0 := (nI_toInt (n := t115.1) (by omega)); have q1 := (nI_toInt (n := (tkE (σ.2.2.1 118) n t115.1)) (by omega)); have q2 := (nI_toInt (n := n) (by omega)); have q3 := e134; have q4 := ti_eq b114_119; have q5 := ti_nle b123_120; have q6 := ti_in (show inR (nI t115.1) 0 160 from (inR_nI (M := 160) (by omega) (by decide))); have q7 := ti_in (show inR (nI (tkE (σ.2.2.1 118) n t115.1)) 0 160 from (inR_nI (M := 160) (by omega) (by decide))); have q8 := ti_in (show inR (nI n) 0 160 from (inR_nI (M := 160) (by omega) (by decide))); have q9 := ti_in (iv_12606 hV107); have q10 := ti_in r133; have z0 : (-1 : Int32).toInt = -1 := (by decide); have z1 : (0 : Int32).toInt = 0 := (by decide); have z2 : (1 : Int32).toInt = 1 := (by decide); have z3 : (12606 : Int32).toInt = 12606 := (by decide); have z4 : (160 : Int32).toInt = 160 := (by decide); have z5 : (8 : Int32).toInt = 8 := (by decide); have z6 : (9 : Int32).toInt = 9 := (by decide); omega))
        have hW136 := cor_si 12606 ((σx108.1 12606) + 1) hW132 rfl
        exact R_vret (pc := 200) dX6_readLine_200 rfl (Nat.zero_le _) (Nat.zero_le _) ⟨rfl, _, rfl, hV135, hW136, (by rw [(show lnS (σ.2.2.1 118) n st = t115 from by subst ht9; subst ht20; subst hv21; subst ht32; subst ht43; subst hv44; subst ht55; subst ht66; subst hv67; subst ht81; subst ht92; subst hv93; subst ht104; subst ht115; subst hv116; exact lnS_t hB71)]; exact rt_of hR114 rfl rfl rfl rfl rfl), (by rw [(show lnS (σ.2.2.1 118) n st = t115 from by subst ht9; subst ht20; subst hv21; subst ht32; subst ht43; subst hv44; subst ht55; subst ht66; subst hv67; subst ht81; subst ht92; subst hv93; subst ht104; subst ht115; subst hv116; exact lnS_t hB71)]; exact (show (uI (uA (uA (uA (uA (uA (uA σx108 127 (upd (σx108.2.2.1 127) (Int32.toNatClampNeg (σx108.1 12606)) v21)) 128 (upd ((uA σx108 127 (upd (σx108.2.2.1 127) (Int32.toNatClampNeg (σx108.1 12606)) v21)).2.2.1 128) (Int32.toNatClampNeg (σx108.1 12606)) v44)) 129 (upd ((uA (uA σx108 127 (upd (σx108.2.2.1 127) (Int32.toNatClampNeg (σx108.1 12606)) v21)) 128 (upd ((uA σx108 127 (upd (σx108.2.2.1 127) (Int32.toNatClampNeg (σx108.1 12606)) v21)).2.2.1 128) (Int32.toNatClampNeg (σx108.1 12606)) v44)).2.2.1 129) (Int32.toNatClampNeg (σx108.1 12606)) v67)) 130 (upd ((uA (uA (uA σx108 127 (upd (σx108.2.2.1 127) (Int32.toNatClampNeg (σx108.1 12606)) v21)) 128 (upd ((uA σx108 127 (upd (σx108.2.2.1 127) (Int32.toNatClampNeg (σx108.1 12606)) v21)).2.2.1 128) (Int32.toNatClampNeg (σx108.1 12606)) v44)) 129 (upd ((uA (uA σx108 127 (upd (σx108.2.2.1 127) (Int32.toNatClampNeg (σx108.1 12606)) v21)) 128 (upd ((uA σx108 127 (upd (σx108.2.2.1 127) (Int32.toNatClampNeg (σx108.1 12606)) v21)).2.2.1 128) (Int32.toNatClampNeg (σx108.1 12606)) v44)).2.2.1 129) (Int32.toNatClampNeg (σx108.1 12606)) v67)).2.2.1 130) (Int32.toNatClampNeg (σx108.1 12606)) 1)) 131 (upd ((uA (uA (uA (uA σx108 127 (upd (σx108.2.2.1 127) (Int32.toNatClampNeg (σx108.1 12606)) v21)) 128 (upd ((uA σx108 127 (upd (σx108.2.2.1 127) (Int32.toNatClampNeg (σx108.1 12606)) v21)).2.2.1 128) (Int32.toNatClampNeg (σx108.1 12606)) v44)) 129 (upd ((uA (uA σx108 127 (upd (σx108.2.2.1 127) (Int32.toNatClampNeg (σx108.1 12606)) v21)) 128 (upd ((uA σx108 127 (upd (σx108.2.2.1 127) (Int32.toNatClampNeg (σx108.1 12606)) v21)).2.2.1 128) (Int32.toNatClampNeg (σx108.1 12606)) v44)).2.2.1 129) (Int32.toNatClampNeg (σx108.1 12606)) v67)) 130 (upd ((uA (uA (uA σx108 127 (upd (σx108.2.2.1 127) (Int32.toNatClampNeg (σx108.1 12606)) v21)) 128 (upd ((uA σx108 127 (upd (σx108.2.2.1 127) (Int32.toNatClampNeg (σx108.1 12606)) v21)).2.2.1 128) (Int32.toNatClampNeg (σx108.1 12606)) v44)) 129 (upd ((uA (uA σx108 127 (upd (σx108.2.2.1 127) (Int32.toNatClampNeg (σx108.1 12606)) v21)) 128 (upd ((uA σx108 127 (upd (σx108.2.2.1 127) (Int32.toNatClampNeg (σx108.1 12606)) v21)).2.2.1 128) (Int32.toNatClampNeg (σx108.1 12606)) v44)).2.2.1 129) (Int32.toNatClampNeg (σx108.1 12606)) v67)).2.2.1 130) (Int32.toNatClampNeg (σx108.1 12606)) 1)).2.2.1 131) (Int32.toNatClampNeg (σx108.1 12606)) v93)) 132 (upd ((uA (uA (uA (uA (uA σx108 127 (upd (σx108.2.2.1 127) (Int32.toNatClampNeg (σx108.1 12606)) v21)) 128 (upd ((uA σx108 127 (upd (σx108.2.2.1 127) (Int32.toNatClampNeg (σx108.1 12606)) v21)).2.2.1 128) (Int32.toNatClampNeg (σx108.1 12606)) v44)) 129 (upd ((uA (uA σx108 127 (upd (σx108.2.2.1 127) (Int32.toNatClampNeg (σx108.1 12606)) v21)) 128 (upd ((uA σx108 127 (upd (σx108.2.2.1 127) (Int32.toNatClampNeg (σx108.1 12606)) v21)).2.2.1 128) (Int32.toNatClampNeg (σx108.1 12606)) v44)).2.2.1 129) (Int32.toNatClampNeg (σx108.1 12606)) v67)) 130 (upd ((uA (uA (uA σx108 127 (upd (σx108.2.2.1 127) (Int32.toNatClampNeg (σx108.1 12606)) v21)) 128 (upd ((uA σx108 127 (upd (σx108.2.2.1 127) (Int32.toNatClampNeg (σx108.1 12606)) v21)).2.2.1 128) (Int32.toNatClampNeg (σx108.1 12606)) v44)) 129 (upd ((uA (uA σx108 127 (upd (σx108.2.2.1 127) (Int32.toNatClampNeg (σx108.1 12606)) v21)) 128 (upd ((uA σx108 127 (upd (σx108.2.2.1 127) (Int32.toNatClampNeg (σx108.1 12606)) v21)).2.2.1 128) (Int32.toNatClampNeg (σx108.1 12606)) v44)).2.2.1 129) (Int32.toNatClampNeg (σx108.1 12606)) v67)).2.2.1 130) (Int32.toNatClampNeg (σx108.1 12606)) 1)) 131 (upd ((uA (uA (uA (uA σx108 127 (upd (σx108.2.2.1 127) (Int32.toNatClampNeg (σx108.1 12606)) v21)) 128 (upd ((uA σx108 127 (upd (σx108.2.2.1 127) (Int32.toNatClampNeg (σx108.1 12606)) v21)).2.2.1 128) (Int32.toNatClampNeg (σx108.1 12606)) v44)) 129 (upd ((uA (uA σx108 127 (upd (σx108.2.2.1 127) (Int32.toNatClampNeg (σx108.1 12606)) v21)) 128 (upd ((uA σx108 127 (upd (σx108.2.2.1 127) (Int32.toNatClampNeg (σx108.1 12606)) v21)).2.2.1 128) (Int32.toNatClampNeg (σx108.1 12606)) v44)).2.2.1 129) (Int32.toNatClampNeg (σx108.1 12606)) v67)) 130 (upd ((uA (uA (uA σx108 127 (upd (σx108.2.2.1 127) (Int32.toNatClampNeg (σx108.1 12606)) v21)) 128 (upd ((uA σx108 127 (upd (σx108.2.2.1 127) (Int32.toNatClampNeg (σx108.1 12606)) v21)).2.2.1 128) (Int32.toNatClampNeg (σx108.1 12606)) v44)) 129 (upd ((uA (uA σx108 127 (upd (σx108.2.2.1 127) (Int32.toNatClampNeg (σx108.1 12606)) v21)) 128 (upd ((uA σx108 127 (upd (σx108.2.2.1 127) (Int32.toNatClampNeg (σx108.1 12606)) v21)).2.2.1 128) (Int32.toNatClampNeg (σx108.1 12606)) v44)).2.2.1 129) (Int32.toNatClampNeg (σx108.1 12606)) v67)).2.2.1 130) (Int32.toNatClampNeg (σx108.1 12606)) 1)).2.2.1 131) (Int32.toNatClampNeg (σx108.1 12606)) v93)).2.2.1 132) (Int32.toNatClampNeg (σx108.1 12606)) v116)) 12606 ((σx108.1 12606) + 1)).1 12606 = σ.1 12606 + 1 from by show σx108.1 12606 + 1 = _; rw [(hR114.2.1 12606 (by decide) (by decide) (by decide))]).trans (rsz_t b114_119 (by have q := (Int32.not_le.mp b123_120); rw [(hR114.2.1 12606 (by decide) (by decide) (by decide))] at q; exact q)).symm)⟩
  · skip
    have hB137 : rdB (σ.2.2.1 118) n t66.1 3 = false := (by have q := h70; rw [hR65.1] at q; exact q)
    refine st_8_5_i_i (pc := 48) dX6_readLine_48 ?_
    refine R_iload (pc := 50) dX6_readLine_50 rfl ?_
    refine R_ifeq (pc := 52) 91 dX6_readLine_52 (by decide) (fun _ => ?_) (fun h => absurd (by decide) h)
    refine R_aload_n (pc := 91) dX6_readLine_91 rfl rfl ?_
    refine R_ldcS (pc := 92) (i := 4) rfl rfl dX6_readLine_92 (adS _ (by decide)) ?_
    refine k_X6_49 (pc := 94) (ge_X6_readWord_4 _ n t66 hV58 (rs_re hR65)) rfl (c_117 _) (by decide) (Nat.le_refl _) (Nat.le_refl _) (Nat.le_of_ble_eq_true rfl) dX6_readLine_94 (fun w2 h => ?_)
    obtain ⟨σx140, rfl, hV139, hW141, hR142⟩ := h
    have hW145 := Cor.trans hW64 (cor_l hW141)
    have hR146 : RS σ σx140 n (rwS (σ.2.2.1 118) n 4 t66) := rs_tr hR65 (by have q := hR142; rw [hR65.1] at q; exact q)
    obtain ⟨t147, ht147⟩ : ∃ t : St, (rwS (σ.2.2.1 118) n 4 t66) = t := ⟨_, rfl⟩
    rw [ht147] at hR146
    have ha148 : t147.1 ≤ n := hR146.2.2.2.2.1
    have hte149 := te_p2 (f := (σ.2.2.1 118)) ha148
    refine R_aload_n (pc := 97) dX6_readLine_97 rfl rfl ?_
    refine R_iconst (pc := 98) (v := 0) dX6_readLine_98 (by decide) ?_
    refine R_iconst (pc := 99) (v := 4) dX6_readLine_99 (by decide) ?_
    refine k_X6_53 (pc := 100) (ge_X6_readNumber _ n t147 0 4 hV139 (rs_re hR146)) rfl (c_117 _) (by decide) (Nat.le_refl _) (Nat.le_refl _) (Nat.le_of_ble_eq_true rfl) dX6_readLine_100 (fun y154 w2 h => ?_)
    obtain ⟨σx151, rfl, hV150, hW152, hR153⟩ := h
    have hW156 := Cor.trans hW145 (cor_l hW152)
    obtain ⟨hR153, rfl⟩ := hR153
    have hR157 : RS σ σx151 n (rnS (σ.2.2.1 118) n 0 4 t147) := rs_tr hR146 (by have q := hR153; rw [hR146.1] at q; exact q)
    obtain ⟨t158, ht158⟩ : ∃ t : St, (rnS (σ.2.2.1 118) n 0 4 t147) = t := ⟨_, rfl⟩
    rw [ht158] at hR157
    refine R_cv (rnV (σ.2.2.1 118) n 0 4 t147) (by rw [hR146.1]) ?_
    obtain ⟨v159, hv159⟩ : ∃ t : Int32, (rnV (σ.2.2.1 118) n 0 4 t147) = t := ⟨_, rfl⟩
    rw [hv159]
    have ha160 : t158.1 ≤ n := hR157.2.2.2.2.1
    have hte161 := te_p2 (f := (σ.2.2.1 118)) ha160
    refine st_8_6_i_i (pc := 103) dX6_readLine_103 ?_
    refine R_iload (pc := 105) dX6_readLine_105 rfl ?_
    refine st_8_7_i_i (pc := 107) dX6_readLine_107 ?_
    refine R_aload_n (pc := 109) dX6_readLine_109 rfl rfl ?_
    refine g_X6_24 (pc := 110) (v := .int t158.2) rfl dX6_readLine_110 (c_117 _) (by show some (Value.int (σx151.1 11704)) = _; rw [hR157.2.2.2.2.2.2.2]) ?_
    refine R_iconst (pc := 113) (v := (-1)) dX6_readLine_113 (by decide) ?_
    refine R_icne (pc := 114) 200 dX6_readLine_114 (by decide) (fun b114_162 => ?_) (fun b114_162 => ?_)
    · skip
      exact R_vret (pc := 200) dX6_readLine_200 rfl (Nat.zero_le _) (Nat.zero_le _) ⟨rfl, _, rfl, hV150, hW156, (by rw [(show lnS (σ.2.2.1 118) n st = t158 from by subst ht9; subst ht20; subst hv21; subst ht32; subst ht43; subst hv44; subst ht55; subst ht66; subst hv67; subst ht147; subst ht158; subst hv159; exact lnS_f hB137)]; exact rt_of hR157 rfl rfl rfl rfl rfl), (by rw [(show lnS (σ.2.2.1 118) n st = t158 from by subst ht9; subst ht20; subst hv21; subst ht32; subst ht43; subst hv44; subst ht55; subst ht66; subst hv67; subst ht147; subst ht158; subst hv159; exact lnS_f hB137)]; exact (hR157.2.1 12606 (by decide) (by decide) (by decide)).trans (rsz_f1 b114_162).symm)⟩
    · skip
      refine R_aload_n (pc := 117) dX6_readLine_117 rfl rfl ?_
      refine g_X6_15 (pc := 118) (v := .int (σx151.1 12606)) rfl dX6_readLine_118 (c_126 _) rfl ?_
      refine R_bipush (pc := 121) (v := 8) dX6_readLine_121 (by decide) ?_
      refine R_icge (pc := 123) 200 dX6_readLine_123 (by decide) (fun b123_163 => ?_) (fun b123_163 => ?_)
      · skip
        exact R_vret (pc := 200) dX6_readLine_200 rfl (Nat.zero_le _) (Nat.zero_le _) ⟨rfl, _, rfl, hV150, hW156, (by rw [(show lnS (σ.2.2.1 118) n st = t158 from by subst ht9; subst ht20; subst hv21; subst ht32; subst ht43; subst hv44; subst ht55; subst ht66; subst hv67; subst ht147; subst ht158; subst hv159; exact lnS_f hB137)]; exact rt_of hR157 rfl rfl rfl rfl rfl), (by rw [(show lnS (σ.2.2.1 118) n st = t158 from by subst ht9; subst ht20; subst hv21; subst ht32; subst ht43; subst hv44; subst ht55; subst ht66; subst hv67; subst ht147; subst ht158; subst hv159; exact lnS_f hB137)]; exact (hR157.2.1 12606 (by decide) (by decide) (by decide)).trans (rsz_f2 (Int32.not_lt.mpr (by have q := b123_163; rw [(hR157.2.1 12606 (by decide) (by decide) (by decide))] at q; exact q))).symm)⟩
      · skip
        refine R_aload_n (pc := 126) dX6_readLine_126 rfl rfl ?_
        refine g_X6_65 (pc := 127) (v := .ref 127) rfl dX6_readLine_127 (c_126 _) rfl ?_
        refine R_aload_n (pc := 130) dX6_readLine_130 rfl rfl ?_
        refine g_X6_15 (pc := 131) (v := .int (σx151.1 12606)) rfl dX6_readLine_131 (c_126 _) rfl ?_
        refine R_iload_n (pc := 134) dX6_readLine_134 rfl rfl ?_
        have hx164 : vp_in (σx151.1 12606) 8 := (vp_ti (by have q0 := (nI_toInt (n := t158.1) (by omega)); have q1 := (nI_toInt (n := (tkE (σ.2.2.1 118) n t158.1)) (by omega)); have q2 := (nI_toInt (n := n) (by omega)); have q3 := ti_eq b114_162; have q4 := ti_nle b123_163; have q5 := ti_in (show inR (nI t158.1) 0 160 from (inR_nI (M := 160) (by omega) (by decide))); have q6 := ti_in (show inR (nI (tkE (σ.2.2.1 118) n t158.1)) 0 160 from (inR_nI (M := 160) (by omega) (by decide))); have q7 := ti_in (show inR (nI n) 0 160 from (inR_nI (M := 160) (by omega) (by decide))); have q8 := ti_in (iv_12606 hV150); have z0 : (-1 : Int32).toInt = -1 := (by decide); have z1 : (0 : Int32).toInt = 0 := (by decide); have z2 : (1 : Int32).toInt = 1 := (by decide); have z3 : (12606 : Int32).toInt = 12606 := (by decide); have z4 : (160 : Int32).toInt = 160 := (by decide); have z5 : (8 : Int32).toInt = 8 := (by decide); omega) (by have q0 := (nI_toInt (n := t158.1) (by omega)); have q1 := (nI_toInt (n := (tkE (σ.2.2.1 118) n t158.1)) (by omega)); have q2 := (nI_toInt (n := n) (by omega)); have q3 := ti_eq b114_162; have q4 := ti_nle b123_163; have q5 := ti_in (show inR (nI t158.1) 0 160 from (inR_nI (M := 160) (by omega) (by decide))); have q6 := ti_in (show inR (nI (tkE (σ.2.2.1 118) n t158.1)) 0 160 from (inR_nI (M := 160) (by omega) (by decide))); have q7 := ti_in (show inR (nI n) 0 160 from (inR_nI (M := 160) (by omega) (by decide))); have q8 := ti_in (iv_12606 hV150); have z0 : (-1 : Int32).toInt = -1 := (by decide); have z1 : (0 : Int32).toInt = 0 := (by decide); have z2 : (1 : Int32).toInt = 1 := (by decide); have z3 : (12606 : Int32).toInt = 12606 := (by decide); have z4 : (160 : Int32).toInt = 160 := (by decide); have z5 : (8 : Int32).toInt = 8 := (by decide); omega))
        refine W_iastore (pc := 135) dX6_readLine_135 (c_127 _) hx164 (a_127 _ _) ?_
        have hW165 := cor_sa 127 (upd (σx151.2.2.1 127) (Int32.toNatClampNeg (σx151.1 12606)) v21) hW156 rfl
        refine R_aload_n (pc := 136) dX6_readLine_136 rfl rfl ?_
        refine g_X6_68 (pc := 137) (v := .ref 128) rfl dX6_readLine_137 (c_126 _) rfl ?_
        refine R_aload_n (pc := 140) dX6_readLine_140 rfl rfl ?_
        refine g_X6_15 (pc := 141) (v := .int (σx151.1 12606)) rfl dX6_readLine_141 (c_126 _) rfl ?_
        refine R_iload_n (pc := 144) dX6_readLine_144 rfl rfl ?_
        have hx166 : vp_in (σx151.1 12606) 8 := (vp_ti (by have q0 := (nI_toInt (n := t158.1) (by omega)); have q1 := (nI_toInt (n := (tkE (σ.2.2.1 118) n t158.1)) (by omega)); have q2 := (nI_toInt (n := n) (by omega)); have q3 := ti_eq b114_162; have q4 := ti_nle b123_163; have q5 := ti_in (show inR (nI t158.1) 0 160 from (inR_nI (M := 160) (by omega) (by decide))); have q6 := ti_in (show inR (nI (tkE (σ.2.2.1 118) n t158.1)) 0 160 from (inR_nI (M := 160) (by omega) (by decide))); have q7 := ti_in (show inR (nI n) 0 160 from (inR_nI (M := 160) (by omega) (by decide))); have q8 := ti_in (iv_12606 hV150); have z0 : (-1 : Int32).toInt = -1 := (by decide); have z1 : (0 : Int32).toInt = 0 := (by decide); have z2 : (1 : Int32).toInt = 1 := (by decide); have z3 : (12606 : Int32).toInt = 12606 := (by decide); have z4 : (160 : Int32).toInt = 160 := (by decide); have z5 : (8 : Int32).toInt = 8 := (by decide); omega) (by have q0 := (nI_toInt (n := t158.1) (by omega)); have q1 := (nI_toInt (n := (tkE (σ.2.2.1 118) n t158.1)) (by omega)); have q2 := (nI_toInt (n := n) (by omega)); have q3 := ti_eq b114_162; have q4 := ti_nle b123_163; have q5 := ti_in (show inR (nI t158.1) 0 160 from (inR_nI (M := 160) (by omega) (by decide))); have q6 := ti_in (show inR (nI (tkE (σ.2.2.1 118) n t158.1)) 0 160 from (inR_nI (M := 160) (by omega) (by decide))); have q7 := ti_in (show inR (nI n) 0 160 from (inR_nI (M := 160) (by omega) (by decide))); have q8 := ti_in (iv_12606 hV150); have z0 : (-1 : Int32).toInt = -1 := (by decide); have z1 : (0 : Int32).toInt = 0 := (by decide); have z2 : (1 : Int32).toInt = 1 := (by decide); have z3 : (12606 : Int32).toInt = 12606 := (by decide); have z4 : (160 : Int32).toInt = 160 := (by decide); have z5 : (8 : Int32).toInt = 8 := (by decide); omega))
        refine W_iastore (pc := 145) dX6_readLine_145 (c_128 _) hx166 (a_128 _ _) ?_
        have hW167 := cor_sa 128 (upd ((uA σx151 127 (upd (σx151.2.2.1 127) (Int32.toNatClampNeg (σx151.1 12606)) v21)).2.2.1 128) (Int32.toNatClampNeg (σx151.1 12606)) v44) hW165 rfl
        refine R_aload_n (pc := 146) dX6_readLine_146 rfl rfl ?_
        refine g_X6_71 (pc := 147) (v := .ref 129) rfl dX6_readLine_147 (c_126 _) rfl ?_
        refine R_aload_n (pc := 150) dX6_readLine_150 rfl rfl ?_
        refine g_X6_15 (pc := 151) (v := .int (σx151.1 12606)) rfl dX6_readLine_151 (c_126 _) rfl ?_
        refine R_iload (pc := 154) dX6_readLine_154 rfl ?_
        have hx168 : vp_in (σx151.1 12606) 8 := (vp_ti (by have q0 := (nI_toInt (n := t158.1) (by omega)); have q1 := (nI_toInt (n := (tkE (σ.2.2.1 118) n t158.1)) (by omega)); have q2 := (nI_toInt (n := n) (by omega)); have q3 := ti_eq b114_162; have q4 := ti_nle b123_163; have q5 := ti_in (show inR (nI t158.1) 0 160 from (inR_nI (M := 160) (by omega) (by decide))); have q6 := ti_in (show inR (nI (tkE (σ.2.2.1 118) n t158.1)) 0 160 from (inR_nI (M := 160) (by omega) (by decide))); have q7 := ti_in (show inR (nI n) 0 160 from (inR_nI (M := 160) (by omega) (by decide))); have q8 := ti_in (iv_12606 hV150); have z0 : (-1 : Int32).toInt = -1 := (by decide); have z1 : (0 : Int32).toInt = 0 := (by decide); have z2 : (1 : Int32).toInt = 1 := (by decide); have z3 : (12606 : Int32).toInt = 12606 := (by decide); have z4 : (160 : Int32).toInt = 160 := (by decide); have z5 : (8 : Int32).toInt = 8 := (by decide); omega) (by have q0 := (nI_toInt (n := t158.1) (by omega)); have q1 := (nI_toInt (n := (tkE (σ.2.2.1 118) n t158.1)) (by omega)); have q2 := (nI_toInt (n := n) (by omega)); have q3 := ti_eq b114_162; have q4 := ti_nle b123_163; have q5 := ti_in (show inR (nI t158.1) 0 160 from (inR_nI (M := 160) (by omega) (by decide))); have q6 := ti_in (show inR (nI (tkE (σ.2.2.1 118) n t158.1)) 0 160 from (inR_nI (M := 160) (by omega) (by decide))); have q7 := ti_in (show inR (nI n) 0 160 from (inR_nI (M := 160) (by omega) (by decide))); have q8 := ti_in (iv_12606 hV150); have z0 : (-1 : Int32).toInt = -1 := (by decide); have z1 : (0 : Int32).toInt = 0 := (by decide); have z2 : (1 : Int32).toInt = 1 := (by decide); have z3 : (12606 : Int32).toInt = 12606 := (by decide); have z4 : (160 : Int32).toInt = 160 := (by decide); have z5 : (8 : Int32).toInt = 8 := (by decide); omega))
        refine W_iastore (pc := 156) dX6_readLine_156 (c_129 _) hx168 (a_129 _ _) ?_
        have hW169 := cor_sa 129 (upd ((uA (uA σx151 127 (upd (σx151.2.2.1 127) (Int32.toNatClampNeg (σx151.1 12606)) v21)) 128 (upd ((uA σx151 127 (upd (σx151.2.2.1 127) (Int32.toNatClampNeg (σx151.1 12606)) v21)).2.2.1 128) (Int32.toNatClampNeg (σx151.1 12606)) v44)).2.2.1 129) (Int32.toNatClampNeg (σx151.1 12606)) v67) hW167 rfl
        refine R_aload_n (pc := 157) dX6_readLine_157 rfl rfl ?_
        refine g_X6_74 (pc := 158) (v := .ref 130) rfl dX6_readLine_158 (c_126 _) rfl ?_
        refine R_aload_n (pc := 161) dX6_readLine_161 rfl rfl ?_
        refine g_X6_15 (pc := 162) (v := .int (σx151.1 12606)) rfl dX6_readLine_162 (c_126 _) rfl ?_
        refine R_iload (pc := 165) dX6_readLine_165 rfl ?_
        have hx170 : vp_in (σx151.1 12606) 8 := (vp_ti (by have q0 := (nI_toInt (n := t158.1) (by omega)); have q1 := (nI_toInt (n := (tkE (σ.2.2.1 118) n t158.1)) (by omega)); have q2 := (nI_toInt (n := n) (by omega)); have q3 := ti_eq b114_162; have q4 := ti_nle b123_163; have q5 := ti_in (show inR (nI t158.1) 0 160 from (inR_nI (M := 160) (by omega) (by decide))); have q6 := ti_in (show inR (nI (tkE (σ.2.2.1 118) n t158.1)) 0 160 from (inR_nI (M := 160) (by omega) (by decide))); have q7 := ti_in (show inR (nI n) 0 160 from (inR_nI (M := 160) (by omega) (by decide))); have q8 := ti_in (iv_12606 hV150); have z0 : (-1 : Int32).toInt = -1 := (by decide); have z1 : (0 : Int32).toInt = 0 := (by decide); have z2 : (1 : Int32).toInt = 1 := (by decide); have z3 : (12606 : Int32).toInt = 12606 := (by decide); have z4 : (160 : Int32).toInt = 160 := (by decide); have z5 : (8 : Int32).toInt = 8 := (by decide); omega) (by have q0 := (nI_toInt (n := t158.1) (by omega)); have q1 := (nI_toInt (n := (tkE (σ.2.2.1 118) n t158.1)) (by omega)); have q2 := (nI_toInt (n := n) (by omega)); have q3 := ti_eq b114_162; have q4 := ti_nle b123_163; have q5 := ti_in (show inR (nI t158.1) 0 160 from (inR_nI (M := 160) (by omega) (by decide))); have q6 := ti_in (show inR (nI (tkE (σ.2.2.1 118) n t158.1)) 0 160 from (inR_nI (M := 160) (by omega) (by decide))); have q7 := ti_in (show inR (nI n) 0 160 from (inR_nI (M := 160) (by omega) (by decide))); have q8 := ti_in (iv_12606 hV150); have z0 : (-1 : Int32).toInt = -1 := (by decide); have z1 : (0 : Int32).toInt = 0 := (by decide); have z2 : (1 : Int32).toInt = 1 := (by decide); have z3 : (12606 : Int32).toInt = 12606 := (by decide); have z4 : (160 : Int32).toInt = 160 := (by decide); have z5 : (8 : Int32).toInt = 8 := (by decide); omega))
        refine W_bastore (pc := 167) dX6_readLine_167 (c_130 _) hx170 rfl (a_130 _ _) ?_
        have hW171 := cor_sa 130 (upd ((uA (uA (uA σx151 127 (upd (σx151.2.2.1 127) (Int32.toNatClampNeg (σx151.1 12606)) v21)) 128 (upd ((uA σx151 127 (upd (σx151.2.2.1 127) (Int32.toNatClampNeg (σx151.1 12606)) v21)).2.2.1 128) (Int32.toNatClampNeg (σx151.1 12606)) v44)) 129 (upd ((uA (uA σx151 127 (upd (σx151.2.2.1 127) (Int32.toNatClampNeg (σx151.1 12606)) v21)) 128 (upd ((uA σx151 127 (upd (σx151.2.2.1 127) (Int32.toNatClampNeg (σx151.1 12606)) v21)).2.2.1 128) (Int32.toNatClampNeg (σx151.1 12606)) v44)).2.2.1 129) (Int32.toNatClampNeg (σx151.1 12606)) v67)).2.2.1 130) (Int32.toNatClampNeg (σx151.1 12606)) 0) hW169 rfl
        refine R_aload_n (pc := 168) dX6_readLine_168 rfl rfl ?_
        refine g_X6_78 (pc := 169) (v := .ref 131) rfl dX6_readLine_169 (c_126 _) rfl ?_
        refine R_aload_n (pc := 172) dX6_readLine_172 rfl rfl ?_
        refine g_X6_15 (pc := 173) (v := .int (σx151.1 12606)) rfl dX6_readLine_173 (c_126 _) rfl ?_
        refine R_iload (pc := 176) dX6_readLine_176 rfl ?_
        have hx172 : vp_in (σx151.1 12606) 8 := (vp_ti (by have q0 := (nI_toInt (n := t158.1) (by omega)); have q1 := (nI_toInt (n := (tkE (σ.2.2.1 118) n t158.1)) (by omega)); have q2 := (nI_toInt (n := n) (by omega)); have q3 := ti_eq b114_162; have q4 := ti_nle b123_163; have q5 := ti_in (show inR (nI t158.1) 0 160 from (inR_nI (M := 160) (by omega) (by decide))); have q6 := ti_in (show inR (nI (tkE (σ.2.2.1 118) n t158.1)) 0 160 from (inR_nI (M := 160) (by omega) (by decide))); have q7 := ti_in (show inR (nI n) 0 160 from (inR_nI (M := 160) (by omega) (by decide))); have q8 := ti_in (iv_12606 hV150); have z0 : (-1 : Int32).toInt = -1 := (by decide); have z1 : (0 : Int32).toInt = 0 := (by decide); have z2 : (1 : Int32).toInt = 1 := (by decide); have z3 : (12606 : Int32).toInt = 12606 := (by decide); have z4 : (160 : Int32).toInt = 160 := (by decide); have z5 : (8 : Int32).toInt = 8 := (by decide); omega) (by have q0 := (nI_toInt (n := t158.1) (by omega)); have q1 := (nI_toInt (n := (tkE (σ.2.2.1 118) n t158.1)) (by omega)); have q2 := (nI_toInt (n := n) (by omega)); have q3 := ti_eq b114_162; have q4 := ti_nle b123_163; have q5 := ti_in (show inR (nI t158.1) 0 160 from (inR_nI (M := 160) (by omega) (by decide))); have q6 := ti_in (show inR (nI (tkE (σ.2.2.1 118) n t158.1)) 0 160 from (inR_nI (M := 160) (by omega) (by decide))); have q7 := ti_in (show inR (nI n) 0 160 from (inR_nI (M := 160) (by omega) (by decide))); have q8 := ti_in (iv_12606 hV150); have z0 : (-1 : Int32).toInt = -1 := (by decide); have z1 : (0 : Int32).toInt = 0 := (by decide); have z2 : (1 : Int32).toInt = 1 := (by decide); have z3 : (12606 : Int32).toInt = 12606 := (by decide); have z4 : (160 : Int32).toInt = 160 := (by decide); have z5 : (8 : Int32).toInt = 8 := (by decide); omega))
        refine W_iastore (pc := 178) dX6_readLine_178 (c_131 _) hx172 (a_131 _ _) ?_
        have hW173 := cor_sa 131 (upd ((uA (uA (uA (uA σx151 127 (upd (σx151.2.2.1 127) (Int32.toNatClampNeg (σx151.1 12606)) v21)) 128 (upd ((uA σx151 127 (upd (σx151.2.2.1 127) (Int32.toNatClampNeg (σx151.1 12606)) v21)).2.2.1 128) (Int32.toNatClampNeg (σx151.1 12606)) v44)) 129 (upd ((uA (uA σx151 127 (upd (σx151.2.2.1 127) (Int32.toNatClampNeg (σx151.1 12606)) v21)) 128 (upd ((uA σx151 127 (upd (σx151.2.2.1 127) (Int32.toNatClampNeg (σx151.1 12606)) v21)).2.2.1 128) (Int32.toNatClampNeg (σx151.1 12606)) v44)).2.2.1 129) (Int32.toNatClampNeg (σx151.1 12606)) v67)) 130 (upd ((uA (uA (uA σx151 127 (upd (σx151.2.2.1 127) (Int32.toNatClampNeg (σx151.1 12606)) v21)) 128 (upd ((uA σx151 127 (upd (σx151.2.2.1 127) (Int32.toNatClampNeg (σx151.1 12606)) v21)).2.2.1 128) (Int32.toNatClampNeg (σx151.1 12606)) v44)) 129 (upd ((uA (uA σx151 127 (upd (σx151.2.2.1 127) (Int32.toNatClampNeg (σx151.1 12606)) v21)) 128 (upd ((uA σx151 127 (upd (σx151.2.2.1 127) (Int32.toNatClampNeg (σx151.1 12606)) v21)).2.2.1 128) (Int32.toNatClampNeg (σx151.1 12606)) v44)).2.2.1 129) (Int32.toNatClampNeg (σx151.1 12606)) v67)).2.2.1 130) (Int32.toNatClampNeg (σx151.1 12606)) 0)).2.2.1 131) (Int32.toNatClampNeg (σx151.1 12606)) v159) hW171 rfl
        refine R_aload_n (pc := 179) dX6_readLine_179 rfl rfl ?_
        refine g_X6_81 (pc := 180) (v := .ref 132) rfl dX6_readLine_180 (c_126 _) rfl ?_
        refine R_aload_n (pc := 183) dX6_readLine_183 rfl rfl ?_
        refine g_X6_15 (pc := 184) (v := .int (σx151.1 12606)) rfl dX6_readLine_184 (c_126 _) rfl ?_
        refine R_iload (pc := 187) dX6_readLine_187 rfl ?_
        have hx174 : vp_in (σx151.1 12606) 8 := (vp_ti (by have q0 := (nI_toInt (n := t158.1) (by omega)); have q1 := (nI_toInt (n := (tkE (σ.2.2.1 118) n t158.1)) (by omega)); have q2 := (nI_toInt (n := n) (by omega)); have q3 := ti_eq b114_162; have q4 := ti_nle b123_163; have q5 := ti_in (show inR (nI t158.1) 0 160 from (inR_nI (M := 160) (by omega) (by decide))); have q6 := ti_in (show inR (nI (tkE (σ.2.2.1 118) n t158.1)) 0 160 from (inR_nI (M := 160) (by omega) (by decide))); have q7 := ti_in (show inR (nI n) 0 160 from (inR_nI (M := 160) (by omega) (by decide))); have q8 := ti_in (iv_12606 hV150); have z0 : (-1 : Int32).toInt = -1 := (by decide); have z1 : (0 : Int32).toInt = 0 := (by decide); have z2 : (1 : Int32).toInt = 1 := (by decide); have z3 : (12606 : Int32).toInt = 12606 := (by decide); have z4 : (160 : Int32).toInt = 160 := (by decide); have z5 : (8 : Int32).toInt = 8 := (by decide); omega) (by have q0 := (nI_toInt (n := t158.1) (by omega)); have q1 := (nI_toInt (n := (tkE (σ.2.2.1 118) n t158.1)) (by omega)); have q2 := (nI_toInt (n := n) (by omega)); have q3 := ti_eq b114_162; have q4 := ti_nle b123_163; have q5 := ti_in (show inR (nI t158.1) 0 160 from (inR_nI (M := 160) (by omega) (by decide))); have q6 := ti_in (show inR (nI (tkE (σ.2.2.1 118) n t158.1)) 0 160 from (inR_nI (M := 160) (by omega) (by decide))); have q7 := ti_in (show inR (nI n) 0 160 from (inR_nI (M := 160) (by omega) (by decide))); have q8 := ti_in (iv_12606 hV150); have z0 : (-1 : Int32).toInt = -1 := (by decide); have z1 : (0 : Int32).toInt = 0 := (by decide); have z2 : (1 : Int32).toInt = 1 := (by decide); have z3 : (12606 : Int32).toInt = 12606 := (by decide); have z4 : (160 : Int32).toInt = 160 := (by decide); have z5 : (8 : Int32).toInt = 8 := (by decide); omega))
        refine W_iastore (pc := 189) dX6_readLine_189 (c_132 _) hx174 (a_132 _ _) ?_
        have hW175 := cor_sa 132 (upd ((uA (uA (uA (uA (uA σx151 127 (upd (σx151.2.2.1 127) (Int32.toNatClampNeg (σx151.1 12606)) v21)) 128 (upd ((uA σx151 127 (upd (σx151.2.2.1 127) (Int32.toNatClampNeg (σx151.1 12606)) v21)).2.2.1 128) (Int32.toNatClampNeg (σx151.1 12606)) v44)) 129 (upd ((uA (uA σx151 127 (upd (σx151.2.2.1 127) (Int32.toNatClampNeg (σx151.1 12606)) v21)) 128 (upd ((uA σx151 127 (upd (σx151.2.2.1 127) (Int32.toNatClampNeg (σx151.1 12606)) v21)).2.2.1 128) (Int32.toNatClampNeg (σx151.1 12606)) v44)).2.2.1 129) (Int32.toNatClampNeg (σx151.1 12606)) v67)) 130 (upd ((uA (uA (uA σx151 127 (upd (σx151.2.2.1 127) (Int32.toNatClampNeg (σx151.1 12606)) v21)) 128 (upd ((uA σx151 127 (upd (σx151.2.2.1 127) (Int32.toNatClampNeg (σx151.1 12606)) v21)).2.2.1 128) (Int32.toNatClampNeg (σx151.1 12606)) v44)) 129 (upd ((uA (uA σx151 127 (upd (σx151.2.2.1 127) (Int32.toNatClampNeg (σx151.1 12606)) v21)) 128 (upd ((uA σx151 127 (upd (σx151.2.2.1 127) (Int32.toNatClampNeg (σx151.1 12606)) v21)).2.2.1 128) (Int32.toNatClampNeg (σx151.1 12606)) v44)).2.2.1 129) (Int32.toNatClampNeg (σx151.1 12606)) v67)).2.2.1 130) (Int32.toNatClampNeg (σx151.1 12606)) 0)) 131 (upd ((uA (uA (uA (uA σx151 127 (upd (σx151.2.2.1 127) (Int32.toNatClampNeg (σx151.1 12606)) v21)) 128 (upd ((uA σx151 127 (upd (σx151.2.2.1 127) (Int32.toNatClampNeg (σx151.1 12606)) v21)).2.2.1 128) (Int32.toNatClampNeg (σx151.1 12606)) v44)) 129 (upd ((uA (uA σx151 127 (upd (σx151.2.2.1 127) (Int32.toNatClampNeg (σx151.1 12606)) v21)) 128 (upd ((uA σx151 127 (upd (σx151.2.2.1 127) (Int32.toNatClampNeg (σx151.1 12606)) v21)).2.2.1 128) (Int32.toNatClampNeg (σx151.1 12606)) v44)).2.2.1 129) (Int32.toNatClampNeg (σx151.1 12606)) v67)) 130 (upd ((uA (uA (uA σx151 127 (upd (σx151.2.2.1 127) (Int32.toNatClampNeg (σx151.1 12606)) v21)) 128 (upd ((uA σx151 127 (upd (σx151.2.2.1 127) (Int32.toNatClampNeg (σx151.1 12606)) v21)).2.2.1 128) (Int32.toNatClampNeg (σx151.1 12606)) v44)) 129 (upd ((uA (uA σx151 127 (upd (σx151.2.2.1 127) (Int32.toNatClampNeg (σx151.1 12606)) v21)) 128 (upd ((uA σx151 127 (upd (σx151.2.2.1 127) (Int32.toNatClampNeg (σx151.1 12606)) v21)).2.2.1 128) (Int32.toNatClampNeg (σx151.1 12606)) v44)).2.2.1 129) (Int32.toNatClampNeg (σx151.1 12606)) v67)).2.2.1 130) (Int32.toNatClampNeg (σx151.1 12606)) 0)).2.2.1 131) (Int32.toNatClampNeg (σx151.1 12606)) v159)).2.2.1 132) (Int32.toNatClampNeg (σx151.1 12606)) v159) hW173 rfl
        refine R_aload_n (pc := 190) dX6_readLine_190 rfl rfl ?_
        refine R_dup (pc := 191) dX6_readLine_191 rfl ?_
        refine g_X6_15 (pc := 192) (v := .int (σx151.1 12606)) rfl dX6_readLine_192 (c_126 _) rfl ?_
        refine R_iconst (pc := 195) (v := 1) dX6_readLine_195 (by decide) ?_
        refine R_iadd (pc := 196) dX6_readLine_196 ?_
        have r176 : inR ((σx151.1 12606) + 1) 1 9 := inR_add (show inR (σx151.1 12606) 0 8 from (iv_12606 hV150)) (show inR 1 1 1 from (inR_self _)) (by decide) (by decide)
        have e177 := ti_add (l := 1) (h := 9) (show inR (σx151.1 12606) 0 8 from (iv_12606 hV150)) (show inR 1 1 1 from (inR_self _)) (by decide) (by decide)
        refine p_X6_15 (pc := 197) rfl dX6_readLine_197 (c_126 _) (Nat.le_of_ble_eq_true rfl) rfl rfl (s_126_6 _ _) ?_
        have hV178 := su_12606 hV150 (show inR ((σx151.1 12606) + 1) 0 8 from of_ti (by have q0 := (nI_toInt (n := t158.1) (by omega)); have q1 := (nI_toInt (n := (tkE (σ.2.2.1 118) n t158.1)) (by omega)); have q2 := (nI_toInt (n := n) (by omega)); have q3 := e177; have q4 := ti_eq b114_162; have q5 := ti_nle b123_163; have q6 := ti_in (show inR (nI t158.1) 0 160 from (inR_nI (M := 160) (by omega) (by decide))); have q7 := ti_in (show inR (nI (tkE (σ.2.2.1 118) n t158.1)) 0 160 from (inR_nI (M := 160) (by omega) (by decide))); have q8 := ti_in (show inR (nI n) 0 160 from (inR_nI (M := 160) (by omega) (by decide))); have q9 := ti_in (iv_12606 hV150); have q10 := ti_in r176; have z0 : (-1 : Int32).toInt = -1 := (by decide); have z1 : (0 : Int32).toInt = 0 := (by decide); have z2 : (1 : Int32).toInt = 1 := (by decide); have z3 : (12606 : Int32).toInt = 12606 := (by decide); have z4 : (160 : Int32).toInt = 160 := (by decide); have z5 : (8 : Int32).toInt = 8 := (by decide); have z6 : (9 : Int32).toInt = 9 := (by decide); omega) (by have q0 := (nI_toInt (n := t158.1) (by omega)); have q1 := (nI_toInt (n := (tkE (σ.2.2.1 118) n t158.1)) (by omega)); have q2 := (nI_toInt (n := n) (by omega)); have q3 := e177; have q4 := ti_eq b114_162; have q5 := ti_nle b123_163; have q6 := ti_in (show inR (nI t158.1) 0 160 from (inR_nI (M := 160) (by omega) (by decide))); have q7 := ti_in (show inR (nI (tkE (σ.2.2.1 118) n t158.1)) 0 160 from (inR_nI (M := 160) (by omega) (by decide))); have q8 := ti_in (show inR (nI n) 0 160 from (inR_nI (M := 160) (by omega) (by decide))); have q9 := ti_in (iv_12606 hV150); have q10 := ti_in r176; have z0 : (-1 : Int32).toInt = -1 := (by decide); have z1 : (0 : Int32).toInt = 0 := (by decide); have z2 : (1 : Int32).toInt = 1 := (by decide); have z3 : (12606 : Int32).toInt = 12606 := (by decide); have z4 : (160 : Int32).toInt = 160 := (by decide); have z5 : (8 : Int32).toInt = 8 := (by decide); have z6 : (9 : Int32).toInt = 9 := (by decide); omega))
        have hW179 := cor_si 12606 ((σx151.1 12606) + 1) hW175 rfl
        exact R_vret (pc := 200) dX6_readLine_200 rfl (Nat.zero_le _) (Nat.zero_le _) ⟨rfl, _, rfl, hV178, hW179, (by rw [(show lnS (σ.2.2.1 118) n st = t158 from by subst ht9; subst ht20; subst hv21; subst ht32; subst ht43; subst hv44; subst ht55; subst ht66; subst hv67; subst ht147; subst ht158; subst hv159; exact lnS_f hB137)]; exact rt_of hR157 rfl rfl rfl rfl rfl), (by rw [(show lnS (σ.2.2.1 118) n st = t158 from by subst ht9; subst ht20; subst hv21; subst ht32; subst ht43; subst hv44; subst ht55; subst ht66; subst hv67; subst ht147; subst ht158; subst hv159; exact lnS_f hB137)]; exact (show (uI (uA (uA (uA (uA (uA (uA σx151 127 (upd (σx151.2.2.1 127) (Int32.toNatClampNeg (σx151.1 12606)) v21)) 128 (upd ((uA σx151 127 (upd (σx151.2.2.1 127) (Int32.toNatClampNeg (σx151.1 12606)) v21)).2.2.1 128) (Int32.toNatClampNeg (σx151.1 12606)) v44)) 129 (upd ((uA (uA σx151 127 (upd (σx151.2.2.1 127) (Int32.toNatClampNeg (σx151.1 12606)) v21)) 128 (upd ((uA σx151 127 (upd (σx151.2.2.1 127) (Int32.toNatClampNeg (σx151.1 12606)) v21)).2.2.1 128) (Int32.toNatClampNeg (σx151.1 12606)) v44)).2.2.1 129) (Int32.toNatClampNeg (σx151.1 12606)) v67)) 130 (upd ((uA (uA (uA σx151 127 (upd (σx151.2.2.1 127) (Int32.toNatClampNeg (σx151.1 12606)) v21)) 128 (upd ((uA σx151 127 (upd (σx151.2.2.1 127) (Int32.toNatClampNeg (σx151.1 12606)) v21)).2.2.1 128) (Int32.toNatClampNeg (σx151.1 12606)) v44)) 129 (upd ((uA (uA σx151 127 (upd (σx151.2.2.1 127) (Int32.toNatClampNeg (σx151.1 12606)) v21)) 128 (upd ((uA σx151 127 (upd (σx151.2.2.1 127) (Int32.toNatClampNeg (σx151.1 12606)) v21)).2.2.1 128) (Int32.toNatClampNeg (σx151.1 12606)) v44)).2.2.1 129) (Int32.toNatClampNeg (σx151.1 12606)) v67)).2.2.1 130) (Int32.toNatClampNeg (σx151.1 12606)) 0)) 131 (upd ((uA (uA (uA (uA σx151 127 (upd (σx151.2.2.1 127) (Int32.toNatClampNeg (σx151.1 12606)) v21)) 128 (upd ((uA σx151 127 (upd (σx151.2.2.1 127) (Int32.toNatClampNeg (σx151.1 12606)) v21)).2.2.1 128) (Int32.toNatClampNeg (σx151.1 12606)) v44)) 129 (upd ((uA (uA σx151 127 (upd (σx151.2.2.1 127) (Int32.toNatClampNeg (σx151.1 12606)) v21)) 128 (upd ((uA σx151 127 (upd (σx151.2.2.1 127) (Int32.toNatClampNeg (σx151.1 12606)) v21)).2.2.1 128) (Int32.toNatClampNeg (σx151.1 12606)) v44)).2.2.1 129) (Int32.toNatClampNeg (σx151.1 12606)) v67)) 130 (upd ((uA (uA (uA σx151 127 (upd (σx151.2.2.1 127) (Int32.toNatClampNeg (σx151.1 12606)) v21)) 128 (upd ((uA σx151 127 (upd (σx151.2.2.1 127) (Int32.toNatClampNeg (σx151.1 12606)) v21)).2.2.1 128) (Int32.toNatClampNeg (σx151.1 12606)) v44)) 129 (upd ((uA (uA σx151 127 (upd (σx151.2.2.1 127) (Int32.toNatClampNeg (σx151.1 12606)) v21)) 128 (upd ((uA σx151 127 (upd (σx151.2.2.1 127) (Int32.toNatClampNeg (σx151.1 12606)) v21)).2.2.1 128) (Int32.toNatClampNeg (σx151.1 12606)) v44)).2.2.1 129) (Int32.toNatClampNeg (σx151.1 12606)) v67)).2.2.1 130) (Int32.toNatClampNeg (σx151.1 12606)) 0)).2.2.1 131) (Int32.toNatClampNeg (σx151.1 12606)) v159)) 132 (upd ((uA (uA (uA (uA (uA σx151 127 (upd (σx151.2.2.1 127) (Int32.toNatClampNeg (σx151.1 12606)) v21)) 128 (upd ((uA σx151 127 (upd (σx151.2.2.1 127) (Int32.toNatClampNeg (σx151.1 12606)) v21)).2.2.1 128) (Int32.toNatClampNeg (σx151.1 12606)) v44)) 129 (upd ((uA (uA σx151 127 (upd (σx151.2.2.1 127) (Int32.toNatClampNeg (σx151.1 12606)) v21)) 128 (upd ((uA σx151 127 (upd (σx151.2.2.1 127) (Int32.toNatClampNeg (σx151.1 12606)) v21)).2.2.1 128) (Int32.toNatClampNeg (σx151.1 12606)) v44)).2.2.1 129) (Int32.toNatClampNeg (σx151.1 12606)) v67)) 130 (upd ((uA (uA (uA σx151 127 (upd (σx151.2.2.1 127) (Int32.toNatClampNeg (σx151.1 12606)) v21)) 128 (upd ((uA σx151 127 (upd (σx151.2.2.1 127) (Int32.toNatClampNeg (σx151.1 12606)) v21)).2.2.1 128) (Int32.toNatClampNeg (σx151.1 12606)) v44)) 129 (upd ((uA (uA σx151 127 (upd (σx151.2.2.1 127) (Int32.toNatClampNeg (σx151.1 12606)) v21)) 128 (upd ((uA σx151 127 (upd (σx151.2.2.1 127) (Int32.toNatClampNeg (σx151.1 12606)) v21)).2.2.1 128) (Int32.toNatClampNeg (σx151.1 12606)) v44)).2.2.1 129) (Int32.toNatClampNeg (σx151.1 12606)) v67)).2.2.1 130) (Int32.toNatClampNeg (σx151.1 12606)) 0)) 131 (upd ((uA (uA (uA (uA σx151 127 (upd (σx151.2.2.1 127) (Int32.toNatClampNeg (σx151.1 12606)) v21)) 128 (upd ((uA σx151 127 (upd (σx151.2.2.1 127) (Int32.toNatClampNeg (σx151.1 12606)) v21)).2.2.1 128) (Int32.toNatClampNeg (σx151.1 12606)) v44)) 129 (upd ((uA (uA σx151 127 (upd (σx151.2.2.1 127) (Int32.toNatClampNeg (σx151.1 12606)) v21)) 128 (upd ((uA σx151 127 (upd (σx151.2.2.1 127) (Int32.toNatClampNeg (σx151.1 12606)) v21)).2.2.1 128) (Int32.toNatClampNeg (σx151.1 12606)) v44)).2.2.1 129) (Int32.toNatClampNeg (σx151.1 12606)) v67)) 130 (upd ((uA (uA (uA σx151 127 (upd (σx151.2.2.1 127) (Int32.toNatClampNeg (σx151.1 12606)) v21)) 128 (upd ((uA σx151 127 (upd (σx151.2.2.1 127) (Int32.toNatClampNeg (σx151.1 12606)) v21)).2.2.1 128) (Int32.toNatClampNeg (σx151.1 12606)) v44)) 129 (upd ((uA (uA σx151 127 (upd (σx151.2.2.1 127) (Int32.toNatClampNeg (σx151.1 12606)) v21)) 128 (upd ((uA σx151 127 (upd (σx151.2.2.1 127) (Int32.toNatClampNeg (σx151.1 12606)) v21)).2.2.1 128) (Int32.toNatClampNeg (σx151.1 12606)) v44)).2.2.1 129) (Int32.toNatClampNeg (σx151.1 12606)) v67)).2.2.1 130) (Int32.toNatClampNeg (σx151.1 12606)) 0)).2.2.1 131) (Int32.toNatClampNeg (σx151.1 12606)) v159)).2.2.1 132) (Int32.toNatClampNeg (σx151.1 12606)) v159)) 12606 ((σx151.1 12606) + 1)).1 12606 = σ.1 12606 + 1 from by show σx151.1 12606 + 1 = _; rw [(hR157.2.1 12606 (by decide) (by decide) (by decide))]).trans (rsz_t b114_162 (by have q := (Int32.not_le.mp b123_163); rw [(hR157.2.1 12606 (by decide) (by decide) (by decide))] at q; exact q)).symm)⟩
set_option maxRecDepth 100000 in
set_option maxHeartbeats 40000000 in
theorem ge_X6_readLine_133 {G : vG} {l : Launch} (σ : Sg) (n : Nat) (st : St)  (hI : Inv σ) (hR : RS σ σ n st) : Sp G l yX6_readLine cX6_readLine 8 none 7 0 0 [.ref 117, .ref 133] (WW σ) (QV (fun w2 => ∃ σ2, w2 = WW σ2 ∧ Inv σ2 ∧ CoM σ σ2 ∧ RT σ σ2 n (lnS (σ.2.2.1 118) n st) ∧ σ2.1 13306 = szS (lnS (σ.2.2.1 118) n st).2 (σ.1 13306))) := by
  refine Sp_of_R [(some (.ref 117)), (some (.ref 133)), none, none, none, none, none, none] [none, none, none, none, none, none] rfl (by simp) rfl (Nat.le_of_ble_eq_true rfl) ?_
  have hn160 : n ≤ 160 := hR.2.2.2.1
  have hsn : st.1 ≤ n := hR.2.2.2.2.1
  have hte := te_p (f := (σ.2.2.1 118)) hsn
  refine R_aload_n (pc := 0) dX6_readLine_0 rfl rfl ?_
  refine R_ldcS (pc := 1) (i := 0) rfl rfl dX6_readLine_1 (adS _ (by decide)) ?_
  refine k_X6_49 (pc := 3) (ge_X6_readWord_0 _ n st hI (rs_re hR)) rfl (c_117 _) (by decide) (Nat.le_refl _) (Nat.le_refl _) (Nat.le_of_ble_eq_true rfl) dX6_readLine_3 (fun w2 h => ?_)
  obtain ⟨σx2, rfl, hV1, hW3, hR4⟩ := h
  have hW7 := Cor.trans (show CoM σ σ from Cor.rfl' σ) (cor_m hW3)
  have hR8 : RS σ σx2 n (rwS (σ.2.2.1 118) n 0 st) := rs_tr hR hR4
  obtain ⟨t9, ht9⟩ : ∃ t : St, (rwS (σ.2.2.1 118) n 0 st) = t := ⟨_, rfl⟩
  rw [ht9] at hR8
  have ha10 : t9.1 ≤ n := hR8.2.2.2.2.1
  have hte11 := te_p2 (f := (σ.2.2.1 118)) ha10
  refine R_aload_n (pc := 6) dX6_readLine_6 rfl rfl ?_
  refine R_iconst (pc := 7) (v := 0) dX6_readLine_7 (by decide) ?_
  refine R_iconst (pc := 8) (v := 4) dX6_readLine_8 (by decide) ?_
  refine k_X6_53 (pc := 9) (ge_X6_readNumber _ n t9 0 4 hV1 (rs_re hR8)) rfl (c_117 _) (by decide) (Nat.le_refl _) (Nat.le_refl _) (Nat.le_of_ble_eq_true rfl) dX6_readLine_9 (fun y16 w2 h => ?_)
  obtain ⟨σx13, rfl, hV12, hW14, hR15⟩ := h
  have hW18 := Cor.trans hW7 (cor_m hW14)
  obtain ⟨hR15, rfl⟩ := hR15
  have hR19 : RS σ σx13 n (rnS (σ.2.2.1 118) n 0 4 t9) := rs_tr hR8 (by have q := hR15; rw [hR8.1] at q; exact q)
  obtain ⟨t20, ht20⟩ : ∃ t : St, (rnS (σ.2.2.1 118) n 0 4 t9) = t := ⟨_, rfl⟩
  rw [ht20] at hR19
  refine R_cv (rnV (σ.2.2.1 118) n 0 4 t9) (by rw [hR8.1]) ?_
  obtain ⟨v21, hv21⟩ : ∃ t : Int32, (rnV (σ.2.2.1 118) n 0 4 t9) = t := ⟨_, rfl⟩
  rw [hv21]
  have ha22 : t20.1 ≤ n := hR19.2.2.2.2.1
  have hte23 := te_p2 (f := (σ.2.2.1 118)) ha22
  refine st_8_2_i_a (pc := 12) dX6_readLine_12 ?_
  refine R_aload_n (pc := 13) dX6_readLine_13 rfl rfl ?_
  refine R_ldcS (pc := 14) (i := 1) rfl rfl dX6_readLine_14 (adS _ (by decide)) ?_
  refine k_X6_49 (pc := 16) (ge_X6_readWord_1 _ n t20 hV12 (rs_re hR19)) rfl (c_117 _) (by decide) (Nat.le_refl _) (Nat.le_refl _) (Nat.le_of_ble_eq_true rfl) dX6_readLine_16 (fun w2 h => ?_)
  obtain ⟨σx25, rfl, hV24, hW26, hR27⟩ := h
  have hW30 := Cor.trans hW18 (cor_m hW26)
  have hR31 : RS σ σx25 n (rwS (σ.2.2.1 118) n 1 t20) := rs_tr hR19 (by have q := hR27; rw [hR19.1] at q; exact q)
  obtain ⟨t32, ht32⟩ : ∃ t : St, (rwS (σ.2.2.1 118) n 1 t20) = t := ⟨_, rfl⟩
  rw [ht32] at hR31
  have ha33 : t32.1 ≤ n := hR31.2.2.2.2.1
  have hte34 := te_p2 (f := (σ.2.2.1 118)) ha33
  refine R_aload_n (pc := 19) dX6_readLine_19 rfl rfl ?_
  refine R_iconst (pc := 20) (v := 1) dX6_readLine_20 (by decide) ?_
  refine R_bipush (pc := 21) (v := 99) dX6_readLine_21 (by decide) ?_
  refine k_X6_53 (pc := 23) (ge_X6_readNumber _ n t32 1 99 hV24 (rs_re hR31)) rfl (c_117 _) (by decide) (Nat.le_refl _) (Nat.le_refl _) (Nat.le_of_ble_eq_true rfl) dX6_readLine_23 (fun y39 w2 h => ?_)
  obtain ⟨σx36, rfl, hV35, hW37, hR38⟩ := h
  have hW41 := Cor.trans hW30 (cor_m hW37)
  obtain ⟨hR38, rfl⟩ := hR38
  have hR42 : RS σ σx36 n (rnS (σ.2.2.1 118) n 1 99 t32) := rs_tr hR31 (by have q := hR38; rw [hR31.1] at q; exact q)
  obtain ⟨t43, ht43⟩ : ∃ t : St, (rnS (σ.2.2.1 118) n 1 99 t32) = t := ⟨_, rfl⟩
  rw [ht43] at hR42
  refine R_cv (rnV (σ.2.2.1 118) n 1 99 t32) (by rw [hR31.1]) ?_
  obtain ⟨v44, hv44⟩ : ∃ t : Int32, (rnV (σ.2.2.1 118) n 1 99 t32) = t := ⟨_, rfl⟩
  rw [hv44]
  have ha45 : t43.1 ≤ n := hR42.2.2.2.2.1
  have hte46 := te_p2 (f := (σ.2.2.1 118)) ha45
  refine st_8_3_i_i (pc := 26) dX6_readLine_26 ?_
  refine R_aload_n (pc := 27) dX6_readLine_27 rfl rfl ?_
  refine R_ldcS (pc := 28) (i := 2) rfl rfl dX6_readLine_28 (adS _ (by decide)) ?_
  refine k_X6_49 (pc := 30) (ge_X6_readWord_2 _ n t43 hV35 (rs_re hR42)) rfl (c_117 _) (by decide) (Nat.le_refl _) (Nat.le_refl _) (Nat.le_of_ble_eq_true rfl) dX6_readLine_30 (fun w2 h => ?_)
  obtain ⟨σx48, rfl, hV47, hW49, hR50⟩ := h
  have hW53 := Cor.trans hW41 (cor_m hW49)
  have hR54 : RS σ σx48 n (rwS (σ.2.2.1 118) n 2 t43) := rs_tr hR42 (by have q := hR50; rw [hR42.1] at q; exact q)
  obtain ⟨t55, ht55⟩ : ∃ t : St, (rwS (σ.2.2.1 118) n 2 t43) = t := ⟨_, rfl⟩
  rw [ht55] at hR54
  have ha56 : t55.1 ≤ n := hR54.2.2.2.2.1
  have hte57 := te_p2 (f := (σ.2.2.1 118)) ha56
  refine R_aload_n (pc := 33) dX6_readLine_33 rfl rfl ?_
  refine R_iload_n (pc := 34) dX6_readLine_34 rfl rfl ?_
  refine R_bipush (pc := 35) (v := 99) dX6_readLine_35 (by decide) ?_
  refine k_X6_53 (pc := 37) (ge_X6_readNumber _ n t55 v44 99 hV47 (rs_re hR54)) rfl (c_117 _) (by decide) (Nat.le_refl _) (Nat.le_refl _) (Nat.le_of_ble_eq_true rfl) dX6_readLine_37 (fun y62 w2 h => ?_)
  obtain ⟨σx59, rfl, hV58, hW60, hR61⟩ := h
  have hW64 := Cor.trans hW53 (cor_m hW60)
  obtain ⟨hR61, rfl⟩ := hR61
  have hR65 : RS σ σx59 n (rnS (σ.2.2.1 118) n v44 99 t55) := rs_tr hR54 (by have q := hR61; rw [hR54.1] at q; exact q)
  obtain ⟨t66, ht66⟩ : ∃ t : St, (rnS (σ.2.2.1 118) n v44 99 t55) = t := ⟨_, rfl⟩
  rw [ht66] at hR65
  refine R_cv (rnV (σ.2.2.1 118) n v44 99 t55) (by rw [hR54.1]) ?_
  obtain ⟨v67, hv67⟩ : ∃ t : Int32, (rnV (σ.2.2.1 118) n v44 99 t55) = t := ⟨_, rfl⟩
  rw [hv67]
  have ha68 : t66.1 ≤ n := hR65.2.2.2.2.1
  have hte69 := te_p2 (f := (σ.2.2.1 118)) ha68
  refine st_8_4_i_i (pc := 40) dX6_readLine_40 ?_
  refine R_aload_n (pc := 42) dX6_readLine_42 rfl rfl ?_
  refine R_ldcS (pc := 43) (i := 3) rfl rfl dX6_readLine_43 (adS _ (by decide)) ?_
  refine k_X6_36 (pc := 45) (ge_X6_isAt_3 _ n t66 hV58 (rs_re hR65)) rfl (c_117 _) (by decide) (Nat.le_refl _) (Nat.le_refl _) (Nat.le_of_ble_eq_true rfl) dX6_readLine_45 (fun x w2 h => ?_)
  rcases h with ⟨rfl, ⟨h70, rfl⟩ | ⟨h70, rfl⟩⟩
  · skip
    have hB71 : rdB (σ.2.2.1 118) n t66.1 3 = true := (by have q := h70; rw [hR65.1] at q; exact q)
    refine st_8_5_i_i (pc := 48) dX6_readLine_48 ?_
    refine R_iload (pc := 50) dX6_readLine_50 rfl ?_
    refine R_ifeq (pc := 52) 91 dX6_readLine_52 (by decide) (fun h => absurd h (by decide)) (fun _ => ?_)
    refine R_aload_n (pc := 55) dX6_readLine_55 rfl rfl ?_
    refine R_ldcS (pc := 56) (i := 3) rfl rfl dX6_readLine_56 (adS _ (by decide)) ?_
    refine k_X6_49 (pc := 58) (ge_X6_readWord_3 _ n t66 hV58 (rs_re hR65)) rfl (c_117 _) (by decide) (Nat.le_refl _) (Nat.le_refl _) (Nat.le_of_ble_eq_true rfl) dX6_readLine_58 (fun w2 h => ?_)
    obtain ⟨σx74, rfl, hV73, hW75, hR76⟩ := h
    have hW79 := Cor.trans hW64 (cor_m hW75)
    have hR80 : RS σ σx74 n (rwS (σ.2.2.1 118) n 3 t66) := rs_tr hR65 (by have q := hR76; rw [hR65.1] at q; exact q)
    obtain ⟨t81, ht81⟩ : ∃ t : St, (rwS (σ.2.2.1 118) n 3 t66) = t := ⟨_, rfl⟩
    rw [ht81] at hR80
    have ha82 : t81.1 ≤ n := hR80.2.2.2.2.1
    have hte83 := te_p2 (f := (σ.2.2.1 118)) ha82
    refine R_aload_n (pc := 61) dX6_readLine_61 rfl rfl ?_
    refine R_iconst (pc := 62) (v := 0) dX6_readLine_62 (by decide) ?_
    refine R_sipush (pc := 63) (v := 20000) dX6_readLine_63 (by decide) ?_
    refine k_X6_53 (pc := 66) (ge_X6_readNumber _ n t81 0 20000 hV73 (rs_re hR80)) rfl (c_117 _) (by decide) (Nat.le_refl _) (Nat.le_refl _) (Nat.le_of_ble_eq_true rfl) dX6_readLine_66 (fun y88 w2 h => ?_)
    obtain ⟨σx85, rfl, hV84, hW86, hR87⟩ := h
    have hW90 := Cor.trans hW79 (cor_m hW86)
    obtain ⟨hR87, rfl⟩ := hR87
    have hR91 : RS σ σx85 n (rnS (σ.2.2.1 118) n 0 20000 t81) := rs_tr hR80 (by have q := hR87; rw [hR80.1] at q; exact q)
    obtain ⟨t92, ht92⟩ : ∃ t : St, (rnS (σ.2.2.1 118) n 0 20000 t81) = t := ⟨_, rfl⟩
    rw [ht92] at hR91
    refine R_cv (rnV (σ.2.2.1 118) n 0 20000 t81) (by rw [hR80.1]) ?_
    obtain ⟨v93, hv93⟩ : ∃ t : Int32, (rnV (σ.2.2.1 118) n 0 20000 t81) = t := ⟨_, rfl⟩
    rw [hv93]
    have ha94 : t92.1 ≤ n := hR91.2.2.2.2.1
    have hte95 := te_p2 (f := (σ.2.2.1 118)) ha94
    refine st_8_6_i_i (pc := 69) dX6_readLine_69 ?_
    refine R_aload_n (pc := 71) dX6_readLine_71 rfl rfl ?_
    refine R_ldcS (pc := 72) (i := 2) rfl rfl dX6_readLine_72 (adS _ (by decide)) ?_
    refine k_X6_49 (pc := 74) (ge_X6_readWord_2 _ n t92 hV84 (rs_re hR91)) rfl (c_117 _) (by decide) (Nat.le_refl _) (Nat.le_refl _) (Nat.le_of_ble_eq_true rfl) dX6_readLine_74 (fun w2 h => ?_)
    obtain ⟨σx97, rfl, hV96, hW98, hR99⟩ := h
    have hW102 := Cor.trans hW90 (cor_m hW98)
    have hR103 : RS σ σx97 n (rwS (σ.2.2.1 118) n 2 t92) := rs_tr hR91 (by have q := hR99; rw [hR91.1] at q; exact q)
    obtain ⟨t104, ht104⟩ : ∃ t : St, (rwS (σ.2.2.1 118) n 2 t92) = t := ⟨_, rfl⟩
    rw [ht104] at hR103
    have ha105 : t104.1 ≤ n := hR103.2.2.2.2.1
    have hte106 := te_p2 (f := (σ.2.2.1 118)) ha105
    refine R_aload_n (pc := 77) dX6_readLine_77 rfl rfl ?_
    refine R_iload (pc := 78) dX6_readLine_78 rfl ?_
    refine R_sipush (pc := 80) (v := 20000) dX6_readLine_80 (by decide) ?_
    refine k_X6_53 (pc := 83) (ge_X6_readNumber _ n t104 v93 20000 hV96 (rs_re hR103)) rfl (c_117 _) (by decide) (Nat.le_refl _) (Nat.le_refl _) (Nat.le_of_ble_eq_true rfl) dX6_readLine_83 (fun y111 w2 h => ?_)
    obtain ⟨σx108, rfl, hV107, hW109, hR110⟩ := h
    have hW113 := Cor.trans hW102 (cor_m hW109)
    obtain ⟨hR110, rfl⟩ := hR110
    have hR114 : RS σ σx108 n (rnS (σ.2.2.1 118) n v93 20000 t104) := rs_tr hR103 (by have q := hR110; rw [hR103.1] at q; exact q)
    obtain ⟨t115, ht115⟩ : ∃ t : St, (rnS (σ.2.2.1 118) n v93 20000 t104) = t := ⟨_, rfl⟩
    rw [ht115] at hR114
    refine R_cv (rnV (σ.2.2.1 118) n v93 20000 t104) (by rw [hR103.1]) ?_
    obtain ⟨v116, hv116⟩ : ∃ t : Int32, (rnV (σ.2.2.1 118) n v93 20000 t104) = t := ⟨_, rfl⟩
    rw [hv116]
    have ha117 : t115.1 ≤ n := hR114.2.2.2.2.1
    have hte118 := te_p2 (f := (σ.2.2.1 118)) ha117
    refine st_8_7_i_i (pc := 86) dX6_readLine_86 ?_
    refine R_goto (pc := 88) 109 dX6_readLine_88 (by decide) ?_
    refine R_aload_n (pc := 109) dX6_readLine_109 rfl rfl ?_
    refine g_X6_24 (pc := 110) (v := .int t115.2) rfl dX6_readLine_110 (c_117 _) (by show some (Value.int (σx108.1 11704)) = _; rw [hR114.2.2.2.2.2.2.2]) ?_
    refine R_iconst (pc := 113) (v := (-1)) dX6_readLine_113 (by decide) ?_
    refine R_icne (pc := 114) 200 dX6_readLine_114 (by decide) (fun b114_119 => ?_) (fun b114_119 => ?_)
    · skip
      exact R_vret (pc := 200) dX6_readLine_200 rfl (Nat.zero_le _) (Nat.zero_le _) ⟨rfl, _, rfl, hV107, hW113, (by rw [(show lnS (σ.2.2.1 118) n st = t115 from by subst ht9; subst ht20; subst hv21; subst ht32; subst ht43; subst hv44; subst ht55; subst ht66; subst hv67; subst ht81; subst ht92; subst hv93; subst ht104; subst ht115; subst hv116; exact lnS_t hB71)]; exact rt_of hR114 rfl rfl rfl rfl rfl), (by rw [(show lnS (σ.2.2.1 118) n st = t115 from by subst ht9; subst ht20; subst hv21; subst ht32; subst ht43; subst hv44; subst ht55; subst ht66; subst hv67; subst ht81; subst ht92; subst hv93; subst ht104; subst ht115; subst hv116; exact lnS_t hB71)]; exact (hR114.2.1 13306 (by decide) (by decide) (by decide)).trans (rsz_f1 b114_119).symm)⟩
    · skip
      refine R_aload_n (pc := 117) dX6_readLine_117 rfl rfl ?_
      refine g_X6_15 (pc := 118) (v := .int (σx108.1 13306)) rfl dX6_readLine_118 (c_133 _) rfl ?_
      refine R_bipush (pc := 121) (v := 8) dX6_readLine_121 (by decide) ?_
      refine R_icge (pc := 123) 200 dX6_readLine_123 (by decide) (fun b123_120 => ?_) (fun b123_120 => ?_)
      · skip
        exact R_vret (pc := 200) dX6_readLine_200 rfl (Nat.zero_le _) (Nat.zero_le _) ⟨rfl, _, rfl, hV107, hW113, (by rw [(show lnS (σ.2.2.1 118) n st = t115 from by subst ht9; subst ht20; subst hv21; subst ht32; subst ht43; subst hv44; subst ht55; subst ht66; subst hv67; subst ht81; subst ht92; subst hv93; subst ht104; subst ht115; subst hv116; exact lnS_t hB71)]; exact rt_of hR114 rfl rfl rfl rfl rfl), (by rw [(show lnS (σ.2.2.1 118) n st = t115 from by subst ht9; subst ht20; subst hv21; subst ht32; subst ht43; subst hv44; subst ht55; subst ht66; subst hv67; subst ht81; subst ht92; subst hv93; subst ht104; subst ht115; subst hv116; exact lnS_t hB71)]; exact (hR114.2.1 13306 (by decide) (by decide) (by decide)).trans (rsz_f2 (Int32.not_lt.mpr (by have q := b123_120; rw [(hR114.2.1 13306 (by decide) (by decide) (by decide))] at q; exact q))).symm)⟩
      · skip
        refine R_aload_n (pc := 126) dX6_readLine_126 rfl rfl ?_
        refine g_X6_65 (pc := 127) (v := .ref 134) rfl dX6_readLine_127 (c_133 _) rfl ?_
        refine R_aload_n (pc := 130) dX6_readLine_130 rfl rfl ?_
        refine g_X6_15 (pc := 131) (v := .int (σx108.1 13306)) rfl dX6_readLine_131 (c_133 _) rfl ?_
        refine R_iload_n (pc := 134) dX6_readLine_134 rfl rfl ?_
        have hx121 : vp_in (σx108.1 13306) 8 := (vp_ti (by have q0 := (nI_toInt (n := t115.1) (by omega)); have q1 := (nI_toInt (n := (tkE (σ.2.2.1 118) n t115.1)) (by omega)); have q2 := (nI_toInt (n := n) (by omega)); have q3 := ti_eq b114_119; have q4 := ti_nle b123_120; have q5 := ti_in (show inR (nI t115.1) 0 160 from (inR_nI (M := 160) (by omega) (by decide))); have q6 := ti_in (show inR (nI (tkE (σ.2.2.1 118) n t115.1)) 0 160 from (inR_nI (M := 160) (by omega) (by decide))); have q7 := ti_in (show inR (nI n) 0 160 from (inR_nI (M := 160) (by omega) (by decide))); have q8 := ti_in (iv_13306 hV107); have z0 : (-1 : Int32).toInt = -1 := (by decide); have z1 : (0 : Int32).toInt = 0 := (by decide); have z2 : (1 : Int32).toInt = 1 := (by decide); have z3 : (13306 : Int32).toInt = 13306 := (by decide); have z4 : (160 : Int32).toInt = 160 := (by decide); have z5 : (8 : Int32).toInt = 8 := (by decide); omega) (by have q0 := (nI_toInt (n := t115.1) (by omega)); have q1 := (nI_toInt (n := (tkE (σ.2.2.1 118) n t115.1)) (by omega)); have q2 := (nI_toInt (n := n) (by omega)); have q3 := ti_eq b114_119; have q4 := ti_nle b123_120; have q5 := ti_in (show inR (nI t115.1) 0 160 from (inR_nI (M := 160) (by omega) (by decide))); have q6 := ti_in (show inR (nI (tkE (σ.2.2.1 118) n t115.1)) 0 160 from (inR_nI (M := 160) (by omega) (by decide))); have q7 := ti_in (show inR (nI n) 0 160 from (inR_nI (M := 160) (by omega) (by decide))); have q8 := ti_in (iv_13306 hV107); have z0 : (-1 : Int32).toInt = -1 := (by decide); have z1 : (0 : Int32).toInt = 0 := (by decide); have z2 : (1 : Int32).toInt = 1 := (by decide); have z3 : (13306 : Int32).toInt = 13306 := (by decide); have z4 : (160 : Int32).toInt = 160 := (by decide); have z5 : (8 : Int32).toInt = 8 := (by decide); omega))
        refine W_iastore (pc := 135) dX6_readLine_135 (c_134 _) hx121 (a_134 _ _) ?_
        have hW122 := cor_sa 134 (upd (σx108.2.2.1 134) (Int32.toNatClampNeg (σx108.1 13306)) v21) hW113 rfl
        refine R_aload_n (pc := 136) dX6_readLine_136 rfl rfl ?_
        refine g_X6_68 (pc := 137) (v := .ref 135) rfl dX6_readLine_137 (c_133 _) rfl ?_
        refine R_aload_n (pc := 140) dX6_readLine_140 rfl rfl ?_
        refine g_X6_15 (pc := 141) (v := .int (σx108.1 13306)) rfl dX6_readLine_141 (c_133 _) rfl ?_
        refine R_iload_n (pc := 144) dX6_readLine_144 rfl rfl ?_
        have hx123 : vp_in (σx108.1 13306) 8 := (vp_ti (by have q0 := (nI_toInt (n := t115.1) (by omega)); have q1 := (nI_toInt (n := (tkE (σ.2.2.1 118) n t115.1)) (by omega)); have q2 := (nI_toInt (n := n) (by omega)); have q3 := ti_eq b114_119; have q4 := ti_nle b123_120; have q5 := ti_in (show inR (nI t115.1) 0 160 from (inR_nI (M := 160) (by omega) (by decide))); have q6 := ti_in (show inR (nI (tkE (σ.2.2.1 118) n t115.1)) 0 160 from (inR_nI (M := 160) (by omega) (by decide))); have q7 := ti_in (show inR (nI n) 0 160 from (inR_nI (M := 160) (by omega) (by decide))); have q8 := ti_in (iv_13306 hV107); have z0 : (-1 : Int32).toInt = -1 := (by decide); have z1 : (0 : Int32).toInt = 0 := (by decide); have z2 : (1 : Int32).toInt = 1 := (by decide); have z3 : (13306 : Int32).toInt = 13306 := (by decide); have z4 : (160 : Int32).toInt = 160 := (by decide); have z5 : (8 : Int32).toInt = 8 := (by decide); omega) (by have q0 := (nI_toInt (n := t115.1) (by omega)); have q1 := (nI_toInt (n := (tkE (σ.2.2.1 118) n t115.1)) (by omega)); have q2 := (nI_toInt (n := n) (by omega)); have q3 := ti_eq b114_119; have q4 := ti_nle b123_120; have q5 := ti_in (show inR (nI t115.1) 0 160 from (inR_nI (M := 160) (by omega) (by decide))); have q6 := ti_in (show inR (nI (tkE (σ.2.2.1 118) n t115.1)) 0 160 from (inR_nI (M := 160) (by omega) (by decide))); have q7 := ti_in (show inR (nI n) 0 160 from (inR_nI (M := 160) (by omega) (by decide))); have q8 := ti_in (iv_13306 hV107); have z0 : (-1 : Int32).toInt = -1 := (by decide); have z1 : (0 : Int32).toInt = 0 := (by decide); have z2 : (1 : Int32).toInt = 1 := (by decide); have z3 : (13306 : Int32).toInt = 13306 := (by decide); have z4 : (160 : Int32).toInt = 160 := (by decide); have z5 : (8 : Int32).toInt = 8 := (by decide); omega))
        refine W_iastore (pc := 145) dX6_readLine_145 (c_135 _) hx123 (a_135 _ _) ?_
        have hW124 := cor_sa 135 (upd ((uA σx108 134 (upd (σx108.2.2.1 134) (Int32.toNatClampNeg (σx108.1 13306)) v21)).2.2.1 135) (Int32.toNatClampNeg (σx108.1 13306)) v44) hW122 rfl
        refine R_aload_n (pc := 146) dX6_readLine_146 rfl rfl ?_
        refine g_X6_71 (pc := 147) (v := .ref 136) rfl dX6_readLine_147 (c_133 _) rfl ?_
        refine R_aload_n (pc := 150) dX6_readLine_150 rfl rfl ?_
        refine g_X6_15 (pc := 151) (v := .int (σx108.1 13306)) rfl dX6_readLine_151 (c_133 _) rfl ?_
        refine R_iload (pc := 154) dX6_readLine_154 rfl ?_
        have hx125 : vp_in (σx108.1 13306) 8 := (vp_ti (by have q0 := (nI_toInt (n := t115.1) (by omega)); have q1 := (nI_toInt (n := (tkE (σ.2.2.1 118) n t115.1)) (by omega)); have q2 := (nI_toInt (n := n) (by omega)); have q3 := ti_eq b114_119; have q4 := ti_nle b123_120; have q5 := ti_in (show inR (nI t115.1) 0 160 from (inR_nI (M := 160) (by omega) (by decide))); have q6 := ti_in (show inR (nI (tkE (σ.2.2.1 118) n t115.1)) 0 160 from (inR_nI (M := 160) (by omega) (by decide))); have q7 := ti_in (show inR (nI n) 0 160 from (inR_nI (M := 160) (by omega) (by decide))); have q8 := ti_in (iv_13306 hV107); have z0 : (-1 : Int32).toInt = -1 := (by decide); have z1 : (0 : Int32).toInt = 0 := (by decide); have z2 : (1 : Int32).toInt = 1 := (by decide); have z3 : (13306 : Int32).toInt = 13306 := (by decide); have z4 : (160 : Int32).toInt = 160 := (by decide); have z5 : (8 : Int32).toInt = 8 := (by decide); omega) (by have q0 := (nI_toInt (n := t115.1) (by omega)); have q1 := (nI_toInt (n := (tkE (σ.2.2.1 118) n t115.1)) (by omega)); have q2 := (nI_toInt (n := n) (by omega)); have q3 := ti_eq b114_119; have q4 := ti_nle b123_120; have q5 := ti_in (show inR (nI t115.1) 0 160 from (inR_nI (M := 160) (by omega) (by decide))); have q6 := ti_in (show inR (nI (tkE (σ.2.2.1 118) n t115.1)) 0 160 from (inR_nI (M := 160) (by omega) (by decide))); have q7 := ti_in (show inR (nI n) 0 160 from (inR_nI (M := 160) (by omega) (by decide))); have q8 := ti_in (iv_13306 hV107); have z0 : (-1 : Int32).toInt = -1 := (by decide); have z1 : (0 : Int32).toInt = 0 := (by decide); have z2 : (1 : Int32).toInt = 1 := (by decide); have z3 : (13306 : Int32).toInt = 13306 := (by decide); have z4 : (160 : Int32).toInt = 160 := (by decide); have z5 : (8 : Int32).toInt = 8 := (by decide); omega))
        refine W_iastore (pc := 156) dX6_readLine_156 (c_136 _) hx125 (a_136 _ _) ?_
        have hW126 := cor_sa 136 (upd ((uA (uA σx108 134 (upd (σx108.2.2.1 134) (Int32.toNatClampNeg (σx108.1 13306)) v21)) 135 (upd ((uA σx108 134 (upd (σx108.2.2.1 134) (Int32.toNatClampNeg (σx108.1 13306)) v21)).2.2.1 135) (Int32.toNatClampNeg (σx108.1 13306)) v44)).2.2.1 136) (Int32.toNatClampNeg (σx108.1 13306)) v67) hW124 rfl
        refine R_aload_n (pc := 157) dX6_readLine_157 rfl rfl ?_
        refine g_X6_74 (pc := 158) (v := .ref 137) rfl dX6_readLine_158 (c_133 _) rfl ?_
        refine R_aload_n (pc := 161) dX6_readLine_161 rfl rfl ?_
        refine g_X6_15 (pc := 162) (v := .int (σx108.1 13306)) rfl dX6_readLine_162 (c_133 _) rfl ?_
        refine R_iload (pc := 165) dX6_readLine_165 rfl ?_
        have hx127 : vp_in (σx108.1 13306) 8 := (vp_ti (by have q0 := (nI_toInt (n := t115.1) (by omega)); have q1 := (nI_toInt (n := (tkE (σ.2.2.1 118) n t115.1)) (by omega)); have q2 := (nI_toInt (n := n) (by omega)); have q3 := ti_eq b114_119; have q4 := ti_nle b123_120; have q5 := ti_in (show inR (nI t115.1) 0 160 from (inR_nI (M := 160) (by omega) (by decide))); have q6 := ti_in (show inR (nI (tkE (σ.2.2.1 118) n t115.1)) 0 160 from (inR_nI (M := 160) (by omega) (by decide))); have q7 := ti_in (show inR (nI n) 0 160 from (inR_nI (M := 160) (by omega) (by decide))); have q8 := ti_in (iv_13306 hV107); have z0 : (-1 : Int32).toInt = -1 := (by decide); have z1 : (0 : Int32).toInt = 0 := (by decide); have z2 : (1 : Int32).toInt = 1 := (by decide); have z3 : (13306 : Int32).toInt = 13306 := (by decide); have z4 : (160 : Int32).toInt = 160 := (by decide); have z5 : (8 : Int32).toInt = 8 := (by decide); omega) (by have q0 := (nI_toInt (n := t115.1) (by omega)); have q1 := (nI_toInt (n := (tkE (σ.2.2.1 118) n t115.1)) (by omega)); have q2 := (nI_toInt (n := n) (by omega)); have q3 := ti_eq b114_119; have q4 := ti_nle b123_120; have q5 := ti_in (show inR (nI t115.1) 0 160 from (inR_nI (M := 160) (by omega) (by decide))); have q6 := ti_in (show inR (nI (tkE (σ.2.2.1 118) n t115.1)) 0 160 from (inR_nI (M := 160) (by omega) (by decide))); have q7 := ti_in (show inR (nI n) 0 160 from (inR_nI (M := 160) (by omega) (by decide))); have q8 := ti_in (iv_13306 hV107); have z0 : (-1 : Int32).toInt = -1 := (by decide); have z1 : (0 : Int32).toInt = 0 := (by decide); have z2 : (1 : Int32).toInt = 1 := (by decide); have z3 : (13306 : Int32).toInt = 13306 := (by decide); have z4 : (160 : Int32).toInt = 160 := (by decide); have z5 : (8 : Int32).toInt = 8 := (by decide); omega))
        refine W_bastore (pc := 167) dX6_readLine_167 (c_137 _) hx127 rfl (a_137 _ _) ?_
        have hW128 := cor_sa 137 (upd ((uA (uA (uA σx108 134 (upd (σx108.2.2.1 134) (Int32.toNatClampNeg (σx108.1 13306)) v21)) 135 (upd ((uA σx108 134 (upd (σx108.2.2.1 134) (Int32.toNatClampNeg (σx108.1 13306)) v21)).2.2.1 135) (Int32.toNatClampNeg (σx108.1 13306)) v44)) 136 (upd ((uA (uA σx108 134 (upd (σx108.2.2.1 134) (Int32.toNatClampNeg (σx108.1 13306)) v21)) 135 (upd ((uA σx108 134 (upd (σx108.2.2.1 134) (Int32.toNatClampNeg (σx108.1 13306)) v21)).2.2.1 135) (Int32.toNatClampNeg (σx108.1 13306)) v44)).2.2.1 136) (Int32.toNatClampNeg (σx108.1 13306)) v67)).2.2.1 137) (Int32.toNatClampNeg (σx108.1 13306)) 1) hW126 rfl
        refine R_aload_n (pc := 168) dX6_readLine_168 rfl rfl ?_
        refine g_X6_78 (pc := 169) (v := .ref 138) rfl dX6_readLine_169 (c_133 _) rfl ?_
        refine R_aload_n (pc := 172) dX6_readLine_172 rfl rfl ?_
        refine g_X6_15 (pc := 173) (v := .int (σx108.1 13306)) rfl dX6_readLine_173 (c_133 _) rfl ?_
        refine R_iload (pc := 176) dX6_readLine_176 rfl ?_
        have hx129 : vp_in (σx108.1 13306) 8 := (vp_ti (by have q0 := (nI_toInt (n := t115.1) (by omega)); have q1 := (nI_toInt (n := (tkE (σ.2.2.1 118) n t115.1)) (by omega)); have q2 := (nI_toInt (n := n) (by omega)); have q3 := ti_eq b114_119; have q4 := ti_nle b123_120; have q5 := ti_in (show inR (nI t115.1) 0 160 from (inR_nI (M := 160) (by omega) (by decide))); have q6 := ti_in (show inR (nI (tkE (σ.2.2.1 118) n t115.1)) 0 160 from (inR_nI (M := 160) (by omega) (by decide))); have q7 := ti_in (show inR (nI n) 0 160 from (inR_nI (M := 160) (by omega) (by decide))); have q8 := ti_in (iv_13306 hV107); have z0 : (-1 : Int32).toInt = -1 := (by decide); have z1 : (0 : Int32).toInt = 0 := (by decide); have z2 : (1 : Int32).toInt = 1 := (by decide); have z3 : (13306 : Int32).toInt = 13306 := (by decide); have z4 : (160 : Int32).toInt = 160 := (by decide); have z5 : (8 : Int32).toInt = 8 := (by decide); omega) (by have q0 := (nI_toInt (n := t115.1) (by omega)); have q1 := (nI_toInt (n := (tkE (σ.2.2.1 118) n t115.1)) (by omega)); have q2 := (nI_toInt (n := n) (by omega)); have q3 := ti_eq b114_119; have q4 := ti_nle b123_120; have q5 := ti_in (show inR (nI t115.1) 0 160 from (inR_nI (M := 160) (by omega) (by decide))); have q6 := ti_in (show inR (nI (tkE (σ.2.2.1 118) n t115.1)) 0 160 from (inR_nI (M := 160) (by omega) (by decide))); have q7 := ti_in (show inR (nI n) 0 160 from (inR_nI (M := 160) (by omega) (by decide))); have q8 := ti_in (iv_13306 hV107); have z0 : (-1 : Int32).toInt = -1 := (by decide); have z1 : (0 : Int32).toInt = 0 := (by decide); have z2 : (1 : Int32).toInt = 1 := (by decide); have z3 : (13306 : Int32).toInt = 13306 := (by decide); have z4 : (160 : Int32).toInt = 160 := (by decide); have z5 : (8 : Int32).toInt = 8 := (by decide); omega))
        refine W_iastore (pc := 178) dX6_readLine_178 (c_138 _) hx129 (a_138 _ _) ?_
        have hW130 := cor_sa 138 (upd ((uA (uA (uA (uA σx108 134 (upd (σx108.2.2.1 134) (Int32.toNatClampNeg (σx108.1 13306)) v21)) 135 (upd ((uA σx108 134 (upd (σx108.2.2.1 134) (Int32.toNatClampNeg (σx108.1 13306)) v21)).2.2.1 135) (Int32.toNatClampNeg (σx108.1 13306)) v44)) 136 (upd ((uA (uA σx108 134 (upd (σx108.2.2.1 134) (Int32.toNatClampNeg (σx108.1 13306)) v21)) 135 (upd ((uA σx108 134 (upd (σx108.2.2.1 134) (Int32.toNatClampNeg (σx108.1 13306)) v21)).2.2.1 135) (Int32.toNatClampNeg (σx108.1 13306)) v44)).2.2.1 136) (Int32.toNatClampNeg (σx108.1 13306)) v67)) 137 (upd ((uA (uA (uA σx108 134 (upd (σx108.2.2.1 134) (Int32.toNatClampNeg (σx108.1 13306)) v21)) 135 (upd ((uA σx108 134 (upd (σx108.2.2.1 134) (Int32.toNatClampNeg (σx108.1 13306)) v21)).2.2.1 135) (Int32.toNatClampNeg (σx108.1 13306)) v44)) 136 (upd ((uA (uA σx108 134 (upd (σx108.2.2.1 134) (Int32.toNatClampNeg (σx108.1 13306)) v21)) 135 (upd ((uA σx108 134 (upd (σx108.2.2.1 134) (Int32.toNatClampNeg (σx108.1 13306)) v21)).2.2.1 135) (Int32.toNatClampNeg (σx108.1 13306)) v44)).2.2.1 136) (Int32.toNatClampNeg (σx108.1 13306)) v67)).2.2.1 137) (Int32.toNatClampNeg (σx108.1 13306)) 1)).2.2.1 138) (Int32.toNatClampNeg (σx108.1 13306)) v93) hW128 rfl
        refine R_aload_n (pc := 179) dX6_readLine_179 rfl rfl ?_
        refine g_X6_81 (pc := 180) (v := .ref 139) rfl dX6_readLine_180 (c_133 _) rfl ?_
        refine R_aload_n (pc := 183) dX6_readLine_183 rfl rfl ?_
        refine g_X6_15 (pc := 184) (v := .int (σx108.1 13306)) rfl dX6_readLine_184 (c_133 _) rfl ?_
        refine R_iload (pc := 187) dX6_readLine_187 rfl ?_
        have hx131 : vp_in (σx108.1 13306) 8 := (vp_ti (by have q0 := (nI_toInt (n := t115.1) (by omega)); have q1 := (nI_toInt (n := (tkE (σ.2.2.1 118) n t115.1)) (by omega)); have q2 := (nI_toInt (n := n) (by omega)); have q3 := ti_eq b114_119; have q4 := ti_nle b123_120; have q5 := ti_in (show inR (nI t115.1) 0 160 from (inR_nI (M := 160) (by omega) (by decide))); have q6 := ti_in (show inR (nI (tkE (σ.2.2.1 118) n t115.1)) 0 160 from (inR_nI (M := 160) (by omega) (by decide))); have q7 := ti_in (show inR (nI n) 0 160 from (inR_nI (M := 160) (by omega) (by decide))); have q8 := ti_in (iv_13306 hV107); have z0 : (-1 : Int32).toInt = -1 := (by decide); have z1 : (0 : Int32).toInt = 0 := (by decide); have z2 : (1 : Int32).toInt = 1 := (by decide); have z3 : (13306 : Int32).toInt = 13306 := (by decide); have z4 : (160 : Int32).toInt = 160 := (by decide); have z5 : (8 : Int32).toInt = 8 := (by decide); omega) (by have q0 := (nI_toInt (n := t115.1) (by omega)); have q1 := (nI_toInt (n := (tkE (σ.2.2.1 118) n t115.1)) (by omega)); have q2 := (nI_toInt (n := n) (by omega)); have q3 := ti_eq b114_119; have q4 := ti_nle b123_120; have q5 := ti_in (show inR (nI t115.1) 0 160 from (inR_nI (M := 160) (by omega) (by decide))); have q6 := ti_in (show inR (nI (tkE (σ.2.2.1 118) n t115.1)) 0 160 from (inR_nI (M := 160) (by omega) (by decide))); have q7 := ti_in (show inR (nI n) 0 160 from (inR_nI (M := 160) (by omega) (by decide))); have q8 := ti_in (iv_13306 hV107); have z0 : (-1 : Int32).toInt = -1 := (by decide); have z1 : (0 : Int32).toInt = 0 := (by decide); have z2 : (1 : Int32).toInt = 1 := (by decide); have z3 : (13306 : Int32).toInt = 13306 := (by decide); have z4 : (160 : Int32).toInt = 160 := (by decide); have z5 : (8 : Int32).toInt = 8 := (by decide); omega))
        refine W_iastore (pc := 189) dX6_readLine_189 (c_139 _) hx131 (a_139 _ _) ?_
        have hW132 := cor_sa 139 (upd ((uA (uA (uA (uA (uA σx108 134 (upd (σx108.2.2.1 134) (Int32.toNatClampNeg (σx108.1 13306)) v21)) 135 (upd ((uA σx108 134 (upd (σx108.2.2.1 134) (Int32.toNatClampNeg (σx108.1 13306)) v21)).2.2.1 135) (Int32.toNatClampNeg (σx108.1 13306)) v44)) 136 (upd ((uA (uA σx108 134 (upd (σx108.2.2.1 134) (Int32.toNatClampNeg (σx108.1 13306)) v21)) 135 (upd ((uA σx108 134 (upd (σx108.2.2.1 134) (Int32.toNatClampNeg (σx108.1 13306)) v21)).2.2.1 135) (Int32.toNatClampNeg (σx108.1 13306)) v44)).2.2.1 136) (Int32.toNatClampNeg (σx108.1 13306)) v67)) 137 (upd ((uA (uA (uA σx108 134 (upd (σx108.2.2.1 134) (Int32.toNatClampNeg (σx108.1 13306)) v21)) 135 (upd ((uA σx108 134 (upd (σx108.2.2.1 134) (Int32.toNatClampNeg (σx108.1 13306)) v21)).2.2.1 135) (Int32.toNatClampNeg (σx108.1 13306)) v44)) 136 (upd ((uA (uA σx108 134 (upd (σx108.2.2.1 134) (Int32.toNatClampNeg (σx108.1 13306)) v21)) 135 (upd ((uA σx108 134 (upd (σx108.2.2.1 134) (Int32.toNatClampNeg (σx108.1 13306)) v21)).2.2.1 135) (Int32.toNatClampNeg (σx108.1 13306)) v44)).2.2.1 136) (Int32.toNatClampNeg (σx108.1 13306)) v67)).2.2.1 137) (Int32.toNatClampNeg (σx108.1 13306)) 1)) 138 (upd ((uA (uA (uA (uA σx108 134 (upd (σx108.2.2.1 134) (Int32.toNatClampNeg (σx108.1 13306)) v21)) 135 (upd ((uA σx108 134 (upd (σx108.2.2.1 134) (Int32.toNatClampNeg (σx108.1 13306)) v21)).2.2.1 135) (Int32.toNatClampNeg (σx108.1 13306)) v44)) 136 (upd ((uA (uA σx108 134 (upd (σx108.2.2.1 134) (Int32.toNatClampNeg (σx108.1 13306)) v21)) 135 (upd ((uA σx108 134 (upd (σx108.2.2.1 134) (Int32.toNatClampNeg (σx108.1 13306)) v21)).2.2.1 135) (Int32.toNatClampNeg (σx108.1 13306)) v44)).2.2.1 136) (Int32.toNatClampNeg (σx108.1 13306)) v67)) 137 (upd ((uA (uA (uA σx108 134 (upd (σx108.2.2.1 134) (Int32.toNatClampNeg (σx108.1 13306)) v21)) 135 (upd ((uA σx108 134 (upd (σx108.2.2.1 134) (Int32.toNatClampNeg (σx108.1 13306)) v21)).2.2.1 135) (Int32.toNatClampNeg (σx108.1 13306)) v44)) 136 (upd ((uA (uA σx108 134 (upd (σx108.2.2.1 134) (Int32.toNatClampNeg (σx108.1 13306)) v21)) 135 (upd ((uA σx108 134 (upd (σx108.2.2.1 134) (Int32.toNatClampNeg (σx108.1 13306)) v21)).2.2.1 135) (Int32.toNatClampNeg (σx108.1 13306)) v44)).2.2.1 136) (Int32.toNatClampNeg (σx108.1 13306)) v67)).2.2.1 137) (Int32.toNatClampNeg (σx108.1 13306)) 1)).2.2.1 138) (Int32.toNatClampNeg (σx108.1 13306)) v93)).2.2.1 139) (Int32.toNatClampNeg (σx108.1 13306)) v116) hW130 rfl
        refine R_aload_n (pc := 190) dX6_readLine_190 rfl rfl ?_
        refine R_dup (pc := 191) dX6_readLine_191 rfl ?_
        refine g_X6_15 (pc := 192) (v := .int (σx108.1 13306)) rfl dX6_readLine_192 (c_133 _) rfl ?_
        refine R_iconst (pc := 195) (v := 1) dX6_readLine_195 (by decide) ?_
        refine R_iadd (pc := 196) dX6_readLine_196 ?_
        have r133 : inR ((σx108.1 13306) + 1) 1 9 := inR_add (show inR (σx108.1 13306) 0 8 from (iv_13306 hV107)) (show inR 1 1 1 from (inR_self _)) (by decide) (by decide)
        have e134 := ti_add (l := 1) (h := 9) (show inR (σx108.1 13306) 0 8 from (iv_13306 hV107)) (show inR 1 1 1 from (inR_self _)) (by decide) (by decide)
        refine p_X6_15 (pc := 197) rfl dX6_readLine_197 (c_133 _) (Nat.le_of_ble_eq_true rfl) rfl rfl (s_133_6 _ _) ?_
        have hV135 := su_13306 hV107 (show inR ((σx108.1 13306) + 1) 0 8 from of_ti (by have q0 := (nI_toInt (n := t115.1) (by omega)); have q1 := (nI_toInt (n := (tkE (σ.2.2.1 118) n t115.1)) (by omega)); have q2 := (nI_toInt (n := n) (by omega)); have q3 := e134; have q4 := ti_eq b114_119; have q5 := ti_nle b123_120; have q6 := ti_in (show inR (nI t115.1) 0 160 from (inR_nI (M := 160) (by omega) (by decide))); have q7 := ti_in (show inR (nI (tkE (σ.2.2.1 118) n t115.1)) 0 160 from (inR_nI (M := 160) (by omega) (by decide))); have q8 := ti_in (show inR (nI n) 0 160 from (inR_nI (M := 160) (by omega) (by decide))); have q9 := ti_in (iv_13306 hV107); have q10 := ti_in r133; have z0 : (-1 : Int32).toInt = -1 := (by decide); have z1 : (0 : Int32).toInt = 0 := (by decide); have z2 : (1 : Int32).toInt = 1 := (by decide); have z3 : (13306 : Int32).toInt = 13306 := (by decide); have z4 : (160 : Int32).toInt = 160 := (by decide); have z5 : (8 : Int32).toInt = 8 := (by decide); have z6 : (9 : Int32).toInt = 9 := (by decide); omega) (by have q0 := (nI_toInt (n := t115.1) (by omega)); have q1 := (nI_toInt (n := (tkE (σ.2.2.1 118) n t115.1)) (by omega)); have q2 := (nI_toInt (n := n) (by omega)); have q3 := e134; have q4 := ti_eq b114_119; have q5 := ti_nle b123_120; have q6 := ti_in (show inR (nI t115.1) 0 160 from (inR_nI (M := 160) (by omega) (by decide))); have q7 := ti_in (show inR (nI (tkE (σ.2.2.1 118) n t115.1)) 0 160 from (inR_nI (M := 160) (by omega) (by decide))); have q8 := ti_in (show inR (nI n) 0 160 from (inR_nI (M := 160) (by omega) (by decide))); have q9 := ti_in (iv_13306 hV107); have q10 := ti_in r133; have z0 : (-1 : Int32).toInt = -1 := (by decide); have z1 : (0 : Int32).toInt = 0 := (by decide); have z2 : (1 : Int32).toInt = 1 := (by decide); have z3 : (13306 : Int32).toInt = 13306 := (by decide); have z4 : (160 : Int32).toInt = 160 := (by decide); have z5 : (8 : Int32).toInt = 8 := (by decide); have z6 : (9 : Int32).toInt = 9 := (by decide); omega))
        have hW136 := cor_si 13306 ((σx108.1 13306) + 1) hW132 rfl
        exact R_vret (pc := 200) dX6_readLine_200 rfl (Nat.zero_le _) (Nat.zero_le _) ⟨rfl, _, rfl, hV135, hW136, (by rw [(show lnS (σ.2.2.1 118) n st = t115 from by subst ht9; subst ht20; subst hv21; subst ht32; subst ht43; subst hv44; subst ht55; subst ht66; subst hv67; subst ht81; subst ht92; subst hv93; subst ht104; subst ht115; subst hv116; exact lnS_t hB71)]; exact rt_of hR114 rfl rfl rfl rfl rfl), (by rw [(show lnS (σ.2.2.1 118) n st = t115 from by subst ht9; subst ht20; subst hv21; subst ht32; subst ht43; subst hv44; subst ht55; subst ht66; subst hv67; subst ht81; subst ht92; subst hv93; subst ht104; subst ht115; subst hv116; exact lnS_t hB71)]; exact (show (uI (uA (uA (uA (uA (uA (uA σx108 134 (upd (σx108.2.2.1 134) (Int32.toNatClampNeg (σx108.1 13306)) v21)) 135 (upd ((uA σx108 134 (upd (σx108.2.2.1 134) (Int32.toNatClampNeg (σx108.1 13306)) v21)).2.2.1 135) (Int32.toNatClampNeg (σx108.1 13306)) v44)) 136 (upd ((uA (uA σx108 134 (upd (σx108.2.2.1 134) (Int32.toNatClampNeg (σx108.1 13306)) v21)) 135 (upd ((uA σx108 134 (upd (σx108.2.2.1 134) (Int32.toNatClampNeg (σx108.1 13306)) v21)).2.2.1 135) (Int32.toNatClampNeg (σx108.1 13306)) v44)).2.2.1 136) (Int32.toNatClampNeg (σx108.1 13306)) v67)) 137 (upd ((uA (uA (uA σx108 134 (upd (σx108.2.2.1 134) (Int32.toNatClampNeg (σx108.1 13306)) v21)) 135 (upd ((uA σx108 134 (upd (σx108.2.2.1 134) (Int32.toNatClampNeg (σx108.1 13306)) v21)).2.2.1 135) (Int32.toNatClampNeg (σx108.1 13306)) v44)) 136 (upd ((uA (uA σx108 134 (upd (σx108.2.2.1 134) (Int32.toNatClampNeg (σx108.1 13306)) v21)) 135 (upd ((uA σx108 134 (upd (σx108.2.2.1 134) (Int32.toNatClampNeg (σx108.1 13306)) v21)).2.2.1 135) (Int32.toNatClampNeg (σx108.1 13306)) v44)).2.2.1 136) (Int32.toNatClampNeg (σx108.1 13306)) v67)).2.2.1 137) (Int32.toNatClampNeg (σx108.1 13306)) 1)) 138 (upd ((uA (uA (uA (uA σx108 134 (upd (σx108.2.2.1 134) (Int32.toNatClampNeg (σx108.1 13306)) v21)) 135 (upd ((uA σx108 134 (upd (σx108.2.2.1 134) (Int32.toNatClampNeg (σx108.1 13306)) v21)).2.2.1 135) (Int32.toNatClampNeg (σx108.1 13306)) v44)) 136 (upd ((uA (uA σx108 134 (upd (σx108.2.2.1 134) (Int32.toNatClampNeg (σx108.1 13306)) v21)) 135 (upd ((uA σx108 134 (upd (σx108.2.2.1 134) (Int32.toNatClampNeg (σx108.1 13306)) v21)).2.2.1 135) (Int32.toNatClampNeg (σx108.1 13306)) v44)).2.2.1 136) (Int32.toNatClampNeg (σx108.1 13306)) v67)) 137 (upd ((uA (uA (uA σx108 134 (upd (σx108.2.2.1 134) (Int32.toNatClampNeg (σx108.1 13306)) v21)) 135 (upd ((uA σx108 134 (upd (σx108.2.2.1 134) (Int32.toNatClampNeg (σx108.1 13306)) v21)).2.2.1 135) (Int32.toNatClampNeg (σx108.1 13306)) v44)) 136 (upd ((uA (uA σx108 134 (upd (σx108.2.2.1 134) (Int32.toNatClampNeg (σx108.1 13306)) v21)) 135 (upd ((uA σx108 134 (upd (σx108.2.2.1 134) (Int32.toNatClampNeg (σx108.1 13306)) v21)).2.2.1 135) (Int32.toNatClampNeg (σx108.1 13306)) v44)).2.2.1 136) (Int32.toNatClampNeg (σx108.1 13306)) v67)).2.2.1 137) (Int32.toNatClampNeg (σx108.1 13306)) 1)).2.2.1 138) (Int32.toNatClampNeg (σx108.1 13306)) v93)) 139 (upd ((uA (uA (uA (uA (uA σx108 134 (upd (σx108.2.2.1 134) (Int32.toNatClampNeg (σx108.1 13306)) v21)) 135 (upd ((uA σx108 134 (upd (σx108.2.2.1 134) (Int32.toNatClampNeg (σx108.1 13306)) v21)).2.2.1 135) (Int32.toNatClampNeg (σx108.1 13306)) v44)) 136 (upd ((uA (uA σx108 134 (upd (σx108.2.2.1 134) (Int32.toNatClampNeg (σx108.1 13306)) v21)) 135 (upd ((uA σx108 134 (upd (σx108.2.2.1 134) (Int32.toNatClampNeg (σx108.1 13306)) v21)).2.2.1 135) (Int32.toNatClampNeg (σx108.1 13306)) v44)).2.2.1 136) (Int32.toNatClampNeg (σx108.1 13306)) v67)) 137 (upd ((uA (uA (uA σx108 134 (upd (σx108.2.2.1 134) (Int32.toNatClampNeg (σx108.1 13306)) v21)) 135 (upd ((uA σx108 134 (upd (σx108.2.2.1 134) (Int32.toNatClampNeg (σx108.1 13306)) v21)).2.2.1 135) (Int32.toNatClampNeg (σx108.1 13306)) v44)) 136 (upd ((uA (uA σx108 134 (upd (σx108.2.2.1 134) (Int32.toNatClampNeg (σx108.1 13306)) v21)) 135 (upd ((uA σx108 134 (upd (σx108.2.2.1 134) (Int32.toNatClampNeg (σx108.1 13306)) v21)).2.2.1 135) (Int32.toNatClampNeg (σx108.1 13306)) v44)).2.2.1 136) (Int32.toNatClampNeg (σx108.1 13306)) v67)).2.2.1 137) (Int32.toNatClampNeg (σx108.1 13306)) 1)) 138 (upd ((uA (uA (uA (uA σx108 134 (upd (σx108.2.2.1 134) (Int32.toNatClampNeg (σx108.1 13306)) v21)) 135 (upd ((uA σx108 134 (upd (σx108.2.2.1 134) (Int32.toNatClampNeg (σx108.1 13306)) v21)).2.2.1 135) (Int32.toNatClampNeg (σx108.1 13306)) v44)) 136 (upd ((uA (uA σx108 134 (upd (σx108.2.2.1 134) (Int32.toNatClampNeg (σx108.1 13306)) v21)) 135 (upd ((uA σx108 134 (upd (σx108.2.2.1 134) (Int32.toNatClampNeg (σx108.1 13306)) v21)).2.2.1 135) (Int32.toNatClampNeg (σx108.1 13306)) v44)).2.2.1 136) (Int32.toNatClampNeg (σx108.1 13306)) v67)) 137 (upd ((uA (uA (uA σx108 134 (upd (σx108.2.2.1 134) (Int32.toNatClampNeg (σx108.1 13306)) v21)) 135 (upd ((uA σx108 134 (upd (σx108.2.2.1 134) (Int32.toNatClampNeg (σx108.1 13306)) v21)).2.2.1 135) (Int32.toNatClampNeg (σx108.1 13306)) v44)) 136 (upd ((uA (uA σx108 134 (upd (σx108.2.2.1 134) (Int32.toNatClampNeg (σx108.1 13306)) v21)) 135 (upd ((uA σx108 134 (upd (σx108.2.2.1 134) (Int32.toNatClampNeg (σx108.1 13306)) v21)).2.2.1 135) (Int32.toNatClampNeg (σx108.1 13306)) v44)).2.2.1 136) (Int32.toNatClampNeg (σx108.1 13306)) v67)).2.2.1 137) (Int32.toNatClampNeg (σx108.1 13306)) 1)).2.2.1 138) (Int32.toNatClampNeg (σx108.1 13306)) v93)).2.2.1 139) (Int32.toNatClampNeg (σx108.1 13306)) v116)) 13306 ((σx108.1 13306) + 1)).1 13306 = σ.1 13306 + 1 from by show σx108.1 13306 + 1 = _; rw [(hR114.2.1 13306 (by decide) (by decide) (by decide))]).trans (rsz_t b114_119 (by have q := (Int32.not_le.mp b123_120); rw [(hR114.2.1 13306 (by decide) (by decide) (by decide))] at q; exact q)).symm)⟩
  · skip
    have hB137 : rdB (σ.2.2.1 118) n t66.1 3 = false := (by have q := h70; rw [hR65.1] at q; exact q)
    refine st_8_5_i_i (pc := 48) dX6_readLine_48 ?_
    refine R_iload (pc := 50) dX6_readLine_50 rfl ?_
    refine R_ifeq (pc := 52) 91 dX6_readLine_52 (by decide) (fun _ => ?_) (fun h => absurd (by decide) h)
    refine R_aload_n (pc := 91) dX6_readLine_91 rfl rfl ?_
    refine R_ldcS (pc := 92) (i := 4) rfl rfl dX6_readLine_92 (adS _ (by decide)) ?_
    refine k_X6_49 (pc := 94) (ge_X6_readWord_4 _ n t66 hV58 (rs_re hR65)) rfl (c_117 _) (by decide) (Nat.le_refl _) (Nat.le_refl _) (Nat.le_of_ble_eq_true rfl) dX6_readLine_94 (fun w2 h => ?_)
    obtain ⟨σx140, rfl, hV139, hW141, hR142⟩ := h
    have hW145 := Cor.trans hW64 (cor_m hW141)
    have hR146 : RS σ σx140 n (rwS (σ.2.2.1 118) n 4 t66) := rs_tr hR65 (by have q := hR142; rw [hR65.1] at q; exact q)
    obtain ⟨t147, ht147⟩ : ∃ t : St, (rwS (σ.2.2.1 118) n 4 t66) = t := ⟨_, rfl⟩
    rw [ht147] at hR146
    have ha148 : t147.1 ≤ n := hR146.2.2.2.2.1
    have hte149 := te_p2 (f := (σ.2.2.1 118)) ha148
    refine R_aload_n (pc := 97) dX6_readLine_97 rfl rfl ?_
    refine R_iconst (pc := 98) (v := 0) dX6_readLine_98 (by decide) ?_
    refine R_iconst (pc := 99) (v := 4) dX6_readLine_99 (by decide) ?_
    refine k_X6_53 (pc := 100) (ge_X6_readNumber _ n t147 0 4 hV139 (rs_re hR146)) rfl (c_117 _) (by decide) (Nat.le_refl _) (Nat.le_refl _) (Nat.le_of_ble_eq_true rfl) dX6_readLine_100 (fun y154 w2 h => ?_)
    obtain ⟨σx151, rfl, hV150, hW152, hR153⟩ := h
    have hW156 := Cor.trans hW145 (cor_m hW152)
    obtain ⟨hR153, rfl⟩ := hR153
    have hR157 : RS σ σx151 n (rnS (σ.2.2.1 118) n 0 4 t147) := rs_tr hR146 (by have q := hR153; rw [hR146.1] at q; exact q)
    obtain ⟨t158, ht158⟩ : ∃ t : St, (rnS (σ.2.2.1 118) n 0 4 t147) = t := ⟨_, rfl⟩
    rw [ht158] at hR157
    refine R_cv (rnV (σ.2.2.1 118) n 0 4 t147) (by rw [hR146.1]) ?_
    obtain ⟨v159, hv159⟩ : ∃ t : Int32, (rnV (σ.2.2.1 118) n 0 4 t147) = t := ⟨_, rfl⟩
    rw [hv159]
    have ha160 : t158.1 ≤ n := hR157.2.2.2.2.1
    have hte161 := te_p2 (f := (σ.2.2.1 118)) ha160
    refine st_8_6_i_i (pc := 103) dX6_readLine_103 ?_
    refine R_iload (pc := 105) dX6_readLine_105 rfl ?_
    refine st_8_7_i_i (pc := 107) dX6_readLine_107 ?_
    refine R_aload_n (pc := 109) dX6_readLine_109 rfl rfl ?_
    refine g_X6_24 (pc := 110) (v := .int t158.2) rfl dX6_readLine_110 (c_117 _) (by show some (Value.int (σx151.1 11704)) = _; rw [hR157.2.2.2.2.2.2.2]) ?_
    refine R_iconst (pc := 113) (v := (-1)) dX6_readLine_113 (by decide) ?_
    refine R_icne (pc := 114) 200 dX6_readLine_114 (by decide) (fun b114_162 => ?_) (fun b114_162 => ?_)
    · skip
      exact R_vret (pc := 200) dX6_readLine_200 rfl (Nat.zero_le _) (Nat.zero_le _) ⟨rfl, _, rfl, hV150, hW156, (by rw [(show lnS (σ.2.2.1 118) n st = t158 from by subst ht9; subst ht20; subst hv21; subst ht32; subst ht43; subst hv44; subst ht55; subst ht66; subst hv67; subst ht147; subst ht158; subst hv159; exact lnS_f hB137)]; exact rt_of hR157 rfl rfl rfl rfl rfl), (by rw [(show lnS (σ.2.2.1 118) n st = t158 from by subst ht9; subst ht20; subst hv21; subst ht32; subst ht43; subst hv44; subst ht55; subst ht66; subst hv67; subst ht147; subst ht158; subst hv159; exact lnS_f hB137)]; exact (hR157.2.1 13306 (by decide) (by decide) (by decide)).trans (rsz_f1 b114_162).symm)⟩
    · skip
      refine R_aload_n (pc := 117) dX6_readLine_117 rfl rfl ?_
      refine g_X6_15 (pc := 118) (v := .int (σx151.1 13306)) rfl dX6_readLine_118 (c_133 _) rfl ?_
      refine R_bipush (pc := 121) (v := 8) dX6_readLine_121 (by decide) ?_
      refine R_icge (pc := 123) 200 dX6_readLine_123 (by decide) (fun b123_163 => ?_) (fun b123_163 => ?_)
      · skip
        exact R_vret (pc := 200) dX6_readLine_200 rfl (Nat.zero_le _) (Nat.zero_le _) ⟨rfl, _, rfl, hV150, hW156, (by rw [(show lnS (σ.2.2.1 118) n st = t158 from by subst ht9; subst ht20; subst hv21; subst ht32; subst ht43; subst hv44; subst ht55; subst ht66; subst hv67; subst ht147; subst ht158; subst hv159; exact lnS_f hB137)]; exact rt_of hR157 rfl rfl rfl rfl rfl), (by rw [(show lnS (σ.2.2.1 118) n st = t158 from by subst ht9; subst ht20; subst hv21; subst ht32; subst ht43; subst hv44; subst ht55; subst ht66; subst hv67; subst ht147; subst ht158; subst hv159; exact lnS_f hB137)]; exact (hR157.2.1 13306 (by decide) (by decide) (by decide)).trans (rsz_f2 (Int32.not_lt.mpr (by have q := b123_163; rw [(hR157.2.1 13306 (by decide) (by decide) (by decide))] at q; exact q))).symm)⟩
      · skip
        refine R_aload_n (pc := 126) dX6_readLine_126 rfl rfl ?_
        refine g_X6_65 (pc := 127) (v := .ref 134) rfl dX6_readLine_127 (c_133 _) rfl ?_
        refine R_aload_n (pc := 130) dX6_readLine_130 rfl rfl ?_
        refine g_X6_15 (pc := 131) (v := .int (σx151.1 13306)) rfl dX6_readLine_131 (c_133 _) rfl ?_
        refine R_iload_n (pc := 134) dX6_readLine_134 rfl rfl ?_
        have hx164 : vp_in (σx151.1 13306) 8 := (vp_ti (by have q0 := (nI_toInt (n := t158.1) (by omega)); have q1 := (nI_toInt (n := (tkE (σ.2.2.1 118) n t158.1)) (by omega)); have q2 := (nI_toInt (n := n) (by omega)); have q3 := ti_eq b114_162; have q4 := ti_nle b123_163; have q5 := ti_in (show inR (nI t158.1) 0 160 from (inR_nI (M := 160) (by omega) (by decide))); have q6 := ti_in (show inR (nI (tkE (σ.2.2.1 118) n t158.1)) 0 160 from (inR_nI (M := 160) (by omega) (by decide))); have q7 := ti_in (show inR (nI n) 0 160 from (inR_nI (M := 160) (by omega) (by decide))); have q8 := ti_in (iv_13306 hV150); have z0 : (-1 : Int32).toInt = -1 := (by decide); have z1 : (0 : Int32).toInt = 0 := (by decide); have z2 : (1 : Int32).toInt = 1 := (by decide); have z3 : (13306 : Int32).toInt = 13306 := (by decide); have z4 : (160 : Int32).toInt = 160 := (by decide); have z5 : (8 : Int32).toInt = 8 := (by decide); omega) (by have q0 := (nI_toInt (n := t158.1) (by omega)); have q1 := (nI_toInt (n := (tkE (σ.2.2.1 118) n t158.1)) (by omega)); have q2 := (nI_toInt (n := n) (by omega)); have q3 := ti_eq b114_162; have q4 := ti_nle b123_163; have q5 := ti_in (show inR (nI t158.1) 0 160 from (inR_nI (M := 160) (by omega) (by decide))); have q6 := ti_in (show inR (nI (tkE (σ.2.2.1 118) n t158.1)) 0 160 from (inR_nI (M := 160) (by omega) (by decide))); have q7 := ti_in (show inR (nI n) 0 160 from (inR_nI (M := 160) (by omega) (by decide))); have q8 := ti_in (iv_13306 hV150); have z0 : (-1 : Int32).toInt = -1 := (by decide); have z1 : (0 : Int32).toInt = 0 := (by decide); have z2 : (1 : Int32).toInt = 1 := (by decide); have z3 : (13306 : Int32).toInt = 13306 := (by decide); have z4 : (160 : Int32).toInt = 160 := (by decide); have z5 : (8 : Int32).toInt = 8 := (by decide); omega))
        refine W_iastore (pc := 135) dX6_readLine_135 (c_134 _) hx164 (a_134 _ _) ?_
        have hW165 := cor_sa 134 (upd (σx151.2.2.1 134) (Int32.toNatClampNeg (σx151.1 13306)) v21) hW156 rfl
        refine R_aload_n (pc := 136) dX6_readLine_136 rfl rfl ?_
        refine g_X6_68 (pc := 137) (v := .ref 135) rfl dX6_readLine_137 (c_133 _) rfl ?_
        refine R_aload_n (pc := 140) dX6_readLine_140 rfl rfl ?_
        refine g_X6_15 (pc := 141) (v := .int (σx151.1 13306)) rfl dX6_readLine_141 (c_133 _) rfl ?_
        refine R_iload_n (pc := 144) dX6_readLine_144 rfl rfl ?_
        have hx166 : vp_in (σx151.1 13306) 8 := (vp_ti (by have q0 := (nI_toInt (n := t158.1) (by omega)); have q1 := (nI_toInt (n := (tkE (σ.2.2.1 118) n t158.1)) (by omega)); have q2 := (nI_toInt (n := n) (by omega)); have q3 := ti_eq b114_162; have q4 := ti_nle b123_163; have q5 := ti_in (show inR (nI t158.1) 0 160 from (inR_nI (M := 160) (by omega) (by decide))); have q6 := ti_in (show inR (nI (tkE (σ.2.2.1 118) n t158.1)) 0 160 from (inR_nI (M := 160) (by omega) (by decide))); have q7 := ti_in (show inR (nI n) 0 160 from (inR_nI (M := 160) (by omega) (by decide))); have q8 := ti_in (iv_13306 hV150); have z0 : (-1 : Int32).toInt = -1 := (by decide); have z1 : (0 : Int32).toInt = 0 := (by decide); have z2 : (1 : Int32).toInt = 1 := (by decide); have z3 : (13306 : Int32).toInt = 13306 := (by decide); have z4 : (160 : Int32).toInt = 160 := (by decide); have z5 : (8 : Int32).toInt = 8 := (by decide); omega) (by have q0 := (nI_toInt (n := t158.1) (by omega)); have q1 := (nI_toInt (n := (tkE (σ.2.2.1 118) n t158.1)) (by omega)); have q2 := (nI_toInt (n := n) (by omega)); have q3 := ti_eq b114_162; have q4 := ti_nle b123_163; have q5 := ti_in (show inR (nI t158.1) 0 160 from (inR_nI (M := 160) (by omega) (by decide))); have q6 := ti_in (show inR (nI (tkE (σ.2.2.1 118) n t158.1)) 0 160 from (inR_nI (M := 160) (by omega) (by decide))); have q7 := ti_in (show inR (nI n) 0 160 from (inR_nI (M := 160) (by omega) (by decide))); have q8 := ti_in (iv_13306 hV150); have z0 : (-1 : Int32).toInt = -1 := (by decide); have z1 : (0 : Int32).toInt = 0 := (by decide); have z2 : (1 : Int32).toInt = 1 := (by decide); have z3 : (13306 : Int32).toInt = 13306 := (by decide); have z4 : (160 : Int32).toInt = 160 := (by decide); have z5 : (8 : Int32).toInt = 8 := (by decide); omega))
        refine W_iastore (pc := 145) dX6_readLine_145 (c_135 _) hx166 (a_135 _ _) ?_
        have hW167 := cor_sa 135 (upd ((uA σx151 134 (upd (σx151.2.2.1 134) (Int32.toNatClampNeg (σx151.1 13306)) v21)).2.2.1 135) (Int32.toNatClampNeg (σx151.1 13306)) v44) hW165 rfl
        refine R_aload_n (pc := 146) dX6_readLine_146 rfl rfl ?_
        refine g_X6_71 (pc := 147) (v := .ref 136) rfl dX6_readLine_147 (c_133 _) rfl ?_
        refine R_aload_n (pc := 150) dX6_readLine_150 rfl rfl ?_
        refine g_X6_15 (pc := 151) (v := .int (σx151.1 13306)) rfl dX6_readLine_151 (c_133 _) rfl ?_
        refine R_iload (pc := 154) dX6_readLine_154 rfl ?_
        have hx168 : vp_in (σx151.1 13306) 8 := (vp_ti (by have q0 := (nI_toInt (n := t158.1) (by omega)); have q1 := (nI_toInt (n := (tkE (σ.2.2.1 118) n t158.1)) (by omega)); have q2 := (nI_toInt (n := n) (by omega)); have q3 := ti_eq b114_162; have q4 := ti_nle b123_163; have q5 := ti_in (show inR (nI t158.1) 0 160 from (inR_nI (M := 160) (by omega) (by decide))); have q6 := ti_in (show inR (nI (tkE (σ.2.2.1 118) n t158.1)) 0 160 from (inR_nI (M := 160) (by omega) (by decide))); have q7 := ti_in (show inR (nI n) 0 160 from (inR_nI (M := 160) (by omega) (by decide))); have q8 := ti_in (iv_13306 hV150); have z0 : (-1 : Int32).toInt = -1 := (by decide); have z1 : (0 : Int32).toInt = 0 := (by decide); have z2 : (1 : Int32).toInt = 1 := (by decide); have z3 : (13306 : Int32).toInt = 13306 := (by decide); have z4 : (160 : Int32).toInt = 160 := (by decide); have z5 : (8 : Int32).toInt = 8 := (by decide); omega) (by have q0 := (nI_toInt (n := t158.1) (by omega)); have q1 := (nI_toInt (n := (tkE (σ.2.2.1 118) n t158.1)) (by omega)); have q2 := (nI_toInt (n := n) (by omega)); have q3 := ti_eq b114_162; have q4 := ti_nle b123_163; have q5 := ti_in (show inR (nI t158.1) 0 160 from (inR_nI (M := 160) (by omega) (by decide))); have q6 := ti_in (show inR (nI (tkE (σ.2.2.1 118) n t158.1)) 0 160 from (inR_nI (M := 160) (by omega) (by decide))); have q7 := ti_in (show inR (nI n) 0 160 from (inR_nI (M := 160) (by omega) (by decide))); have q8 := ti_in (iv_13306 hV150); have z0 : (-1 : Int32).toInt = -1 := (by decide); have z1 : (0 : Int32).toInt = 0 := (by decide); have z2 : (1 : Int32).toInt = 1 := (by decide); have z3 : (13306 : Int32).toInt = 13306 := (by decide); have z4 : (160 : Int32).toInt = 160 := (by decide); have z5 : (8 : Int32).toInt = 8 := (by decide); omega))
        refine W_iastore (pc := 156) dX6_readLine_156 (c_136 _) hx168 (a_136 _ _) ?_
        have hW169 := cor_sa 136 (upd ((uA (uA σx151 134 (upd (σx151.2.2.1 134) (Int32.toNatClampNeg (σx151.1 13306)) v21)) 135 (upd ((uA σx151 134 (upd (σx151.2.2.1 134) (Int32.toNatClampNeg (σx151.1 13306)) v21)).2.2.1 135) (Int32.toNatClampNeg (σx151.1 13306)) v44)).2.2.1 136) (Int32.toNatClampNeg (σx151.1 13306)) v67) hW167 rfl
        refine R_aload_n (pc := 157) dX6_readLine_157 rfl rfl ?_
        refine g_X6_74 (pc := 158) (v := .ref 137) rfl dX6_readLine_158 (c_133 _) rfl ?_
        refine R_aload_n (pc := 161) dX6_readLine_161 rfl rfl ?_
        refine g_X6_15 (pc := 162) (v := .int (σx151.1 13306)) rfl dX6_readLine_162 (c_133 _) rfl ?_
        refine R_iload (pc := 165) dX6_readLine_165 rfl ?_
        have hx170 : vp_in (σx151.1 13306) 8 := (vp_ti (by have q0 := (nI_toInt (n := t158.1) (by omega)); have q1 := (nI_toInt (n := (tkE (σ.2.2.1 118) n t158.1)) (by omega)); have q2 := (nI_toInt (n := n) (by omega)); have q3 := ti_eq b114_162; have q4 := ti_nle b123_163; have q5 := ti_in (show inR (nI t158.1) 0 160 from (inR_nI (M := 160) (by omega) (by decide))); have q6 := ti_in (show inR (nI (tkE (σ.2.2.1 118) n t158.1)) 0 160 from (inR_nI (M := 160) (by omega) (by decide))); have q7 := ti_in (show inR (nI n) 0 160 from (inR_nI (M := 160) (by omega) (by decide))); have q8 := ti_in (iv_13306 hV150); have z0 : (-1 : Int32).toInt = -1 := (by decide); have z1 : (0 : Int32).toInt = 0 := (by decide); have z2 : (1 : Int32).toInt = 1 := (by decide); have z3 : (13306 : Int32).toInt = 13306 := (by decide); have z4 : (160 : Int32).toInt = 160 := (by decide); have z5 : (8 : Int32).toInt = 8 := (by decide); omega) (by have q0 := (nI_toInt (n := t158.1) (by omega)); have q1 := (nI_toInt (n := (tkE (σ.2.2.1 118) n t158.1)) (by omega)); have q2 := (nI_toInt (n := n) (by omega)); have q3 := ti_eq b114_162; have q4 := ti_nle b123_163; have q5 := ti_in (show inR (nI t158.1) 0 160 from (inR_nI (M := 160) (by omega) (by decide))); have q6 := ti_in (show inR (nI (tkE (σ.2.2.1 118) n t158.1)) 0 160 from (inR_nI (M := 160) (by omega) (by decide))); have q7 := ti_in (show inR (nI n) 0 160 from (inR_nI (M := 160) (by omega) (by decide))); have q8 := ti_in (iv_13306 hV150); have z0 : (-1 : Int32).toInt = -1 := (by decide); have z1 : (0 : Int32).toInt = 0 := (by decide); have z2 : (1 : Int32).toInt = 1 := (by decide); have z3 : (13306 : Int32).toInt = 13306 := (by decide); have z4 : (160 : Int32).toInt = 160 := (by decide); have z5 : (8 : Int32).toInt = 8 := (by decide); omega))
        refine W_bastore (pc := 167) dX6_readLine_167 (c_137 _) hx170 rfl (a_137 _ _) ?_
        have hW171 := cor_sa 137 (upd ((uA (uA (uA σx151 134 (upd (σx151.2.2.1 134) (Int32.toNatClampNeg (σx151.1 13306)) v21)) 135 (upd ((uA σx151 134 (upd (σx151.2.2.1 134) (Int32.toNatClampNeg (σx151.1 13306)) v21)).2.2.1 135) (Int32.toNatClampNeg (σx151.1 13306)) v44)) 136 (upd ((uA (uA σx151 134 (upd (σx151.2.2.1 134) (Int32.toNatClampNeg (σx151.1 13306)) v21)) 135 (upd ((uA σx151 134 (upd (σx151.2.2.1 134) (Int32.toNatClampNeg (σx151.1 13306)) v21)).2.2.1 135) (Int32.toNatClampNeg (σx151.1 13306)) v44)).2.2.1 136) (Int32.toNatClampNeg (σx151.1 13306)) v67)).2.2.1 137) (Int32.toNatClampNeg (σx151.1 13306)) 0) hW169 rfl
        refine R_aload_n (pc := 168) dX6_readLine_168 rfl rfl ?_
        refine g_X6_78 (pc := 169) (v := .ref 138) rfl dX6_readLine_169 (c_133 _) rfl ?_
        refine R_aload_n (pc := 172) dX6_readLine_172 rfl rfl ?_
        refine g_X6_15 (pc := 173) (v := .int (σx151.1 13306)) rfl dX6_readLine_173 (c_133 _) rfl ?_
        refine R_iload (pc := 176) dX6_readLine_176 rfl ?_
        have hx172 : vp_in (σx151.1 13306) 8 := (vp_ti (by have q0 := (nI_toInt (n := t158.1) (by omega)); have q1 := (nI_toInt (n := (tkE (σ.2.2.1 118) n t158.1)) (by omega)); have q2 := (nI_toInt (n := n) (by omega)); have q3 := ti_eq b114_162; have q4 := ti_nle b123_163; have q5 := ti_in (show inR (nI t158.1) 0 160 from (inR_nI (M := 160) (by omega) (by decide))); have q6 := ti_in (show inR (nI (tkE (σ.2.2.1 118) n t158.1)) 0 160 from (inR_nI (M := 160) (by omega) (by decide))); have q7 := ti_in (show inR (nI n) 0 160 from (inR_nI (M := 160) (by omega) (by decide))); have q8 := ti_in (iv_13306 hV150); have z0 : (-1 : Int32).toInt = -1 := (by decide); have z1 : (0 : Int32).toInt = 0 := (by decide); have z2 : (1 : Int32).toInt = 1 := (by decide); have z3 : (13306 : Int32).toInt = 13306 := (by decide); have z4 : (160 : Int32).toInt = 160 := (by decide); have z5 : (8 : Int32).toInt = 8 := (by decide); omega) (by have q0 := (nI_toInt (n := t158.1) (by omega)); have q1 := (nI_toInt (n := (tkE (σ.2.2.1 118) n t158.1)) (by omega)); have q2 := (nI_toInt (n := n) (by omega)); have q3 := ti_eq b114_162; have q4 := ti_nle b123_163; have q5 := ti_in (show inR (nI t158.1) 0 160 from (inR_nI (M := 160) (by omega) (by decide))); have q6 := ti_in (show inR (nI (tkE (σ.2.2.1 118) n t158.1)) 0 160 from (inR_nI (M := 160) (by omega) (by decide))); have q7 := ti_in (show inR (nI n) 0 160 from (inR_nI (M := 160) (by omega) (by decide))); have q8 := ti_in (iv_13306 hV150); have z0 : (-1 : Int32).toInt = -1 := (by decide); have z1 : (0 : Int32).toInt = 0 := (by decide); have z2 : (1 : Int32).toInt = 1 := (by decide); have z3 : (13306 : Int32).toInt = 13306 := (by decide); have z4 : (160 : Int32).toInt = 160 := (by decide); have z5 : (8 : Int32).toInt = 8 := (by decide); omega))
        refine W_iastore (pc := 178) dX6_readLine_178 (c_138 _) hx172 (a_138 _ _) ?_
        have hW173 := cor_sa 138 (upd ((uA (uA (uA (uA σx151 134 (upd (σx151.2.2.1 134) (Int32.toNatClampNeg (σx151.1 13306)) v21)) 135 (upd ((uA σx151 134 (upd (σx151.2.2.1 134) (Int32.toNatClampNeg (σx151.1 13306)) v21)).2.2.1 135) (Int32.toNatClampNeg (σx151.1 13306)) v44)) 136 (upd ((uA (uA σx151 134 (upd (σx151.2.2.1 134) (Int32.toNatClampNeg (σx151.1 13306)) v21)) 135 (upd ((uA σx151 134 (upd (σx151.2.2.1 134) (Int32.toNatClampNeg (σx151.1 13306)) v21)).2.2.1 135) (Int32.toNatClampNeg (σx151.1 13306)) v44)).2.2.1 136) (Int32.toNatClampNeg (σx151.1 13306)) v67)) 137 (upd ((uA (uA (uA σx151 134 (upd (σx151.2.2.1 134) (Int32.toNatClampNeg (σx151.1 13306)) v21)) 135 (upd ((uA σx151 134 (upd (σx151.2.2.1 134) (Int32.toNatClampNeg (σx151.1 13306)) v21)).2.2.1 135) (Int32.toNatClampNeg (σx151.1 13306)) v44)) 136 (upd ((uA (uA σx151 134 (upd (σx151.2.2.1 134) (Int32.toNatClampNeg (σx151.1 13306)) v21)) 135 (upd ((uA σx151 134 (upd (σx151.2.2.1 134) (Int32.toNatClampNeg (σx151.1 13306)) v21)).2.2.1 135) (Int32.toNatClampNeg (σx151.1 13306)) v44)).2.2.1 136) (Int32.toNatClampNeg (σx151.1 13306)) v67)).2.2.1 137) (Int32.toNatClampNeg (σx151.1 13306)) 0)).2.2.1 138) (Int32.toNatClampNeg (σx151.1 13306)) v159) hW171 rfl
        refine R_aload_n (pc := 179) dX6_readLine_179 rfl rfl ?_
        refine g_X6_81 (pc := 180) (v := .ref 139) rfl dX6_readLine_180 (c_133 _) rfl ?_
        refine R_aload_n (pc := 183) dX6_readLine_183 rfl rfl ?_
        refine g_X6_15 (pc := 184) (v := .int (σx151.1 13306)) rfl dX6_readLine_184 (c_133 _) rfl ?_
        refine R_iload (pc := 187) dX6_readLine_187 rfl ?_
        have hx174 : vp_in (σx151.1 13306) 8 := (vp_ti (by have q0 := (nI_toInt (n := t158.1) (by omega)); have q1 := (nI_toInt (n := (tkE (σ.2.2.1 118) n t158.1)) (by omega)); have q2 := (nI_toInt (n := n) (by omega)); have q3 := ti_eq b114_162; have q4 := ti_nle b123_163; have q5 := ti_in (show inR (nI t158.1) 0 160 from (inR_nI (M := 160) (by omega) (by decide))); have q6 := ti_in (show inR (nI (tkE (σ.2.2.1 118) n t158.1)) 0 160 from (inR_nI (M := 160) (by omega) (by decide))); have q7 := ti_in (show inR (nI n) 0 160 from (inR_nI (M := 160) (by omega) (by decide))); have q8 := ti_in (iv_13306 hV150); have z0 : (-1 : Int32).toInt = -1 := (by decide); have z1 : (0 : Int32).toInt = 0 := (by decide); have z2 : (1 : Int32).toInt = 1 := (by decide); have z3 : (13306 : Int32).toInt = 13306 := (by decide); have z4 : (160 : Int32).toInt = 160 := (by decide); have z5 : (8 : Int32).toInt = 8 := (by decide); omega) (by have q0 := (nI_toInt (n := t158.1) (by omega)); have q1 := (nI_toInt (n := (tkE (σ.2.2.1 118) n t158.1)) (by omega)); have q2 := (nI_toInt (n := n) (by omega)); have q3 := ti_eq b114_162; have q4 := ti_nle b123_163; have q5 := ti_in (show inR (nI t158.1) 0 160 from (inR_nI (M := 160) (by omega) (by decide))); have q6 := ti_in (show inR (nI (tkE (σ.2.2.1 118) n t158.1)) 0 160 from (inR_nI (M := 160) (by omega) (by decide))); have q7 := ti_in (show inR (nI n) 0 160 from (inR_nI (M := 160) (by omega) (by decide))); have q8 := ti_in (iv_13306 hV150); have z0 : (-1 : Int32).toInt = -1 := (by decide); have z1 : (0 : Int32).toInt = 0 := (by decide); have z2 : (1 : Int32).toInt = 1 := (by decide); have z3 : (13306 : Int32).toInt = 13306 := (by decide); have z4 : (160 : Int32).toInt = 160 := (by decide); have z5 : (8 : Int32).toInt = 8 := (by decide); omega))
        refine W_iastore (pc := 189) dX6_readLine_189 (c_139 _) hx174 (a_139 _ _) ?_
        have hW175 := cor_sa 139 (upd ((uA (uA (uA (uA (uA σx151 134 (upd (σx151.2.2.1 134) (Int32.toNatClampNeg (σx151.1 13306)) v21)) 135 (upd ((uA σx151 134 (upd (σx151.2.2.1 134) (Int32.toNatClampNeg (σx151.1 13306)) v21)).2.2.1 135) (Int32.toNatClampNeg (σx151.1 13306)) v44)) 136 (upd ((uA (uA σx151 134 (upd (σx151.2.2.1 134) (Int32.toNatClampNeg (σx151.1 13306)) v21)) 135 (upd ((uA σx151 134 (upd (σx151.2.2.1 134) (Int32.toNatClampNeg (σx151.1 13306)) v21)).2.2.1 135) (Int32.toNatClampNeg (σx151.1 13306)) v44)).2.2.1 136) (Int32.toNatClampNeg (σx151.1 13306)) v67)) 137 (upd ((uA (uA (uA σx151 134 (upd (σx151.2.2.1 134) (Int32.toNatClampNeg (σx151.1 13306)) v21)) 135 (upd ((uA σx151 134 (upd (σx151.2.2.1 134) (Int32.toNatClampNeg (σx151.1 13306)) v21)).2.2.1 135) (Int32.toNatClampNeg (σx151.1 13306)) v44)) 136 (upd ((uA (uA σx151 134 (upd (σx151.2.2.1 134) (Int32.toNatClampNeg (σx151.1 13306)) v21)) 135 (upd ((uA σx151 134 (upd (σx151.2.2.1 134) (Int32.toNatClampNeg (σx151.1 13306)) v21)).2.2.1 135) (Int32.toNatClampNeg (σx151.1 13306)) v44)).2.2.1 136) (Int32.toNatClampNeg (σx151.1 13306)) v67)).2.2.1 137) (Int32.toNatClampNeg (σx151.1 13306)) 0)) 138 (upd ((uA (uA (uA (uA σx151 134 (upd (σx151.2.2.1 134) (Int32.toNatClampNeg (σx151.1 13306)) v21)) 135 (upd ((uA σx151 134 (upd (σx151.2.2.1 134) (Int32.toNatClampNeg (σx151.1 13306)) v21)).2.2.1 135) (Int32.toNatClampNeg (σx151.1 13306)) v44)) 136 (upd ((uA (uA σx151 134 (upd (σx151.2.2.1 134) (Int32.toNatClampNeg (σx151.1 13306)) v21)) 135 (upd ((uA σx151 134 (upd (σx151.2.2.1 134) (Int32.toNatClampNeg (σx151.1 13306)) v21)).2.2.1 135) (Int32.toNatClampNeg (σx151.1 13306)) v44)).2.2.1 136) (Int32.toNatClampNeg (σx151.1 13306)) v67)) 137 (upd ((uA (uA (uA σx151 134 (upd (σx151.2.2.1 134) (Int32.toNatClampNeg (σx151.1 13306)) v21)) 135 (upd ((uA σx151 134 (upd (σx151.2.2.1 134) (Int32.toNatClampNeg (σx151.1 13306)) v21)).2.2.1 135) (Int32.toNatClampNeg (σx151.1 13306)) v44)) 136 (upd ((uA (uA σx151 134 (upd (σx151.2.2.1 134) (Int32.toNatClampNeg (σx151.1 13306)) v21)) 135 (upd ((uA σx151 134 (upd (σx151.2.2.1 134) (Int32.toNatClampNeg (σx151.1 13306)) v21)).2.2.1 135) (Int32.toNatClampNeg (σx151.1 13306)) v44)).2.2.1 136) (Int32.toNatClampNeg (σx151.1 13306)) v67)).2.2.1 137) (Int32.toNatClampNeg (σx151.1 13306)) 0)).2.2.1 138) (Int32.toNatClampNeg (σx151.1 13306)) v159)).2.2.1 139) (Int32.toNatClampNeg (σx151.1 13306)) v159) hW173 rfl
        refine R_aload_n (pc := 190) dX6_readLine_190 rfl rfl ?_
        refine R_dup (pc := 191) dX6_readLine_191 rfl ?_
        refine g_X6_15 (pc := 192) (v := .int (σx151.1 13306)) rfl dX6_readLine_192 (c_133 _) rfl ?_
        refine R_iconst (pc := 195) (v := 1) dX6_readLine_195 (by decide) ?_
        refine R_iadd (pc := 196) dX6_readLine_196 ?_
        have r176 : inR ((σx151.1 13306) + 1) 1 9 := inR_add (show inR (σx151.1 13306) 0 8 from (iv_13306 hV150)) (show inR 1 1 1 from (inR_self _)) (by decide) (by decide)
        have e177 := ti_add (l := 1) (h := 9) (show inR (σx151.1 13306) 0 8 from (iv_13306 hV150)) (show inR 1 1 1 from (inR_self _)) (by decide) (by decide)
        refine p_X6_15 (pc := 197) rfl dX6_readLine_197 (c_133 _) (Nat.le_of_ble_eq_true rfl) rfl rfl (s_133_6 _ _) ?_
        have hV178 := su_13306 hV150 (show inR ((σx151.1 13306) + 1) 0 8 from of_ti (by have q0 := (nI_toInt (n := t158.1) (by omega)); have q1 := (nI_toInt (n := (tkE (σ.2.2.1 118) n t158.1)) (by omega)); have q2 := (nI_toInt (n := n) (by omega)); have q3 := e177; have q4 := ti_eq b114_162; have q5 := ti_nle b123_163; have q6 := ti_in (show inR (nI t158.1) 0 160 from (inR_nI (M := 160) (by omega) (by decide))); have q7 := ti_in (show inR (nI (tkE (σ.2.2.1 118) n t158.1)) 0 160 from (inR_nI (M := 160) (by omega) (by decide))); have q8 := ti_in (show inR (nI n) 0 160 from (inR_nI (M := 160) (by omega) (by decide))); have q9 := ti_in (iv_13306 hV150); have q10 := ti_in r176; have z0 : (-1 : Int32).toInt = -1 := (by decide); have z1 : (0 : Int32).toInt = 0 := (by decide); have z2 : (1 : Int32).toInt = 1 := (by decide); have z3 : (13306 : Int32).toInt = 13306 := (by decide); have z4 : (160 : Int32).toInt = 160 := (by decide); have z5 : (8 : Int32).toInt = 8 := (by decide); have z6 : (9 : Int32).toInt = 9 := (by decide); omega) (by have q0 := (nI_toInt (n := t158.1) (by omega)); have q1 := (nI_toInt (n := (tkE (σ.2.2.1 118) n t158.1)) (by omega)); have q2 := (nI_toInt (n := n) (by omega)); have q3 := e177; have q4 := ti_eq b114_162; have q5 := ti_nle b123_163; have q6 := ti_in (show inR (nI t158.1) 0 160 from (inR_nI (M := 160) (by omega) (by decide))); have q7 := ti_in (show inR (nI (tkE (σ.2.2.1 118) n t158.1)) 0 160 from (inR_nI (M := 160) (by omega) (by decide))); have q8 := ti_in (show inR (nI n) 0 160 from (inR_nI (M := 160) (by omega) (by decide))); have q9 := ti_in (iv_13306 hV150); have q10 := ti_in r176; have z0 : (-1 : Int32).toInt = -1 := (by decide); have z1 : (0 : Int32).toInt = 0 := (by decide); have z2 : (1 : Int32).toInt = 1 := (by decide); have z3 : (13306 : Int32).toInt = 13306 := (by decide); have z4 : (160 : Int32).toInt = 160 := (by decide); have z5 : (8 : Int32).toInt = 8 := (by decide); have z6 : (9 : Int32).toInt = 9 := (by decide); omega))
        have hW179 := cor_si 13306 ((σx151.1 13306) + 1) hW175 rfl
        exact R_vret (pc := 200) dX6_readLine_200 rfl (Nat.zero_le _) (Nat.zero_le _) ⟨rfl, _, rfl, hV178, hW179, (by rw [(show lnS (σ.2.2.1 118) n st = t158 from by subst ht9; subst ht20; subst hv21; subst ht32; subst ht43; subst hv44; subst ht55; subst ht66; subst hv67; subst ht147; subst ht158; subst hv159; exact lnS_f hB137)]; exact rt_of hR157 rfl rfl rfl rfl rfl), (by rw [(show lnS (σ.2.2.1 118) n st = t158 from by subst ht9; subst ht20; subst hv21; subst ht32; subst ht43; subst hv44; subst ht55; subst ht66; subst hv67; subst ht147; subst ht158; subst hv159; exact lnS_f hB137)]; exact (show (uI (uA (uA (uA (uA (uA (uA σx151 134 (upd (σx151.2.2.1 134) (Int32.toNatClampNeg (σx151.1 13306)) v21)) 135 (upd ((uA σx151 134 (upd (σx151.2.2.1 134) (Int32.toNatClampNeg (σx151.1 13306)) v21)).2.2.1 135) (Int32.toNatClampNeg (σx151.1 13306)) v44)) 136 (upd ((uA (uA σx151 134 (upd (σx151.2.2.1 134) (Int32.toNatClampNeg (σx151.1 13306)) v21)) 135 (upd ((uA σx151 134 (upd (σx151.2.2.1 134) (Int32.toNatClampNeg (σx151.1 13306)) v21)).2.2.1 135) (Int32.toNatClampNeg (σx151.1 13306)) v44)).2.2.1 136) (Int32.toNatClampNeg (σx151.1 13306)) v67)) 137 (upd ((uA (uA (uA σx151 134 (upd (σx151.2.2.1 134) (Int32.toNatClampNeg (σx151.1 13306)) v21)) 135 (upd ((uA σx151 134 (upd (σx151.2.2.1 134) (Int32.toNatClampNeg (σx151.1 13306)) v21)).2.2.1 135) (Int32.toNatClampNeg (σx151.1 13306)) v44)) 136 (upd ((uA (uA σx151 134 (upd (σx151.2.2.1 134) (Int32.toNatClampNeg (σx151.1 13306)) v21)) 135 (upd ((uA σx151 134 (upd (σx151.2.2.1 134) (Int32.toNatClampNeg (σx151.1 13306)) v21)).2.2.1 135) (Int32.toNatClampNeg (σx151.1 13306)) v44)).2.2.1 136) (Int32.toNatClampNeg (σx151.1 13306)) v67)).2.2.1 137) (Int32.toNatClampNeg (σx151.1 13306)) 0)) 138 (upd ((uA (uA (uA (uA σx151 134 (upd (σx151.2.2.1 134) (Int32.toNatClampNeg (σx151.1 13306)) v21)) 135 (upd ((uA σx151 134 (upd (σx151.2.2.1 134) (Int32.toNatClampNeg (σx151.1 13306)) v21)).2.2.1 135) (Int32.toNatClampNeg (σx151.1 13306)) v44)) 136 (upd ((uA (uA σx151 134 (upd (σx151.2.2.1 134) (Int32.toNatClampNeg (σx151.1 13306)) v21)) 135 (upd ((uA σx151 134 (upd (σx151.2.2.1 134) (Int32.toNatClampNeg (σx151.1 13306)) v21)).2.2.1 135) (Int32.toNatClampNeg (σx151.1 13306)) v44)).2.2.1 136) (Int32.toNatClampNeg (σx151.1 13306)) v67)) 137 (upd ((uA (uA (uA σx151 134 (upd (σx151.2.2.1 134) (Int32.toNatClampNeg (σx151.1 13306)) v21)) 135 (upd ((uA σx151 134 (upd (σx151.2.2.1 134) (Int32.toNatClampNeg (σx151.1 13306)) v21)).2.2.1 135) (Int32.toNatClampNeg (σx151.1 13306)) v44)) 136 (upd ((uA (uA σx151 134 (upd (σx151.2.2.1 134) (Int32.toNatClampNeg (σx151.1 13306)) v21)) 135 (upd ((uA σx151 134 (upd (σx151.2.2.1 134) (Int32.toNatClampNeg (σx151.1 13306)) v21)).2.2.1 135) (Int32.toNatClampNeg (σx151.1 13306)) v44)).2.2.1 136) (Int32.toNatClampNeg (σx151.1 13306)) v67)).2.2.1 137) (Int32.toNatClampNeg (σx151.1 13306)) 0)).2.2.1 138) (Int32.toNatClampNeg (σx151.1 13306)) v159)) 139 (upd ((uA (uA (uA (uA (uA σx151 134 (upd (σx151.2.2.1 134) (Int32.toNatClampNeg (σx151.1 13306)) v21)) 135 (upd ((uA σx151 134 (upd (σx151.2.2.1 134) (Int32.toNatClampNeg (σx151.1 13306)) v21)).2.2.1 135) (Int32.toNatClampNeg (σx151.1 13306)) v44)) 136 (upd ((uA (uA σx151 134 (upd (σx151.2.2.1 134) (Int32.toNatClampNeg (σx151.1 13306)) v21)) 135 (upd ((uA σx151 134 (upd (σx151.2.2.1 134) (Int32.toNatClampNeg (σx151.1 13306)) v21)).2.2.1 135) (Int32.toNatClampNeg (σx151.1 13306)) v44)).2.2.1 136) (Int32.toNatClampNeg (σx151.1 13306)) v67)) 137 (upd ((uA (uA (uA σx151 134 (upd (σx151.2.2.1 134) (Int32.toNatClampNeg (σx151.1 13306)) v21)) 135 (upd ((uA σx151 134 (upd (σx151.2.2.1 134) (Int32.toNatClampNeg (σx151.1 13306)) v21)).2.2.1 135) (Int32.toNatClampNeg (σx151.1 13306)) v44)) 136 (upd ((uA (uA σx151 134 (upd (σx151.2.2.1 134) (Int32.toNatClampNeg (σx151.1 13306)) v21)) 135 (upd ((uA σx151 134 (upd (σx151.2.2.1 134) (Int32.toNatClampNeg (σx151.1 13306)) v21)).2.2.1 135) (Int32.toNatClampNeg (σx151.1 13306)) v44)).2.2.1 136) (Int32.toNatClampNeg (σx151.1 13306)) v67)).2.2.1 137) (Int32.toNatClampNeg (σx151.1 13306)) 0)) 138 (upd ((uA (uA (uA (uA σx151 134 (upd (σx151.2.2.1 134) (Int32.toNatClampNeg (σx151.1 13306)) v21)) 135 (upd ((uA σx151 134 (upd (σx151.2.2.1 134) (Int32.toNatClampNeg (σx151.1 13306)) v21)).2.2.1 135) (Int32.toNatClampNeg (σx151.1 13306)) v44)) 136 (upd ((uA (uA σx151 134 (upd (σx151.2.2.1 134) (Int32.toNatClampNeg (σx151.1 13306)) v21)) 135 (upd ((uA σx151 134 (upd (σx151.2.2.1 134) (Int32.toNatClampNeg (σx151.1 13306)) v21)).2.2.1 135) (Int32.toNatClampNeg (σx151.1 13306)) v44)).2.2.1 136) (Int32.toNatClampNeg (σx151.1 13306)) v67)) 137 (upd ((uA (uA (uA σx151 134 (upd (σx151.2.2.1 134) (Int32.toNatClampNeg (σx151.1 13306)) v21)) 135 (upd ((uA σx151 134 (upd (σx151.2.2.1 134) (Int32.toNatClampNeg (σx151.1 13306)) v21)).2.2.1 135) (Int32.toNatClampNeg (σx151.1 13306)) v44)) 136 (upd ((uA (uA σx151 134 (upd (σx151.2.2.1 134) (Int32.toNatClampNeg (σx151.1 13306)) v21)) 135 (upd ((uA σx151 134 (upd (σx151.2.2.1 134) (Int32.toNatClampNeg (σx151.1 13306)) v21)).2.2.1 135) (Int32.toNatClampNeg (σx151.1 13306)) v44)).2.2.1 136) (Int32.toNatClampNeg (σx151.1 13306)) v67)).2.2.1 137) (Int32.toNatClampNeg (σx151.1 13306)) 0)).2.2.1 138) (Int32.toNatClampNeg (σx151.1 13306)) v159)).2.2.1 139) (Int32.toNatClampNeg (σx151.1 13306)) v159)) 13306 ((σx151.1 13306) + 1)).1 13306 = σ.1 13306 + 1 from by show σx151.1 13306 + 1 = _; rw [(hR157.2.1 13306 (by decide) (by decide) (by decide))]).trans (rsz_t b114_162 (by have q := (Int32.not_le.mp b123_163); rw [(hR157.2.1 13306 (by decide) (by decide) (by decide))] at q; exact q)).symm)⟩
set_option maxRecDepth 100000 in
set_option maxHeartbeats 40000000 in
theorem ge_X6_read_126 {G : vG} {l : Launch} (σ : Sg) (n : Nat)  (hI : Inv σ) (hz : σ.1 11701 = nI n) (hn160 : n ≤ 160) : Sp G l yX6_read cX6_read 3 (some .int) 8 0 0 [.ref 117, .ref 126] (WW σ) (QI (fun x w2 => x = rdR (σ.2.2.1 118) n ∧ ∃ σ2, w2 = WW σ2 ∧ Inv σ2 ∧ CoL σ σ2 ∧ σ2.1 12606 = rdZ (σ.2.2.1 118) n)) := by
  refine Sp_of_R [(some (.ref 117)), (some (.ref 126)), none] [none] rfl (by simp) rfl (Nat.le_of_ble_eq_true rfl) ?_
  refine R_aload_n (pc := 0) dX6_read_0 rfl rfl ?_
  refine R_iconst (pc := 1) (v := 0) dX6_read_1 (by decide) ?_
  refine p_X6_15 (pc := 2) rfl dX6_read_2 (c_126 _) (Nat.le_of_ble_eq_true rfl) rfl rfl (s_126_6 _ _) ?_
  have hV1 := su_12606 hI (show inR 0 0 8 from ⟨by decide, by decide⟩)
  have hW2 := cor_si 12606 0 (show CoL σ σ from Cor.rfl' σ) rfl
  refine R_aload_n (pc := 5) dX6_read_5 rfl rfl ?_
  refine R_iconst (pc := 6) (v := 0) dX6_read_6 (by decide) ?_
  refine p_X6_21 (pc := 7) rfl dX6_read_7 (c_117 _) (Nat.le_of_ble_eq_true rfl) rfl rfl (s_117_3 _ _) ?_
  have hW3 := cor_si 11703 0 hW2 rfl
  refine R_aload_n (pc := 10) dX6_read_10 rfl rfl ?_
  refine R_iconst (pc := 11) (v := (-1)) dX6_read_11 (by decide) ?_
  refine p_X6_24 (pc := 12) rfl dX6_read_12 (c_117 _) (Nat.le_of_ble_eq_true rfl) rfl rfl (s_117_4 _ _) ?_
  have hW4 := cor_si 11704 (-1) hW3 rfl
  refine R_aload_n (pc := 15) dX6_read_15 rfl rfl ?_
  refine k_X6_27 (pc := 16) (ge_X6_goOn _ n 0 (-1) hV1 (show (uI (uI (uI σ 12606 0) 11703 0) 11704 (-1)).1 11701 = nI n from hz) hn160 rfl (Nat.zero_le _) rfl) rfl (c_117 _) (by decide) (Nat.le_refl _) (Nat.le_refl _) (Nat.le_of_ble_eq_true rfl) dX6_read_16 (fun w2 h => ?_)
  obtain ⟨σx6, rfl, hV5, hW7, hR8⟩ := h
  have hW10 := Cor.trans hW4 (cor_l hW7)
  have hT9 : RT σ σx6 n (sk (σ.2.2.1 118) n 0, (-1)) := ⟨congrArg (fun q => q.2.1 118) hR8.1, rs_z hR8, hn160, hR8.2.2.2.2.1, hR8.2.2.2.2.2.1, hR8.2.2.2.2.2.2.1, hR8.2.2.2.2.2.2.2⟩
  have hz11 : σx6.1 12606 = 0 := (hR8.2.1 12606 (by decide) (by decide) (by decide)).trans rfl
  have ha12 : (sk (σ.2.2.1 118) n 0, (-1)).1 ≤ n := hT9.2.2.2.1
  have hte13 := te_p2 (f := (σ.2.2.1 118)) ha12
  refine R_aload_n (pc := 19) dX6_read_19 rfl rfl ?_
  refine R_aload_n (pc := 20) dX6_read_20 rfl rfl ?_
  refine k_X6_30 (pc := 21) (ge_X6_readLine_126 _ n (sk (σ.2.2.1 118) n 0, (-1)) hV5 (rt_rs hT9)) rfl (c_117 _) (by decide) (Nat.le_refl _) (Nat.le_refl _) (Nat.le_of_ble_eq_true rfl) dX6_read_21 (fun w2 h => ?_)
  obtain ⟨σx15, rfl, hV14, hW16, hR17, hz19⟩ := h
  have hW20 := Cor.trans hW10 hW16
  have hT18 : RT σ σx15 n (rd1 (σ.2.2.1 118) n) := rt_tr hT9 (by have q := hR17; rw [hT9.1] at q; exact q)
  have hz21 : σx15.1 12606 = (szS (rd1 (σ.2.2.1 118) n).2 0) := (by have q := hz19; rw [hT9.1, hz11] at q; exact q)
  have ha22 : (rd1 (σ.2.2.1 118) n).1 ≤ n := hT18.2.2.2.1
  have hte23 := te_p2 (f := (σ.2.2.1 118)) ha22
  refine R_iconst (pc := 24) (v := 1) dX6_read_24 (by decide) ?_
  refine st_3_2_i_a (pc := 25) dX6_read_25 ?_
  have HL26 : ∀ (q j26 : Nat) (σ26 : Sg), j26 + q = 8 → 1 ≤ j26 → Inv σ26 → CoL σ σ26 → (∃ s : St, RT σ σ26 n s ∧ ∃ a : Int32, σ26.1 12606 = a ∧ (rdL (σ.2.2.1 118) n (8 - j26) s = rdE (σ.2.2.1 118) n ∧ rdC (σ.2.2.1 118) n (8 - j26) s a = rdZ (σ.2.2.1 118) n)) → R G l yX6_read cX6_read 3 (some .int) 8 0 0 (QI (fun x w2 => x = rdR (σ.2.2.1 118) n ∧ ∃ σ2, w2 = WW σ2 ∧ Inv σ2 ∧ CoL σ σ2 ∧ σ2.1 12606 = rdZ (σ.2.2.1 118) n)) 26 [(some (.ref 117)), (some (.ref 126)), (some (.int (nI j26)))] [] (WW σ26) 0 0 := by
    intro q
    induction q with
    | zero =>
      intro j26 σ26 hj hs26 hI26 hC26 hX26_0
      obtain rfl : j26 = 8 := by omega
      obtain ⟨s, hs, a, hza, he⟩ := hX26_0
      have ha24 : s.1 ≤ n := hs.2.2.2.1
      have hte25 := te_p2 (f := (σ.2.2.1 118)) ha24
      refine R_iload_n (pc := 26) dX6_read_26 rfl rfl ?_
      refine R_bipush (pc := 27) (v := 8) dX6_read_27 (by decide) ?_
      refine R_icge (pc := 29) 64 dX6_read_29 (by decide) (fun _ => ?_) (fun h => absurd (by decide) h)
      refine R_aload_n (pc := 64) dX6_read_64 rfl rfl ?_
      refine g_X6_40 (pc := 65) (v := .int (nI s.1)) rfl dX6_read_65 (c_117 _) (by show some (Value.int (σ26.1 11702)) = _; rw [hs.2.2.2.2.1]) ?_
      refine R_aload_n (pc := 68) dX6_read_68 rfl rfl ?_
      refine g_X6_43 (pc := 69) (v := .int (nI n)) rfl dX6_read_69 (c_117 _) (by show some (Value.int (σ26.1 11701)) = _; rw [hs.2.1]) ?_
      refine R_icge (pc := 72) 79 dX6_read_72 (by decide) (fun b72_27 => ?_) (fun b72_27 => ?_)
      · skip
        refine R_aload_n (pc := 79) dX6_read_79 rfl rfl ?_
        refine g_X6_24 (pc := 80) (v := .int s.2) rfl dX6_read_80 (c_117 _) (by show some (Value.int (σ26.1 11704)) = _; rw [hs.2.2.2.2.2.2]) ?_
        exact R_iret (pc := 83) dX6_read_83 rfl rfl (Nat.zero_le _) (Nat.zero_le _) ⟨_, rfl, (rdR_f (rdL_e he (Or.inl rfl)).1 (Nat.not_lt.mpr (nI_les (by omega) (by omega) b72_27))).symm, _, rfl, hI26, hC26, hza.trans (rdL_e he (Or.inl rfl)).2⟩
      · skip
        refine R_aload_n (pc := 75) dX6_read_75 rfl rfl ?_
        refine k_X6_44 (pc := 76) (ge_X6_findWrong _ n s hI26 (rt_rs hs)) rfl (c_117 _) (by decide) (Nat.le_refl _) (Nat.le_refl _) (Nat.le_of_ble_eq_true rfl) dX6_read_76 (fun w2 h => ?_)
        obtain ⟨σx29, rfl, hV28, hW30, hR31⟩ := h
        have hW33 := Cor.trans hC26 (cor_l hW30)
        have hT32 : RT σ σx29 n (fwS s) := rt_tr hs (rs_rt hR31)
        have hz34 : σx29.1 12606 = a := (hR31.2.1 12606 (by decide) (by decide) (by decide)).trans hza
        have ha35 : (fwS s).1 ≤ n := hT32.2.2.2.1
        have hte36 := te_p2 (f := (σ.2.2.1 118)) ha35
        refine R_aload_n (pc := 79) dX6_read_79 rfl rfl ?_
        refine g_X6_24 (pc := 80) (v := .int (fwS s).2) rfl dX6_read_80 (c_117 _) (by show some (Value.int (σx29.1 11704)) = _; rw [hT32.2.2.2.2.2.2]) ?_
        exact R_iret (pc := 83) dX6_read_83 rfl rfl (Nat.zero_le _) (Nat.zero_le _) ⟨_, rfl, (rdR_t (rdL_e he (Or.inl rfl)).1 (nI_lts (by omega) (by omega) (Int32.not_le.mp b72_27))).symm, _, rfl, hV28, hW33, hz34.trans (rdL_e he (Or.inl rfl)).2⟩
    | succ q ih26 =>
      intro j26 σ26 hj hs26 hI26 hC26 hX26_0
      have hrg26 : inR (nI j26) 1 7 := inR_ix hs26 (show j26 < 8 by omega) (by decide) (by decide) (by decide)
      have hlt26 : j26 < 8 := by omega
      obtain ⟨s, hs, a, hza, he⟩ := hX26_0
      have ha37 : s.1 ≤ n := hs.2.2.2.1
      have hte38 := te_p2 (f := (σ.2.2.1 118)) ha37
      refine R_iload_n (pc := 26) dX6_read_26 rfl rfl ?_
      refine R_bipush (pc := 27) (v := 8) dX6_read_27 (by decide) ?_
      refine R_icge (pc := 29) 64 dX6_read_29 (by decide) (fun h => False.elim (by have q1 := ti_le h; have q2 := ti_in (show inR (nI j26) 1 7 from hrg26); have q3 := ti_in (show inR 8 8 8 from (inR_self _)); have z0 : (1 : Int32).toInt = 1 := (by decide);  have z1 : (7 : Int32).toInt = 7 := (by decide);  have z2 : (8 : Int32).toInt = 8 := (by decide); omega)) (fun _ => ?_)
      refine R_aload_n (pc := 32) dX6_read_32 rfl rfl ?_
      refine g_X6_24 (pc := 33) (v := .int s.2) rfl dX6_read_33 (c_117 _) (by show some (Value.int (σ26.1 11704)) = _; rw [hs.2.2.2.2.2.2]) ?_
      refine R_iconst (pc := 36) (v := (-1)) dX6_read_36 (by decide) ?_
      refine R_icne (pc := 37) 64 dX6_read_37 (by decide) (fun b37_40 => ?_) (fun b37_40 => ?_)
      · skip
        refine R_aload_n (pc := 64) dX6_read_64 rfl rfl ?_
        refine g_X6_40 (pc := 65) (v := .int (nI s.1)) rfl dX6_read_65 (c_117 _) (by show some (Value.int (σ26.1 11702)) = _; rw [hs.2.2.2.2.1]) ?_
        refine R_aload_n (pc := 68) dX6_read_68 rfl rfl ?_
        refine g_X6_43 (pc := 69) (v := .int (nI n)) rfl dX6_read_69 (c_117 _) (by show some (Value.int (σ26.1 11701)) = _; rw [hs.2.1]) ?_
        refine R_icge (pc := 72) 79 dX6_read_72 (by decide) (fun b72_41 => ?_) (fun b72_41 => ?_)
        · skip
          refine R_aload_n (pc := 79) dX6_read_79 rfl rfl ?_
          refine g_X6_24 (pc := 80) (v := .int s.2) rfl dX6_read_80 (c_117 _) (by show some (Value.int (σ26.1 11704)) = _; rw [hs.2.2.2.2.2.2]) ?_
          exact R_iret (pc := 83) dX6_read_83 rfl rfl (Nat.zero_le _) (Nat.zero_le _) ⟨_, rfl, (rdR_f (rdL_e he (Or.inr (Or.inl b37_40))).1 (Nat.not_lt.mpr (nI_les (by omega) (by omega) b72_41))).symm, _, rfl, hI26, hC26, hza.trans (rdL_e he (Or.inr (Or.inl b37_40))).2⟩
        · skip
          refine R_aload_n (pc := 75) dX6_read_75 rfl rfl ?_
          refine k_X6_44 (pc := 76) (ge_X6_findWrong _ n s hI26 (rt_rs hs)) rfl (c_117 _) (by decide) (Nat.le_refl _) (Nat.le_refl _) (Nat.le_of_ble_eq_true rfl) dX6_read_76 (fun w2 h => ?_)
          obtain ⟨σx43, rfl, hV42, hW44, hR45⟩ := h
          have hW47 := Cor.trans hC26 (cor_l hW44)
          have hT46 : RT σ σx43 n (fwS s) := rt_tr hs (rs_rt hR45)
          have hz48 : σx43.1 12606 = a := (hR45.2.1 12606 (by decide) (by decide) (by decide)).trans hza
          have ha49 : (fwS s).1 ≤ n := hT46.2.2.2.1
          have hte50 := te_p2 (f := (σ.2.2.1 118)) ha49
          refine R_aload_n (pc := 79) dX6_read_79 rfl rfl ?_
          refine g_X6_24 (pc := 80) (v := .int (fwS s).2) rfl dX6_read_80 (c_117 _) (by show some (Value.int (σx43.1 11704)) = _; rw [hT46.2.2.2.2.2.2]) ?_
          exact R_iret (pc := 83) dX6_read_83 rfl rfl (Nat.zero_le _) (Nat.zero_le _) ⟨_, rfl, (rdR_t (rdL_e he (Or.inr (Or.inl b37_40))).1 (nI_lts (by omega) (by omega) (Int32.not_le.mp b72_41))).symm, _, rfl, hV42, hW47, hz48.trans (rdL_e he (Or.inr (Or.inl b37_40))).2⟩
      · skip
        refine R_aload_n (pc := 40) dX6_read_40 rfl rfl ?_
        refine R_ldcS (pc := 41) (i := 5) rfl rfl dX6_read_41 (adS _ (by decide)) ?_
        refine k_X6_36 (pc := 43) (ge_X6_isAt_5 _ n s hI26 (rt_rs hs)) rfl (c_117 _) (by decide) (Nat.le_refl _) (Nat.le_refl _) (Nat.le_of_ble_eq_true rfl) dX6_read_43 (fun x w2 h => ?_)
        rcases h with ⟨rfl, ⟨h51, rfl⟩ | ⟨h51, rfl⟩⟩
        · skip
          have hB52 : rdB (σ.2.2.1 118) n s.1 5 = true := (by have q := h51; rw [hs.1] at q; exact q)
          refine R_ifeq (pc := 46) 64 dX6_read_46 (by decide) (fun h => absurd h (by decide)) (fun _ => ?_)
          refine R_aload_n (pc := 49) dX6_read_49 rfl rfl ?_
          refine k_X6_27 (pc := 50) (ge_X6_goOn _ n (tkE (σ.2.2.1 118) n s.1) s.2 hI26 hs.2.1 hn160 hs.2.2.2.2.2.1 (te_p hs.2.2.2.1).2.1 hs.2.2.2.2.2.2) rfl (c_117 _) (by decide) (Nat.le_refl _) (Nat.le_refl _) (Nat.le_of_ble_eq_true rfl) dX6_read_50 (fun w2 h => ?_)
          obtain ⟨σx55, rfl, hV54, hW56, hR57⟩ := h
          have hW59 := Cor.trans hC26 (cor_l hW56)
          have hT58 : RT σ σx55 n (sk (σ.2.2.1 118) n (tkE (σ.2.2.1 118) n s.1), s.2) := rt_tr hs (rs_rt (by have q := hR57; rw [hs.1] at q; exact q))
          have hz60 : σx55.1 12606 = a := (hR57.2.1 12606 (by decide) (by decide) (by decide)).trans hza
          have ha61 : (sk (σ.2.2.1 118) n (tkE (σ.2.2.1 118) n s.1), s.2).1 ≤ n := hT58.2.2.2.1
          have hte62 := te_p2 (f := (σ.2.2.1 118)) ha61
          refine R_aload_n (pc := 53) dX6_read_53 rfl rfl ?_
          refine R_aload_n (pc := 54) dX6_read_54 rfl rfl ?_
          refine k_X6_30 (pc := 55) (ge_X6_readLine_126 _ n (sk (σ.2.2.1 118) n (tkE (σ.2.2.1 118) n s.1), s.2) hV54 (rt_rs hT58)) rfl (c_117 _) (by decide) (Nat.le_refl _) (Nat.le_refl _) (Nat.le_of_ble_eq_true rfl) dX6_read_55 (fun w2 h => ?_)
          obtain ⟨σx64, rfl, hV63, hW65, hR66, hz68⟩ := h
          have hW69 := Cor.trans hW59 hW65
          have hT67 : RT σ σx64 n (lnS (σ.2.2.1 118) n (sk (σ.2.2.1 118) n (tkE (σ.2.2.1 118) n s.1), s.2)) := rt_tr hT58 (by have q := hR66; rw [hT58.1] at q; exact q)
          have hz70 : σx64.1 12606 = (szS (lnS (σ.2.2.1 118) n (sk (σ.2.2.1 118) n (tkE (σ.2.2.1 118) n s.1), s.2)).2 a) := (by have q := hz68; rw [hT58.1, hz60] at q; exact q)
          have ha71 : (lnS (σ.2.2.1 118) n (sk (σ.2.2.1 118) n (tkE (σ.2.2.1 118) n s.1), s.2)).1 ≤ n := hT67.2.2.2.1
          have hte72 := te_p2 (f := (σ.2.2.1 118)) ha71
          refine inc_3_2_1_a (pc := 58) dX6_read_58 ?_
          have r73 : inR ((nI j26) + 1) 2 8 := inR_add (show inR (nI j26) 1 7 from hrg26) (show inR 1 1 1 from (inR_self _)) (by decide) (by decide)
          have e74 := ti_add (l := 2) (h := 8) (show inR (nI j26) 1 7 from hrg26) (show inR 1 1 1 from (inR_self _)) (by decide) (by decide)
          refine R_goto (pc := 61) 26 dX6_read_61 (by decide) ?_
          rw [nI_1]
          exact ih26 (j26 + 1) _ (by omega) (by omega) hV63 hW69 ⟨(lnS (σ.2.2.1 118) n (sk (σ.2.2.1 118) n (tkE (σ.2.2.1 118) n s.1), s.2)), hT67, _, hz70, (by have q := rdL_s (q := 8 - (j26 + 1)) (by rw [show 8 - (j26 + 1) + 1 = 8 - j26 by omega]; exact he) b37_40 hB52; exact q)⟩
        · skip
          have hB75 : rdB (σ.2.2.1 118) n s.1 5 = false := (by have q := h51; rw [hs.1] at q; exact q)
          refine R_ifeq (pc := 46) 64 dX6_read_46 (by decide) (fun _ => ?_) (fun h => absurd (by decide) h)
          refine R_aload_n (pc := 64) dX6_read_64 rfl rfl ?_
          refine g_X6_40 (pc := 65) (v := .int (nI s.1)) rfl dX6_read_65 (c_117 _) (by show some (Value.int (σ26.1 11702)) = _; rw [hs.2.2.2.2.1]) ?_
          refine R_aload_n (pc := 68) dX6_read_68 rfl rfl ?_
          refine g_X6_43 (pc := 69) (v := .int (nI n)) rfl dX6_read_69 (c_117 _) (by show some (Value.int (σ26.1 11701)) = _; rw [hs.2.1]) ?_
          refine R_icge (pc := 72) 79 dX6_read_72 (by decide) (fun b72_77 => ?_) (fun b72_77 => ?_)
          · skip
            refine R_aload_n (pc := 79) dX6_read_79 rfl rfl ?_
            refine g_X6_24 (pc := 80) (v := .int s.2) rfl dX6_read_80 (c_117 _) (by show some (Value.int (σ26.1 11704)) = _; rw [hs.2.2.2.2.2.2]) ?_
            exact R_iret (pc := 83) dX6_read_83 rfl rfl (Nat.zero_le _) (Nat.zero_le _) ⟨_, rfl, (rdR_f (rdL_e he (Or.inr (Or.inr hB75))).1 (Nat.not_lt.mpr (nI_les (by omega) (by omega) b72_77))).symm, _, rfl, hI26, hC26, hza.trans (rdL_e he (Or.inr (Or.inr hB75))).2⟩
          · skip
            refine R_aload_n (pc := 75) dX6_read_75 rfl rfl ?_
            refine k_X6_44 (pc := 76) (ge_X6_findWrong _ n s hI26 (rt_rs hs)) rfl (c_117 _) (by decide) (Nat.le_refl _) (Nat.le_refl _) (Nat.le_of_ble_eq_true rfl) dX6_read_76 (fun w2 h => ?_)
            obtain ⟨σx79, rfl, hV78, hW80, hR81⟩ := h
            have hW83 := Cor.trans hC26 (cor_l hW80)
            have hT82 : RT σ σx79 n (fwS s) := rt_tr hs (rs_rt hR81)
            have hz84 : σx79.1 12606 = a := (hR81.2.1 12606 (by decide) (by decide) (by decide)).trans hza
            have ha85 : (fwS s).1 ≤ n := hT82.2.2.2.1
            have hte86 := te_p2 (f := (σ.2.2.1 118)) ha85
            refine R_aload_n (pc := 79) dX6_read_79 rfl rfl ?_
            refine g_X6_24 (pc := 80) (v := .int (fwS s).2) rfl dX6_read_80 (c_117 _) (by show some (Value.int (σx79.1 11704)) = _; rw [hT82.2.2.2.2.2.2]) ?_
            exact R_iret (pc := 83) dX6_read_83 rfl rfl (Nat.zero_le _) (Nat.zero_le _) ⟨_, rfl, (rdR_t (rdL_e he (Or.inr (Or.inr hB75))).1 (nI_lts (by omega) (by omega) (Int32.not_le.mp b72_77))).symm, _, rfl, hV78, hW83, hz84.trans (rdL_e he (Or.inr (Or.inr hB75))).2⟩
  exact HL26 7 1 _ (by omega) (by omega) hV14 hW20 ⟨_, hT18, _, hz21, rfl, rfl⟩
set_option maxRecDepth 100000 in
set_option maxHeartbeats 40000000 in
theorem ge_X6_read_133 {G : vG} {l : Launch} (σ : Sg) (n : Nat)  (hI : Inv σ) (hz : σ.1 11701 = nI n) (hn160 : n ≤ 160) : Sp G l yX6_read cX6_read 3 (some .int) 8 0 0 [.ref 117, .ref 133] (WW σ) (QI (fun x w2 => x = rdR (σ.2.2.1 118) n ∧ ∃ σ2, w2 = WW σ2 ∧ Inv σ2 ∧ CoM σ σ2 ∧ σ2.1 13306 = rdZ (σ.2.2.1 118) n)) := by
  refine Sp_of_R [(some (.ref 117)), (some (.ref 133)), none] [none] rfl (by simp) rfl (Nat.le_of_ble_eq_true rfl) ?_
  refine R_aload_n (pc := 0) dX6_read_0 rfl rfl ?_
  refine R_iconst (pc := 1) (v := 0) dX6_read_1 (by decide) ?_
  refine p_X6_15 (pc := 2) rfl dX6_read_2 (c_133 _) (Nat.le_of_ble_eq_true rfl) rfl rfl (s_133_6 _ _) ?_
  have hV1 := su_13306 hI (show inR 0 0 8 from ⟨by decide, by decide⟩)
  have hW2 := cor_si 13306 0 (show CoM σ σ from Cor.rfl' σ) rfl
  refine R_aload_n (pc := 5) dX6_read_5 rfl rfl ?_
  refine R_iconst (pc := 6) (v := 0) dX6_read_6 (by decide) ?_
  refine p_X6_21 (pc := 7) rfl dX6_read_7 (c_117 _) (Nat.le_of_ble_eq_true rfl) rfl rfl (s_117_3 _ _) ?_
  have hW3 := cor_si 11703 0 hW2 rfl
  refine R_aload_n (pc := 10) dX6_read_10 rfl rfl ?_
  refine R_iconst (pc := 11) (v := (-1)) dX6_read_11 (by decide) ?_
  refine p_X6_24 (pc := 12) rfl dX6_read_12 (c_117 _) (Nat.le_of_ble_eq_true rfl) rfl rfl (s_117_4 _ _) ?_
  have hW4 := cor_si 11704 (-1) hW3 rfl
  refine R_aload_n (pc := 15) dX6_read_15 rfl rfl ?_
  refine k_X6_27 (pc := 16) (ge_X6_goOn _ n 0 (-1) hV1 (show (uI (uI (uI σ 13306 0) 11703 0) 11704 (-1)).1 11701 = nI n from hz) hn160 rfl (Nat.zero_le _) rfl) rfl (c_117 _) (by decide) (Nat.le_refl _) (Nat.le_refl _) (Nat.le_of_ble_eq_true rfl) dX6_read_16 (fun w2 h => ?_)
  obtain ⟨σx6, rfl, hV5, hW7, hR8⟩ := h
  have hW10 := Cor.trans hW4 (cor_m hW7)
  have hT9 : RT σ σx6 n (sk (σ.2.2.1 118) n 0, (-1)) := ⟨congrArg (fun q => q.2.1 118) hR8.1, rs_z hR8, hn160, hR8.2.2.2.2.1, hR8.2.2.2.2.2.1, hR8.2.2.2.2.2.2.1, hR8.2.2.2.2.2.2.2⟩
  have hz11 : σx6.1 13306 = 0 := (hR8.2.1 13306 (by decide) (by decide) (by decide)).trans rfl
  have ha12 : (sk (σ.2.2.1 118) n 0, (-1)).1 ≤ n := hT9.2.2.2.1
  have hte13 := te_p2 (f := (σ.2.2.1 118)) ha12
  refine R_aload_n (pc := 19) dX6_read_19 rfl rfl ?_
  refine R_aload_n (pc := 20) dX6_read_20 rfl rfl ?_
  refine k_X6_30 (pc := 21) (ge_X6_readLine_133 _ n (sk (σ.2.2.1 118) n 0, (-1)) hV5 (rt_rs hT9)) rfl (c_117 _) (by decide) (Nat.le_refl _) (Nat.le_refl _) (Nat.le_of_ble_eq_true rfl) dX6_read_21 (fun w2 h => ?_)
  obtain ⟨σx15, rfl, hV14, hW16, hR17, hz19⟩ := h
  have hW20 := Cor.trans hW10 hW16
  have hT18 : RT σ σx15 n (rd1 (σ.2.2.1 118) n) := rt_tr hT9 (by have q := hR17; rw [hT9.1] at q; exact q)
  have hz21 : σx15.1 13306 = (szS (rd1 (σ.2.2.1 118) n).2 0) := (by have q := hz19; rw [hT9.1, hz11] at q; exact q)
  have ha22 : (rd1 (σ.2.2.1 118) n).1 ≤ n := hT18.2.2.2.1
  have hte23 := te_p2 (f := (σ.2.2.1 118)) ha22
  refine R_iconst (pc := 24) (v := 1) dX6_read_24 (by decide) ?_
  refine st_3_2_i_a (pc := 25) dX6_read_25 ?_
  have HL26 : ∀ (q j26 : Nat) (σ26 : Sg), j26 + q = 8 → 1 ≤ j26 → Inv σ26 → CoM σ σ26 → (∃ s : St, RT σ σ26 n s ∧ ∃ a : Int32, σ26.1 13306 = a ∧ (rdL (σ.2.2.1 118) n (8 - j26) s = rdE (σ.2.2.1 118) n ∧ rdC (σ.2.2.1 118) n (8 - j26) s a = rdZ (σ.2.2.1 118) n)) → R G l yX6_read cX6_read 3 (some .int) 8 0 0 (QI (fun x w2 => x = rdR (σ.2.2.1 118) n ∧ ∃ σ2, w2 = WW σ2 ∧ Inv σ2 ∧ CoM σ σ2 ∧ σ2.1 13306 = rdZ (σ.2.2.1 118) n)) 26 [(some (.ref 117)), (some (.ref 133)), (some (.int (nI j26)))] [] (WW σ26) 0 0 := by
    intro q
    induction q with
    | zero =>
      intro j26 σ26 hj hs26 hI26 hC26 hX26_0
      obtain rfl : j26 = 8 := by omega
      obtain ⟨s, hs, a, hza, he⟩ := hX26_0
      have ha24 : s.1 ≤ n := hs.2.2.2.1
      have hte25 := te_p2 (f := (σ.2.2.1 118)) ha24
      refine R_iload_n (pc := 26) dX6_read_26 rfl rfl ?_
      refine R_bipush (pc := 27) (v := 8) dX6_read_27 (by decide) ?_
      refine R_icge (pc := 29) 64 dX6_read_29 (by decide) (fun _ => ?_) (fun h => absurd (by decide) h)
      refine R_aload_n (pc := 64) dX6_read_64 rfl rfl ?_
      refine g_X6_40 (pc := 65) (v := .int (nI s.1)) rfl dX6_read_65 (c_117 _) (by show some (Value.int (σ26.1 11702)) = _; rw [hs.2.2.2.2.1]) ?_
      refine R_aload_n (pc := 68) dX6_read_68 rfl rfl ?_
      refine g_X6_43 (pc := 69) (v := .int (nI n)) rfl dX6_read_69 (c_117 _) (by show some (Value.int (σ26.1 11701)) = _; rw [hs.2.1]) ?_
      refine R_icge (pc := 72) 79 dX6_read_72 (by decide) (fun b72_27 => ?_) (fun b72_27 => ?_)
      · skip
        refine R_aload_n (pc := 79) dX6_read_79 rfl rfl ?_
        refine g_X6_24 (pc := 80) (v := .int s.2) rfl dX6_read_80 (c_117 _) (by show some (Value.int (σ26.1 11704)) = _; rw [hs.2.2.2.2.2.2]) ?_
        exact R_iret (pc := 83) dX6_read_83 rfl rfl (Nat.zero_le _) (Nat.zero_le _) ⟨_, rfl, (rdR_f (rdL_e he (Or.inl rfl)).1 (Nat.not_lt.mpr (nI_les (by omega) (by omega) b72_27))).symm, _, rfl, hI26, hC26, hza.trans (rdL_e he (Or.inl rfl)).2⟩
      · skip
        refine R_aload_n (pc := 75) dX6_read_75 rfl rfl ?_
        refine k_X6_44 (pc := 76) (ge_X6_findWrong _ n s hI26 (rt_rs hs)) rfl (c_117 _) (by decide) (Nat.le_refl _) (Nat.le_refl _) (Nat.le_of_ble_eq_true rfl) dX6_read_76 (fun w2 h => ?_)
        obtain ⟨σx29, rfl, hV28, hW30, hR31⟩ := h
        have hW33 := Cor.trans hC26 (cor_m hW30)
        have hT32 : RT σ σx29 n (fwS s) := rt_tr hs (rs_rt hR31)
        have hz34 : σx29.1 13306 = a := (hR31.2.1 13306 (by decide) (by decide) (by decide)).trans hza
        have ha35 : (fwS s).1 ≤ n := hT32.2.2.2.1
        have hte36 := te_p2 (f := (σ.2.2.1 118)) ha35
        refine R_aload_n (pc := 79) dX6_read_79 rfl rfl ?_
        refine g_X6_24 (pc := 80) (v := .int (fwS s).2) rfl dX6_read_80 (c_117 _) (by show some (Value.int (σx29.1 11704)) = _; rw [hT32.2.2.2.2.2.2]) ?_
        exact R_iret (pc := 83) dX6_read_83 rfl rfl (Nat.zero_le _) (Nat.zero_le _) ⟨_, rfl, (rdR_t (rdL_e he (Or.inl rfl)).1 (nI_lts (by omega) (by omega) (Int32.not_le.mp b72_27))).symm, _, rfl, hV28, hW33, hz34.trans (rdL_e he (Or.inl rfl)).2⟩
    | succ q ih26 =>
      intro j26 σ26 hj hs26 hI26 hC26 hX26_0
      have hrg26 : inR (nI j26) 1 7 := inR_ix hs26 (show j26 < 8 by omega) (by decide) (by decide) (by decide)
      have hlt26 : j26 < 8 := by omega
      obtain ⟨s, hs, a, hza, he⟩ := hX26_0
      have ha37 : s.1 ≤ n := hs.2.2.2.1
      have hte38 := te_p2 (f := (σ.2.2.1 118)) ha37
      refine R_iload_n (pc := 26) dX6_read_26 rfl rfl ?_
      refine R_bipush (pc := 27) (v := 8) dX6_read_27 (by decide) ?_
      refine R_icge (pc := 29) 64 dX6_read_29 (by decide) (fun h => False.elim (by have q1 := ti_le h; have q2 := ti_in (show inR (nI j26) 1 7 from hrg26); have q3 := ti_in (show inR 8 8 8 from (inR_self _)); have z0 : (1 : Int32).toInt = 1 := (by decide);  have z1 : (7 : Int32).toInt = 7 := (by decide);  have z2 : (8 : Int32).toInt = 8 := (by decide); omega)) (fun _ => ?_)
      refine R_aload_n (pc := 32) dX6_read_32 rfl rfl ?_
      refine g_X6_24 (pc := 33) (v := .int s.2) rfl dX6_read_33 (c_117 _) (by show some (Value.int (σ26.1 11704)) = _; rw [hs.2.2.2.2.2.2]) ?_
      refine R_iconst (pc := 36) (v := (-1)) dX6_read_36 (by decide) ?_
      refine R_icne (pc := 37) 64 dX6_read_37 (by decide) (fun b37_40 => ?_) (fun b37_40 => ?_)
      · skip
        refine R_aload_n (pc := 64) dX6_read_64 rfl rfl ?_
        refine g_X6_40 (pc := 65) (v := .int (nI s.1)) rfl dX6_read_65 (c_117 _) (by show some (Value.int (σ26.1 11702)) = _; rw [hs.2.2.2.2.1]) ?_
        refine R_aload_n (pc := 68) dX6_read_68 rfl rfl ?_
        refine g_X6_43 (pc := 69) (v := .int (nI n)) rfl dX6_read_69 (c_117 _) (by show some (Value.int (σ26.1 11701)) = _; rw [hs.2.1]) ?_
        refine R_icge (pc := 72) 79 dX6_read_72 (by decide) (fun b72_41 => ?_) (fun b72_41 => ?_)
        · skip
          refine R_aload_n (pc := 79) dX6_read_79 rfl rfl ?_
          refine g_X6_24 (pc := 80) (v := .int s.2) rfl dX6_read_80 (c_117 _) (by show some (Value.int (σ26.1 11704)) = _; rw [hs.2.2.2.2.2.2]) ?_
          exact R_iret (pc := 83) dX6_read_83 rfl rfl (Nat.zero_le _) (Nat.zero_le _) ⟨_, rfl, (rdR_f (rdL_e he (Or.inr (Or.inl b37_40))).1 (Nat.not_lt.mpr (nI_les (by omega) (by omega) b72_41))).symm, _, rfl, hI26, hC26, hza.trans (rdL_e he (Or.inr (Or.inl b37_40))).2⟩
        · skip
          refine R_aload_n (pc := 75) dX6_read_75 rfl rfl ?_
          refine k_X6_44 (pc := 76) (ge_X6_findWrong _ n s hI26 (rt_rs hs)) rfl (c_117 _) (by decide) (Nat.le_refl _) (Nat.le_refl _) (Nat.le_of_ble_eq_true rfl) dX6_read_76 (fun w2 h => ?_)
          obtain ⟨σx43, rfl, hV42, hW44, hR45⟩ := h
          have hW47 := Cor.trans hC26 (cor_m hW44)
          have hT46 : RT σ σx43 n (fwS s) := rt_tr hs (rs_rt hR45)
          have hz48 : σx43.1 13306 = a := (hR45.2.1 13306 (by decide) (by decide) (by decide)).trans hza
          have ha49 : (fwS s).1 ≤ n := hT46.2.2.2.1
          have hte50 := te_p2 (f := (σ.2.2.1 118)) ha49
          refine R_aload_n (pc := 79) dX6_read_79 rfl rfl ?_
          refine g_X6_24 (pc := 80) (v := .int (fwS s).2) rfl dX6_read_80 (c_117 _) (by show some (Value.int (σx43.1 11704)) = _; rw [hT46.2.2.2.2.2.2]) ?_
          exact R_iret (pc := 83) dX6_read_83 rfl rfl (Nat.zero_le _) (Nat.zero_le _) ⟨_, rfl, (rdR_t (rdL_e he (Or.inr (Or.inl b37_40))).1 (nI_lts (by omega) (by omega) (Int32.not_le.mp b72_41))).symm, _, rfl, hV42, hW47, hz48.trans (rdL_e he (Or.inr (Or.inl b37_40))).2⟩
      · skip
        refine R_aload_n (pc := 40) dX6_read_40 rfl rfl ?_
        refine R_ldcS (pc := 41) (i := 5) rfl rfl dX6_read_41 (adS _ (by decide)) ?_
        refine k_X6_36 (pc := 43) (ge_X6_isAt_5 _ n s hI26 (rt_rs hs)) rfl (c_117 _) (by decide) (Nat.le_refl _) (Nat.le_refl _) (Nat.le_of_ble_eq_true rfl) dX6_read_43 (fun x w2 h => ?_)
        rcases h with ⟨rfl, ⟨h51, rfl⟩ | ⟨h51, rfl⟩⟩
        · skip
          have hB52 : rdB (σ.2.2.1 118) n s.1 5 = true := (by have q := h51; rw [hs.1] at q; exact q)
          refine R_ifeq (pc := 46) 64 dX6_read_46 (by decide) (fun h => absurd h (by decide)) (fun _ => ?_)
          refine R_aload_n (pc := 49) dX6_read_49 rfl rfl ?_
          refine k_X6_27 (pc := 50) (ge_X6_goOn _ n (tkE (σ.2.2.1 118) n s.1) s.2 hI26 hs.2.1 hn160 hs.2.2.2.2.2.1 (te_p hs.2.2.2.1).2.1 hs.2.2.2.2.2.2) rfl (c_117 _) (by decide) (Nat.le_refl _) (Nat.le_refl _) (Nat.le_of_ble_eq_true rfl) dX6_read_50 (fun w2 h => ?_)
          obtain ⟨σx55, rfl, hV54, hW56, hR57⟩ := h
          have hW59 := Cor.trans hC26 (cor_m hW56)
          have hT58 : RT σ σx55 n (sk (σ.2.2.1 118) n (tkE (σ.2.2.1 118) n s.1), s.2) := rt_tr hs (rs_rt (by have q := hR57; rw [hs.1] at q; exact q))
          have hz60 : σx55.1 13306 = a := (hR57.2.1 13306 (by decide) (by decide) (by decide)).trans hza
          have ha61 : (sk (σ.2.2.1 118) n (tkE (σ.2.2.1 118) n s.1), s.2).1 ≤ n := hT58.2.2.2.1
          have hte62 := te_p2 (f := (σ.2.2.1 118)) ha61
          refine R_aload_n (pc := 53) dX6_read_53 rfl rfl ?_
          refine R_aload_n (pc := 54) dX6_read_54 rfl rfl ?_
          refine k_X6_30 (pc := 55) (ge_X6_readLine_133 _ n (sk (σ.2.2.1 118) n (tkE (σ.2.2.1 118) n s.1), s.2) hV54 (rt_rs hT58)) rfl (c_117 _) (by decide) (Nat.le_refl _) (Nat.le_refl _) (Nat.le_of_ble_eq_true rfl) dX6_read_55 (fun w2 h => ?_)
          obtain ⟨σx64, rfl, hV63, hW65, hR66, hz68⟩ := h
          have hW69 := Cor.trans hW59 hW65
          have hT67 : RT σ σx64 n (lnS (σ.2.2.1 118) n (sk (σ.2.2.1 118) n (tkE (σ.2.2.1 118) n s.1), s.2)) := rt_tr hT58 (by have q := hR66; rw [hT58.1] at q; exact q)
          have hz70 : σx64.1 13306 = (szS (lnS (σ.2.2.1 118) n (sk (σ.2.2.1 118) n (tkE (σ.2.2.1 118) n s.1), s.2)).2 a) := (by have q := hz68; rw [hT58.1, hz60] at q; exact q)
          have ha71 : (lnS (σ.2.2.1 118) n (sk (σ.2.2.1 118) n (tkE (σ.2.2.1 118) n s.1), s.2)).1 ≤ n := hT67.2.2.2.1
          have hte72 := te_p2 (f := (σ.2.2.1 118)) ha71
          refine inc_3_2_1_a (pc := 58) dX6_read_58 ?_
          have r73 : inR ((nI j26) + 1) 2 8 := inR_add (show inR (nI j26) 1 7 from hrg26) (show inR 1 1 1 from (inR_self _)) (by decide) (by decide)
          have e74 := ti_add (l := 2) (h := 8) (show inR (nI j26) 1 7 from hrg26) (show inR 1 1 1 from (inR_self _)) (by decide) (by decide)
          refine R_goto (pc := 61) 26 dX6_read_61 (by decide) ?_
          rw [nI_1]
          exact ih26 (j26 + 1) _ (by omega) (by omega) hV63 hW69 ⟨(lnS (σ.2.2.1 118) n (sk (σ.2.2.1 118) n (tkE (σ.2.2.1 118) n s.1), s.2)), hT67, _, hz70, (by have q := rdL_s (q := 8 - (j26 + 1)) (by rw [show 8 - (j26 + 1) + 1 = 8 - j26 by omega]; exact he) b37_40 hB52; exact q)⟩
        · skip
          have hB75 : rdB (σ.2.2.1 118) n s.1 5 = false := (by have q := h51; rw [hs.1] at q; exact q)
          refine R_ifeq (pc := 46) 64 dX6_read_46 (by decide) (fun _ => ?_) (fun h => absurd (by decide) h)
          refine R_aload_n (pc := 64) dX6_read_64 rfl rfl ?_
          refine g_X6_40 (pc := 65) (v := .int (nI s.1)) rfl dX6_read_65 (c_117 _) (by show some (Value.int (σ26.1 11702)) = _; rw [hs.2.2.2.2.1]) ?_
          refine R_aload_n (pc := 68) dX6_read_68 rfl rfl ?_
          refine g_X6_43 (pc := 69) (v := .int (nI n)) rfl dX6_read_69 (c_117 _) (by show some (Value.int (σ26.1 11701)) = _; rw [hs.2.1]) ?_
          refine R_icge (pc := 72) 79 dX6_read_72 (by decide) (fun b72_77 => ?_) (fun b72_77 => ?_)
          · skip
            refine R_aload_n (pc := 79) dX6_read_79 rfl rfl ?_
            refine g_X6_24 (pc := 80) (v := .int s.2) rfl dX6_read_80 (c_117 _) (by show some (Value.int (σ26.1 11704)) = _; rw [hs.2.2.2.2.2.2]) ?_
            exact R_iret (pc := 83) dX6_read_83 rfl rfl (Nat.zero_le _) (Nat.zero_le _) ⟨_, rfl, (rdR_f (rdL_e he (Or.inr (Or.inr hB75))).1 (Nat.not_lt.mpr (nI_les (by omega) (by omega) b72_77))).symm, _, rfl, hI26, hC26, hza.trans (rdL_e he (Or.inr (Or.inr hB75))).2⟩
          · skip
            refine R_aload_n (pc := 75) dX6_read_75 rfl rfl ?_
            refine k_X6_44 (pc := 76) (ge_X6_findWrong _ n s hI26 (rt_rs hs)) rfl (c_117 _) (by decide) (Nat.le_refl _) (Nat.le_refl _) (Nat.le_of_ble_eq_true rfl) dX6_read_76 (fun w2 h => ?_)
            obtain ⟨σx79, rfl, hV78, hW80, hR81⟩ := h
            have hW83 := Cor.trans hC26 (cor_m hW80)
            have hT82 : RT σ σx79 n (fwS s) := rt_tr hs (rs_rt hR81)
            have hz84 : σx79.1 13306 = a := (hR81.2.1 13306 (by decide) (by decide) (by decide)).trans hza
            have ha85 : (fwS s).1 ≤ n := hT82.2.2.2.1
            have hte86 := te_p2 (f := (σ.2.2.1 118)) ha85
            refine R_aload_n (pc := 79) dX6_read_79 rfl rfl ?_
            refine g_X6_24 (pc := 80) (v := .int (fwS s).2) rfl dX6_read_80 (c_117 _) (by show some (Value.int (σx79.1 11704)) = _; rw [hT82.2.2.2.2.2.2]) ?_
            exact R_iret (pc := 83) dX6_read_83 rfl rfl (Nat.zero_le _) (Nat.zero_le _) ⟨_, rfl, (rdR_t (rdL_e he (Or.inr (Or.inr hB75))).1 (nI_lts (by omega) (by omega) (Int32.not_le.mp b72_77))).symm, _, rfl, hV78, hW83, hz84.trans (rdL_e he (Or.inr (Or.inr hB75))).2⟩
  exact HL26 7 1 _ (by omega) (by omega) hV14 hW20 ⟨_, hT18, _, hz21, rfl, rfl⟩
