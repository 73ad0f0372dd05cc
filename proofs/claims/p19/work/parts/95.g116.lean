/-! methods on any state that keeps the invariant -/
/-! steps of the reference's reader -/
theorem lcz {a b : Int64} : lg_cmp a b = 0 ↔ a = b := by
  unfold lg_cmp
  constructor
  · intro h
    by_cases h1 : a > b
    · rw [if_pos h1] at h; exact absurd h (by decide)
    · rw [if_neg h1] at h
      by_cases h2 : a = b
      · exact h2
      · rw [if_neg h2] at h; exact absurd h (by decide)
  · intro h
    subst h
    rw [if_neg (Int64.lt_irrefl), if_pos rfl]
theorem mq_f {f r : Nat → Int32} {n : Nat} {c v : Int32} {σ : Sg} (h : mQs f r n c σ) : mQs f r n c (uI σ 14044 v) := ⟨h.1, h.2.1, h.2.2.1, h.2.2.2.1, h.2.2.2.2⟩
theorem mt_f {f : Nat → Int32} {n s : Nat} {v : Int32} {σ : Sg} (h : MT f n s σ) : MT f n s (uI σ 14044 v) := ⟨h.1, h.2.1, h.2.2.1, h.2.2.2⟩
theorem mq_c {f r : Nat → Int32} {n : Nat} {c v v2 : Int32} {σ : Sg} (e : v = v2) (h : mQs f r n c σ) : mQs f r n v2 (uI σ 14045 v) := ⟨h.1, h.2.1, h.2.2.1, e, h.2.2.2.2⟩
theorem mq_a {f r : Nat → Int32} {n i j : Nat} {c v v2 : Int32} {σ : Sg} (h : mQs f r n c σ) (hi : i = j) (hv : v = v2) : mQs f (upd r j v2) n c (uA σ 171 (upd (σ.2.2.1 171) i v)) := by
  refine ⟨h.1, h.2.1, ?_, h.2.2.2.1, h.2.2.2.2⟩
  show upd (σ.2.2.1 171) i v = upd r j v2
  rw [h.2.2.1, hi, hv]
theorem rdB_of {b : Bool} {p : Prop} (h : p ↔ b = true) (hp : ¬ p) : b = false := by
  cases b
  · rfl
  · exact absurd (h.mpr rfl) hp
theorem fw_1 (s : Nat) : fwS (s, -1) = (s, nI s) := rfl
theorem nI_ne1 {s : Nat} (h : s ≤ 160) : ¬ nI s = -1 := by
  intro e
  have := congrArg Int32.toInt e
  rw [nI_toInt (by omega)] at this
  have z : (-1 : Int32).toInt = -1 := by decide
  omega
theorem st_w {f : Nat → Int32} {n k : Nat} {st : St} (h : ¬ st.2 = -1) : rwS f n k st = st := by
  rw [rw_f1 h]
  unfold fwS
  rw [decide_eq_false h]; rfl
theorem st_n {f : Nat → Int32} {n : Nat} {lo hi : Int32} {st : St} (h : ¬ st.2 = -1) : rnS f n lo hi st = st := by
  rw [(rn_f1 h).1]
  unfold fwS
  rw [decide_eq_false h]; rfl
/-! what a line says -/
def lnP (f : Nat → Int32) (n : Nat) (st : St) : Int32 := rnV f n 0 4 (ln1 f n st)
def lnU (f : Nat → Int32) (n : Nat) (st : St) : Int32 := rnV f n (lnF f n st) 99 (ln5 f n st)
def lnQ (f : Nat → Int32) (n : Nat) (st : St) : Int32 := rnV f n 0 4 (lnB7 f n st)
def lnH (f : Nat → Int32) (n : Nat) (st : St) : Int32 := rnV f n (lnL f n st) 20000 (lnD9 f n st)
def LnC (r : Nat → Int32) (m : Nat) (f : Nat → Int32) (n : Nat) (st : St) : Prop := r (6 * m) = lnP f n st ∧ r (6 * m + 1) = lnF f n st ∧ r (6 * m + 2) = lnU f n st ∧ (rdB f n (ln6 f n st).1 3 = true ∧ r (6 * m + 3) = 1 ∧ r (6 * m + 4) = lnL f n st ∧ r (6 * m + 5) = lnH f n st ∨ rdB f n (ln6 f n st).1 3 = false ∧ r (6 * m + 3) = 0 ∧ r (6 * m + 4) = lnQ f n st)
/-- where line i begins -/
def stI (f : Nat → Int32) (n : Nat) : Nat → St
  | 0 => (sk f n 0, -1)
  | k + 1 => (sk f n (tkE f n (lnS f n (stI f n k)).1), (lnS f n (stI f n k)).2)
def RC (r f : Nat → Int32) (n : Nat) : Prop := ∀ i : Nat, i < (rdZ f n).toNatClampNeg → LnC r i f n (stI f n i)
theorem lc_keep {r r2 f : Nat → Int32} {n m i : Nat} {st : St} (h : LnC r i f n st) (ho : ∀ q : Nat, q < 6 * m ∨ 6 * m + 6 ≤ q → r2 q = r q) (hi : i < m) : LnC r2 i f n st := by
  unfold LnC
  rw [ho (6 * i) (by omega), ho (6 * i + 1) (by omega), ho (6 * i + 2) (by omega), ho (6 * i + 3) (by omega), ho (6 * i + 4) (by omega), ho (6 * i + 5) (by omega)]
  exact h
/-! a line that fails -/
theorem lx_6 {f : Nat → Int32} {n : Nat} {st t : St} (h : ln6 f n st = t) (ht : ¬ t.2 = -1) : lnS f n st = t := by
  have h6 : ¬ (ln6 f n st).2 = -1 := by rw [h]; exact ht
  cases hB : rdB f n (ln6 f n st).1 3
  · rw [lnS_f hB]
    have e7 : lnB7 f n st = t := (show rwS f n 4 (ln6 f n st) = t from (st_w h6).trans h)
    exact (show rnS f n 0 4 (lnB7 f n st) = t by rw [e7]; exact st_n ht)
  · rw [lnS_t hB]
    have e7 : lnD7 f n st = t := (show rwS f n 3 (ln6 f n st) = t from (st_w h6).trans h)
    have e8 : lnD8 f n st = t := (show rnS f n 0 20000 (lnD7 f n st) = t by rw [e7]; exact st_n ht)
    have e9 : lnD9 f n st = t := (show rwS f n 2 (lnD8 f n st) = t by rw [e8]; exact st_w ht)
    exact (show rnS f n (lnL f n st) 20000 (lnD9 f n st) = t by rw [e9]; exact st_n ht)
theorem lx_5 {f : Nat → Int32} {n : Nat} {st t : St} (h : ln5 f n st = t) (ht : ¬ t.2 = -1) : lnS f n st = t := lx_6 (by show rnS f n (lnF f n st) 99 (ln5 f n st) = t; rw [h]; exact st_n ht) ht
theorem lx_4 {f : Nat → Int32} {n : Nat} {st t : St} (h : ln4 f n st = t) (ht : ¬ t.2 = -1) : lnS f n st = t := lx_5 (by show rwS f n 2 (ln4 f n st) = t; rw [h]; exact st_w ht) ht
theorem lx_3 {f : Nat → Int32} {n : Nat} {st t : St} (h : ln3 f n st = t) (ht : ¬ t.2 = -1) : lnS f n st = t := lx_4 (by show rnS f n 1 99 (ln3 f n st) = t; rw [h]; exact st_n ht) ht
theorem lx_2 {f : Nat → Int32} {n : Nat} {st t : St} (h : ln2 f n st = t) (ht : ¬ t.2 = -1) : lnS f n st = t := lx_3 (by show rwS f n 1 (ln2 f n st) = t; rw [h]; exact st_w ht) ht
theorem lx_1 {f : Nat → Int32} {n : Nat} {st t : St} (h : ln1 f n st = t) (ht : ¬ t.2 = -1) : lnS f n st = t := lx_2 (by show rnS f n 0 4 (ln1 f n st) = t; rw [h]; exact st_n ht) ht
theorem lx_B8 {f : Nat → Int32} {n : Nat} {st t : St} (hB : rdB f n (ln6 f n st).1 3 = false) (h : lnB8 f n st = t) : lnS f n st = t := (lnS_f hB).trans h
theorem lx_B7 {f : Nat → Int32} {n : Nat} {st t : St} (hB : rdB f n (ln6 f n st).1 3 = false) (h : lnB7 f n st = t) (ht : ¬ t.2 = -1) : lnS f n st = t := lx_B8 hB (by show rnS f n 0 4 (lnB7 f n st) = t; rw [h]; exact st_n ht)
theorem lx_D10 {f : Nat → Int32} {n : Nat} {st t : St} (hB : rdB f n (ln6 f n st).1 3 = true) (h : lnD10 f n st = t) : lnS f n st = t := (lnS_t hB).trans h
theorem lx_D9 {f : Nat → Int32} {n : Nat} {st t : St} (hB : rdB f n (ln6 f n st).1 3 = true) (h : lnD9 f n st = t) (ht : ¬ t.2 = -1) : lnS f n st = t := lx_D10 hB (by show rnS f n (lnL f n st) 20000 (lnD9 f n st) = t; rw [h]; exact st_n ht)
theorem lx_D8 {f : Nat → Int32} {n : Nat} {st t : St} (hB : rdB f n (ln6 f n st).1 3 = true) (h : lnD8 f n st = t) (ht : ¬ t.2 = -1) : lnS f n st = t := lx_D9 hB (by show rwS f n 2 (lnD8 f n st) = t; rw [h]; exact st_w ht) ht
theorem hlo_of {a lo hi d : Int32} (h : inB a lo hi = true) (h0 : (0 : Int32) ≤ lo) : inB (-1) a d = false := by
  refine inB_f (fun q => ?_)
  have r1 := ti_in (inB_r h)
  have r2 := ti_le h0
  have r3 := ti_in q
  have z : (-1 : Int32).toInt = -1 := by decide
  have z0 : (0 : Int32).toInt = 0 := by decide
  omega
/-! the whole text -/
theorem rdR_x {f : Nat → Int32} {n q : Nat} {st : St} {a b : Int32} (h : rdL f n q st = rdE f n ∧ rdC f n q st a = b) (ht : ¬ st.2 = -1) : rdR f n = st.2 := by
  have e := (rdL_e h (Or.inr (Or.inl ht))).1
  by_cases h1 : st.1 < n
  · rw [rdR_t e h1]
    unfold fwS
    rw [decide_eq_false ht]; rfl
  · exact rdR_f e h1
theorem szs_1 {m : Nat} (hm : m < 8) : szS (-1) (nI m) = nI (m + 1) := by
  rw [rsz_t rfl ((nI_ltI (a := m) (b := 8) (by omega) (by omega)).mpr hm), nI_1]
set_option maxRecDepth 100000 in
set_option maxHeartbeats 40000000 in
theorem ge_X9_fails {G : vG} {l : Launch} (σ : Sg)  (hI : Inv σ) : Sp G l yX9_fails cX9_fails 1 (some .boolean) 0 0 0 [.ref 140] (WW σ) (QI (fun x w2 => x = 0 ∧ ∃ σ2, w2 = WW σ2 ∧ Inv σ2 ∧ Cor σ σ2 ∧ σ2 = uI σ 14044 (σ.1 14040))) := by
  refine Sp_of_R [(some (.ref 140))] [] rfl (by simp) rfl (Nat.le_of_ble_eq_true rfl) ?_
  refine R_aload_n (pc := 0) dX9_fails_0 rfl rfl ?_
  refine R_aload_n (pc := 1) dX9_fails_1 rfl rfl ?_
  refine g_X9_260 (pc := 2) (v := .int (σ.1 14040)) rfl dX9_fails_2 (c_140 _) rfl ?_
  refine p_X9_282 (pc := 5) rfl dX9_fails_5 (c_140 _) (Nat.le_of_ble_eq_true rfl) rfl rfl (s_140_44 _ _) ?_
  have hW1 := cor_si 14044 (σ.1 14040) (show Cor σ σ from Cor.rfl' σ) rfl
  refine R_iconst (pc := 8) (v := 0) dX9_fails_8 (by decide) ?_
  exact R_iret (pc := 9) dX9_fails_9 rfl rfl (Nat.zero_le _) (Nat.zero_le _) ⟨_, rfl, rfl, _, rfl, hI, hW1, rfl⟩
set_option maxRecDepth 100000 in
set_option maxHeartbeats 40000000 in
theorem ge_X9_isWord {G : vG} {l : Launch} (σ : Sg) (f r : Nat → Int32) (n : Nat) (c : Int32) (p : Nat) (w : Int64)  (hI : Inv σ) (hQ : mQs f r n c σ) (hp : σ.1 14039 = nI p) (hpn : p ≤ n) : Sp G l yX9_isWord cX9_isWord 3 (some .boolean) 2 0 0 [.ref 140, .long w] (WW σ) (QI (fun x w2 => ∃ σ2, w2 = WW σ2 ∧ Inv σ2 ∧ Cor σ σ2 ∧ mQs f r n c σ2 ∧ MT f n (sk f n p) σ2 ∧ (x = 1 ∧ σ2.2.1 14041 = w ∨ x = 0 ∧ ¬ σ2.2.1 14041 = w ∧ σ2.1 14044 = nI (sk f n p)))) := by
  refine Sp_of_R [(some (.ref 140)), (some (.long w)), none] [] rfl (by simp) rfl (Nat.le_of_ble_eq_true rfl) ?_
  have hn : n ≤ 160 := hQ.2.2.2.2
  refine R_aload_n (pc := 0) dX9_isWord_0 rfl rfl ?_
  refine k_X9_285 (pc := 1) (ge_X9_nextToken _ f r n c p hI hQ hp hpn) rfl (c_140 _) (by decide) (Nat.le_refl _) (Nat.le_refl _) (Nat.le_of_ble_eq_true rfl) dX9_isWord_1 (fun w2 h => ?_)
  obtain ⟨σx2, rfl, hV1, hW3, hQ4, hM5⟩ := h
  have hW6 := Cor.trans (show Cor σ σ from Cor.rfl' σ) hW3
  refine R_aload_n (pc := 4) dX9_isWord_4 rfl rfl ?_
  refine g_X9_271 (pc := 5) (v := .long (σx2.2.1 14041)) rfl dX9_isWord_5 (c_140 _) rfl ?_
  refine R_lload_n (pc := 8) dX9_isWord_8 rfl rfl ?_
  refine R_lcmp (pc := 9) dX9_isWord_9 ?_
  refine R_ifeq (pc := 10) 20 dX9_isWord_10 (by decide) (fun b10_7 => ?_) (fun b10_7 => ?_)
  · skip
    refine R_iconst (pc := 20) (v := 1) dX9_isWord_20 (by decide) ?_
    refine R_goto (pc := 21) 25 dX9_isWord_21 (by decide) ?_
    exact R_iret (pc := 25) dX9_isWord_25 rfl rfl (Nat.zero_le _) (Nat.zero_le _) ⟨_, rfl, _, rfl, hV1, hW6, hQ4, hM5, Or.inl ⟨rfl, lcz.mp b10_7⟩⟩
  · skip
    refine R_aload_n (pc := 13) dX9_isWord_13 rfl rfl ?_
    refine k_X9_288 (pc := 14) (ge_X9_fails _ hV1) rfl (c_140 _) (by decide) (Nat.le_refl _) (Nat.le_refl _) (Nat.le_of_ble_eq_true rfl) dX9_isWord_14 (fun x w2 h => ?_)
    obtain ⟨rfl, _, rfl, hV8, hW9, rfl⟩ := h
    have hW10 := Cor.trans hW6 hW9
    refine R_ifeq (pc := 17) 24 dX9_isWord_17 (by decide) (fun _ => ?_) (fun h => absurd (by decide) h)
    refine R_iconst (pc := 24) (v := 0) dX9_isWord_24 (by decide) ?_
    exact R_iret (pc := 25) dX9_isWord_25 rfl rfl (Nat.zero_le _) (Nat.zero_le _) ⟨_, rfl, _, rfl, hV8, hW10, mq_f hQ4, mt_f hM5, Or.inr ⟨rfl, (fun e => b10_7 (lcz.mpr e)), hM5.2.1⟩⟩
set_option maxRecDepth 100000 in
set_option maxHeartbeats 40000000 in
theorem ge_X9_isNumber {G : vG} {l : Launch} (σ : Sg) (f r : Nat → Int32) (n : Nat) (c : Int32) (p : Nat) (a b d : Int32)  (hI : Inv σ) (hQ : mQs f r n c σ) (hp : σ.1 14039 = nI p) (hpn : p ≤ n) (ha : inR a 0 47) (hlo : inB (-1) b d = false) : Sp G l yX9_isNumber cX9_isNumber 4 (some .boolean) 2 0 0 [.ref 140, .int a, .int b, .int d] (WW σ) (QI (fun x w2 => ∃ σ2, w2 = WW σ2 ∧ Inv σ2 ∧ Cor σ σ2 ∧ σ2.1 14039 = nI (tkE f n (sk f n p)) ∧ (x = 1 ∧ inB (nu f n (sk f n p)) b d = true ∧ mQs f (upd r (Int32.toNatClampNeg a) (nu f n (sk f n p))) n c σ2 ∨ x = 0 ∧ inB (nu f n (sk f n p)) b d = false ∧ mQs f r n c σ2 ∧ σ2.1 14044 = nI (sk f n p)))) := by
  refine Sp_of_R [(some (.ref 140)), (some (.int a)), (some (.int b)), (some (.int d))] [] rfl (by simp) rfl (Nat.le_of_ble_eq_true rfl) ?_
  have hn : n ≤ 160 := hQ.2.2.2.2
  refine R_aload_n (pc := 0) dX9_isNumber_0 rfl rfl ?_
  refine k_X9_285 (pc := 1) (ge_X9_nextToken _ f r n c p hI hQ hp hpn) rfl (c_140 _) (by decide) (Nat.le_refl _) (Nat.le_refl _) (Nat.le_of_ble_eq_true rfl) dX9_isNumber_1 (fun w2 h => ?_)
  obtain ⟨σx2, rfl, hV1, hW3, hQ4, hM5⟩ := h
  have hW6 := Cor.trans (show Cor σ σ from Cor.rfl' σ) hW3
  refine R_aload_n (pc := 4) dX9_isNumber_4 rfl rfl ?_
  refine g_X9_271 (pc := 5) (v := .long (σx2.2.1 14041)) rfl dX9_isNumber_5 (c_140 _) rfl ?_
  refine R_ldc2 (pc := 8) w_1212c dX9_isNumber_8 ?_
  refine R_lcmp (pc := 11) dX9_isNumber_11 ?_
  refine R_ifne (pc := 12) 27 dX9_isNumber_12 (by decide) (fun b12_7 => ?_) (fun b12_7 => ?_)
  · skip
    refine R_aload_n (pc := 27) dX9_isNumber_27 rfl rfl ?_
    refine k_X9_288 (pc := 28) (ge_X9_fails _ hV1) rfl (c_140 _) (by decide) (Nat.le_refl _) (Nat.le_refl _) (Nat.le_of_ble_eq_true rfl) dX9_isNumber_28 (fun x w2 h => ?_)
    obtain ⟨rfl, _, rfl, hV8, hW9, rfl⟩ := h
    have hW10 := Cor.trans hW6 hW9
    exact R_iret (pc := 31) dX9_isNumber_31 rfl rfl (Nat.zero_le _) (Nat.zero_le _) ⟨_, rfl, _, rfl, hV8, hW10, hM5.1, Or.inr ⟨rfl, (by rw [hM5.2.2.2.2.2.2.2 (fun e => b12_7 (lcz.mpr e))]; exact hlo), mq_f hQ4, hM5.2.1⟩⟩
  · skip
    refine R_aload_n (pc := 15) dX9_isNumber_15 rfl rfl ?_
    refine g_X9_266 (pc := 16) (v := .int (σx2.1 14043)) rfl dX9_isNumber_16 (c_140 _) rfl ?_
    refine R_iload_n (pc := 19) dX9_isNumber_19 rfl rfl ?_
    refine R_iload_n (pc := 20) dX9_isNumber_20 rfl rfl ?_
    refine k_X9_124 (pc := 21) (sp_X9_in _ _ _ _) rfl (by decide) (Nat.le_refl _) (Nat.le_refl _) (Nat.le_of_ble_eq_true rfl) dX9_isNumber_21 (fun x w2 h => ?_)
    rcases h with ⟨rfl, ⟨h11, rfl⟩ | ⟨h11, rfl⟩⟩
    · skip
      refine R_ifne (pc := 24) 32 dX9_isNumber_24 (by decide) (fun _ => ?_) (fun h => absurd h (by decide))
      refine R_aload_n (pc := 32) dX9_isNumber_32 rfl rfl ?_
      refine g_X9_111 (pc := 33) (v := .ref 171) rfl dX9_isNumber_33 (c_140 _) rfl ?_
      refine R_iload_n (pc := 36) dX9_isNumber_36 rfl rfl ?_
      refine R_aload_n (pc := 37) dX9_isNumber_37 rfl rfl ?_
      refine g_X9_266 (pc := 38) (v := .int (σx2.1 14043)) rfl dX9_isNumber_38 (c_140 _) rfl ?_
      have hx13 : vp_in a 48 := (vp_of_inR ha (by decide))
      refine W_iastore (pc := 41) dX9_isNumber_41 (c_171 _) hx13 (a_171 _ _) ?_
      have hW14 := cor_sa 171 (upd (σx2.2.2.1 171) (Int32.toNatClampNeg a) (σx2.1 14043)) hW6 rfl
      refine R_iconst (pc := 42) (v := 1) dX9_isNumber_42 (by decide) ?_
      exact R_iret (pc := 43) dX9_isNumber_43 rfl rfl (Nat.zero_le _) (Nat.zero_le _) ⟨_, rfl, _, rfl, hV1, hW14, hM5.1, Or.inl ⟨rfl, (by have q := inB_t h11; rw [(hM5.2.2.2.2.2.2.1 (lcz.mp b12_7))] at q; exact q), mq_a hQ4 rfl (hM5.2.2.2.2.2.2.1 (lcz.mp b12_7))⟩⟩
    · skip
      refine R_ifne (pc := 24) 32 dX9_isNumber_24 (by decide) (fun h => absurd (by decide) h) (fun _ => ?_)
      refine R_aload_n (pc := 27) dX9_isNumber_27 rfl rfl ?_
      refine k_X9_288 (pc := 28) (ge_X9_fails _ hV1) rfl (c_140 _) (by decide) (Nat.le_refl _) (Nat.le_refl _) (Nat.le_of_ble_eq_true rfl) dX9_isNumber_28 (fun x w2 h => ?_)
      obtain ⟨rfl, _, rfl, hV16, hW17, rfl⟩ := h
      have hW18 := Cor.trans hW6 hW17
      exact R_iret (pc := 31) dX9_isNumber_31 rfl rfl (Nat.zero_le _) (Nat.zero_le _) ⟨_, rfl, _, rfl, hV16, hW18, hM5.1, Or.inr ⟨rfl, (by have q := inB_f h11; rw [(hM5.2.2.2.2.2.2.1 (lcz.mp b12_7))] at q; exact q), mq_f hQ4, hM5.2.1⟩⟩
