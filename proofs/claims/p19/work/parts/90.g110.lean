/-! methods on any state that keeps the invariant -/
/-! THE TEXT, token by token: what both sides read -/
def skF (f : Nat → Int32) (n : Nat) : Nat → Nat → Nat
  | 0, i => i
  | q + 1, i => if i < n ∧ f i = 32 then skF f n q (i + 1) else i
def sk (f : Nat → Int32) (n i : Nat) : Nat := skF f n (160 - i) i
def rowB (a b : Int32) : Bool := (inB a 97 122 && inB b 97 122) || (inB a 48 57 && inB b 48 57)
def teF (P : Nat → Bool) (n : Nat) : Nat → Nat → Nat
  | 0, k => k
  | q + 1, k => if k < n ∧ P k = true then teF P n q (k + 1) else k
def tkE (f : Nat → Int32) (n s : Nat) : Nat := if s < n then teF (fun k => rowB (f s) (f k)) n (160 - (s + 1)) (s + 1) else s
def nuF (f : Nat → Int32) : Nat → Nat → Int32 → Int32
  | 0, _, g => g
  | q + 1, i, g => nuF f q (i + 1) (((10 * g) + f i) - 48)
def nu (f : Nat → Int32) (n s : Nat) : Int32 := bif decide (1 ≤ tkE f n s - s) && (decide (tkE f n s - s ≤ 5) && inB (f s) 48 57) then nuF f (tkE f n s - s) s 0 else -1
def wLn : Nat → Nat
  | 0 => 2
  | 1 => 4
  | 2 => 2
  | 3 => 3
  | 4 => 4
  | _ => 1
def wCh (f : Nat → Int32) (s : Nat) : Nat → Bool
  | 0 => decide (f s = 111) && decide (f (s + 1) = 102)
  | 1 => decide (f s = 102) && (decide (f (s + 1) = 114) && (decide (f (s + 2) = 111) && decide (f (s + 3) = 109)))
  | 2 => decide (f s = 116) && decide (f (s + 1) = 111)
  | 3 => decide (f s = 100) && (decide (f (s + 1) = 97) && decide (f (s + 2) = 121))
  | 4 => decide (f s = 98) && (decide (f (s + 1) = 97) && (decide (f (s + 2) = 99) && decide (f (s + 3) = 107)))
  | _ => decide (f s = 59)
def rdB (f : Nat → Int32) (n s k : Nat) : Bool := decide (tkE f n s - s = wLn k) && wCh f s k
theorem skF_p {f : Nat → Int32} {n : Nat} : ∀ q i : Nat, i ≤ n → i ≤ skF f n q i ∧ skF f n q i ≤ n := by
  intro q
  induction q with
  | zero => intro i hi; exact ⟨Nat.le_refl _, hi⟩
  | succ q ih =>
    intro i hi
    show i ≤ (if i < n ∧ f i = 32 then skF f n q (i + 1) else i) ∧ (if i < n ∧ f i = 32 then skF f n q (i + 1) else i) ≤ n
    by_cases h : i < n ∧ f i = 32
    · rw [if_pos h]
      have := ih (i + 1) (by omega)
      omega
    · rw [if_neg h]; omega
theorem sk_le {f : Nat → Int32} {n i : Nat} (h : i ≤ n) : sk f n i ≤ n := (skF_p _ _ h).2
theorem teF_p {P : Nat → Bool} {n : Nat} : ∀ q k : Nat, k ≤ n → k ≤ teF P n q k ∧ teF P n q k ≤ n := by
  intro q
  induction q with
  | zero => intro k hk; exact ⟨Nat.le_refl _, hk⟩
  | succ q ih =>
    intro k hk
    show k ≤ (if k < n ∧ P k = true then teF P n q (k + 1) else k) ∧ (if k < n ∧ P k = true then teF P n q (k + 1) else k) ≤ n
    by_cases h : k < n ∧ P k = true
    · rw [if_pos h]
      have := ih (k + 1) (by omega)
      omega
    · rw [if_neg h]; omega
theorem te_p {f : Nat → Int32} {n s : Nat} (h : s ≤ n) : s ≤ tkE f n s ∧ tkE f n s ≤ n ∧ (s < n → s < tkE f n s) := by
  unfold tkE
  by_cases q : s < n
  · rw [if_pos q]
    have := teF_p (P := fun k => rowB (f s) (f k)) (n := n) (160 - (s + 1)) (s + 1) q
    omega
  · rw [if_neg q]; omega
theorem sk_s {f : Nat → Int32} {n q i T : Nat} (h : skF f n (q + 1) i = T) (h1 : i < n) (h2 : f i = 32) : skF f n q (i + 1) = T := by
  rw [← h]
  show _ = (if i < n ∧ f i = 32 then skF f n q (i + 1) else i)
  rw [if_pos ⟨h1, h2⟩]
theorem sk_e {f : Nat → Int32} {n q i T : Nat} (h : skF f n q i = T) (h1 : n ≤ i ∨ ¬ f i = 32) : i = T := by
  cases q with
  | zero => exact h
  | succ q =>
    rw [← h]
    show i = (if i < n ∧ f i = 32 then skF f n q (i + 1) else i)
    rw [if_neg (fun q => h1.elim (fun a => by omega) (fun a => a q.2))]
theorem te_s {P : Nat → Bool} {n q k T : Nat} (h : teF P n (q + 1) k = T) (h1 : k < n) (h2 : P k = true) : teF P n q (k + 1) = T := by
  rw [← h]
  show _ = (if k < n ∧ P k = true then teF P n q (k + 1) else k)
  rw [if_pos ⟨h1, h2⟩]
theorem te_e {P : Nat → Bool} {n q k T : Nat} (h : teF P n q k = T) (h1 : n ≤ k ∨ P k = false) : k = T := by
  cases q with
  | zero => exact h
  | succ q =>
    rw [← h]
    show k = (if k < n ∧ P k = true then teF P n q (k + 1) else k)
    rw [if_neg (fun q => h1.elim (fun a => by omega) (fun a => by rw [a] at q; exact absurd q.2 (by decide)))]
theorem tkE_lt {f : Nat → Int32} {n s : Nat} (h : s < n) : tkE f n s = teF (fun k => rowB (f s) (f k)) n (160 - (s + 1)) (s + 1) := by
  unfold tkE
  rw [if_pos h]
theorem tkE_ge {f : Nat → Int32} {n s : Nat} (h : n ≤ s) : tkE f n s = s := by
  unfold tkE
  rw [if_neg (by omega)]
/-! a fault stays: where one is, and the fault or -1 -/
abbrev St : Type := Nat × Int32
def fwS (st : St) : St := (st.1, bif decide (st.2 = -1) then nI st.1 else st.2)
def rwS (f : Nat → Int32) (n k : Nat) (st : St) : St := bif decide (st.2 = -1) && rdB f n st.1 k then (sk f n (tkE f n st.1), st.2) else fwS st
def rnS (f : Nat → Int32) (n : Nat) (lo hi : Int32) (st : St) : St := bif decide (st.2 = -1) && inB (nu f n st.1) lo hi then (sk f n (tkE f n st.1), st.2) else fwS st
def rnV (f : Nat → Int32) (n : Nat) (lo hi : Int32) (st : St) : Int32 := bif decide (st.2 = -1) && inB (nu f n st.1) lo hi then nu f n st.1 else lo
/-- where the reader stands -/
def RS (σ0 σ : Sg) (n : Nat) (st : St) : Prop := σ.2 = σ0.2 ∧ (∀ m, ¬ m = 11702 → ¬ m = 11703 → ¬ m = 11704 → σ.1 m = σ0.1 m) ∧ σ0.1 11701 = nI n ∧ n ≤ 160 ∧ st.1 ≤ n ∧ σ.1 11702 = nI st.1 ∧ σ.1 11703 = nI (tkE (σ0.2.2.1 118) n st.1) ∧ σ.1 11704 = st.2
theorem rs_re {σ0 σ : Sg} {n : Nat} {st : St} (h : RS σ0 σ n st) : RS σ σ n st := ⟨rfl, fun _ _ _ _ => rfl, (h.2.1 11701 (by decide) (by decide) (by decide)).trans h.2.2.1, h.2.2.2.1, h.2.2.2.2.1, h.2.2.2.2.2.1, by rw [h.1]; exact h.2.2.2.2.2.2.1, h.2.2.2.2.2.2.2⟩
theorem rs_tr {σ0 σ τ : Sg} {n : Nat} {st st2 : St} (h : RS σ0 σ n st) (k : RS σ τ n st2) : RS σ0 τ n st2 := ⟨k.1.trans h.1, fun m a b c => (k.2.1 m a b c).trans (h.2.1 m a b c), h.2.2.1, h.2.2.2.1, k.2.2.2.2.1, k.2.2.2.2.2.1, by rw [k.2.2.2.2.2.2.1, h.1], k.2.2.2.2.2.2.2⟩
/-! ints of small numbers -/
theorem ix0 {s : Nat} (h : s < 1000) : (nI s + 0).toNatClampNeg = s := by rw [Int32.add_zero, nI_clamp (by omega)]
theorem ixk {s i : Nat} {X : Int32} (h : s < 1000) (hi : i < 10) (hX : X = nI i) : (nI s + X).toNatClampNeg = s + i := by rw [hX, nI_add, nI_clamp (by omega)]
theorem sub_nI {e s : Nat} (h : s ≤ e) (he : e ≤ 160) : nI e - nI s = nI (e - s) := by
  apply Int32.toInt_inj.mp
  have a : inR (nI e) 0 160 := inR_nI (M := 160) he (by decide)
  have b : inR (nI s) 0 160 := inR_nI (M := 160) (by omega) (by decide)
  rw [ti_sub (l := -160) (h := 160) a b (by decide) (by decide), nI_toInt (by omega), nI_toInt (by omega), nI_toInt (by omega)]
  omega
theorem len_t {e s : Nat} {L : Nat} {v : Int32} (h : s ≤ e) (he : e ≤ 160) (hL : L < 100) (hv : v = nI L) (q : nI e - nI s = v) : decide (e - s = L) = true := by
  rw [sub_nI h he, hv] at q
  exact decide_eq_true ((nI_eq (by omega) (by omega)).mp q)
theorem len_f {e s : Nat} {L : Nat} {v : Int32} (h : s ≤ e) (he : e ≤ 160) (hL : L < 100) (hv : v = nI L) (q : ¬ nI e - nI s = v) : decide (e - s = L) = false := by
  rw [sub_nI h he, hv] at q
  exact decide_eq_false (fun e2 => q (by rw [e2]))
theorem nu_s {f : Nat → Int32} {e i : Nat} {g T : Int32} (h : nuF f (e - i) i g = T) (hi : i < 1000) (hlt : i < e) : nuF f (e - (i + 1)) (i + 1) (((10 * g) + f (Int32.toNatClampNeg (nI i))) - 48) = T := by
  rw [nI_clamp (by omega)]
  rw [show e - i = (e - (i + 1)) + 1 by omega] at h
  exact h
theorem nu_e {f : Nat → Int32} {e i : Nat} {g T : Int32} (h : nuF f (e - i) i g = T) (he : e ≤ i) : g = T := by
  rw [show e - i = 0 by omega] at h
  exact h
theorem nI_lts {a b : Nat} (ha : a < 1000) (hb : b < 1000) (h : nI a < nI b) : a < b := (nI_ltI (by omega) (by omega)).mp h
theorem nI_les {a b : Nat} (ha : a < 1000) (hb : b < 1000) (h : nI a ≤ nI b) : a ≤ b := (nI_leI (by omega) (by omega)).mp h
theorem nu_1 {f : Nat → Int32} {n s : Nat} (h : s ≤ tkE f n s) (he : tkE f n s ≤ 160) (q : nI (tkE f n s) - nI s < 1) : nu f n s = -1 := by
  unfold nu
  rw [sub_nI h he] at q
  have : tkE f n s - s < 1 := nI_lts (a := tkE f n s - s) (b := 1) (by omega) (by omega) q
  rw [decide_eq_false (show ¬ 1 ≤ tkE f n s - s by omega)]; rfl
theorem nu_5 {f : Nat → Int32} {n s : Nat} (h : s ≤ tkE f n s) (he : tkE f n s ≤ 160) (q : 5 < nI (tkE f n s) - nI s) : nu f n s = -1 := by
  unfold nu
  rw [sub_nI h he] at q
  have : 5 < tkE f n s - s := nI_lts (a := 5) (b := tkE f n s - s) (by omega) (by omega) q
  rw [decide_eq_false (show ¬ tkE f n s - s ≤ 5 by omega), Bool.false_and, Bool.and_false]; rfl
theorem nu_d {f : Nat → Int32} {n s : Nat} (hs : s < 1000) (q : ¬ inR (f (Int32.toNatClampNeg (nI s))) 48 57) : nu f n s = -1 := by
  rw [nI_clamp (by omega)] at q
  unfold nu
  rw [inB_f q, Bool.and_false, Bool.and_false]; rfl
theorem nu_tt {f : Nat → Int32} {n s : Nat} (h : s ≤ tkE f n s) (he : tkE f n s ≤ 160) (q1 : 1 ≤ nI (tkE f n s) - nI s) (q5 : nI (tkE f n s) - nI s ≤ 5) (qd : inR (f (Int32.toNatClampNeg (nI s))) 48 57) : nuF f (tkE f n s - s) s 0 = nu f n s := by
  rw [nI_clamp (by omega)] at qd
  rw [sub_nI h he] at q1 q5
  have a : 1 ≤ tkE f n s - s := nI_les (a := 1) (b := tkE f n s - s) (by omega) (by omega) q1
  have b : tkE f n s - s ≤ 5 := nI_les (a := tkE f n s - s) (b := 5) (by omega) (by omega) q5
  unfold nu
  rw [decide_eq_true a, decide_eq_true b, inB_t qd]; rfl
set_option maxRecDepth 100000 in
set_option maxHeartbeats 40000000 in
theorem ge_X6_isOneRow {G : vG} {l : Launch} (w : VW) (a b : Int32) : Sp G l yX6_isOneRow cX6_isOneRow 2 (some .boolean) 1 0 0 [.int a, .int b] (w) (QI (fun x w2 => w2 = w ∧ (rowB a b = true ∧ x = 1 ∨ rowB a b = false ∧ x = 0))) := by
  refine Sp_of_R [(some (.int a)), (some (.int b))] [] rfl (by simp) rfl (Nat.le_of_ble_eq_true rfl) ?_
  refine R_iload_n (pc := 0) dX6_isOneRow_0 rfl rfl ?_
  refine k_X6_114 (pc := 1) (sp_X8_isLetter _ _) rfl (by decide) (Nat.le_refl _) (Nat.le_refl _) (Nat.le_of_ble_eq_true rfl) dX6_isOneRow_1 (fun x w2 h => ?_)
  rcases h with ⟨rfl, ⟨h1, rfl⟩ | ⟨h1, rfl⟩⟩
  · skip
    refine R_ifeq (pc := 4) 14 dX6_isOneRow_4 (by decide) (fun h => absurd h (by decide)) (fun _ => ?_)
    refine R_iload_n (pc := 7) dX6_isOneRow_7 rfl rfl ?_
    refine k_X6_114 (pc := 8) (sp_X8_isLetter _ _) rfl (by decide) (Nat.le_refl _) (Nat.le_refl _) (Nat.le_of_ble_eq_true rfl) dX6_isOneRow_8 (fun x w2 h => ?_)
    rcases h with ⟨rfl, ⟨h3, rfl⟩ | ⟨h3, rfl⟩⟩
    · skip
      refine R_ifne (pc := 11) 28 dX6_isOneRow_11 (by decide) (fun _ => ?_) (fun h => absurd h (by decide))
      refine R_iconst (pc := 28) (v := 1) dX6_isOneRow_28 (by decide) ?_
      refine R_goto (pc := 29) 33 dX6_isOneRow_29 (by decide) ?_
      exact R_iret (pc := 33) dX6_isOneRow_33 rfl rfl (Nat.zero_le _) (Nat.zero_le _) ⟨_, rfl, rfl, Or.inl ⟨(by unfold rowB; rw [inB_t h1, inB_t h3] <;> simp), rfl⟩⟩
    · skip
      refine R_ifne (pc := 11) 28 dX6_isOneRow_11 (by decide) (fun h => absurd (by decide) h) (fun _ => ?_)
      refine R_iload_n (pc := 14) dX6_isOneRow_14 rfl rfl ?_
      refine k_X6_101 (pc := 15) (sp_X8_isDigit _ _) rfl (by decide) (Nat.le_refl _) (Nat.le_refl _) (Nat.le_of_ble_eq_true rfl) dX6_isOneRow_15 (fun x w2 h => ?_)
      rcases h with ⟨rfl, ⟨h6, rfl⟩ | ⟨h6, rfl⟩⟩
      · skip
        refine R_ifeq (pc := 18) 32 dX6_isOneRow_18 (by decide) (fun h => absurd h (by decide)) (fun _ => ?_)
        refine R_iload_n (pc := 21) dX6_isOneRow_21 rfl rfl ?_
        refine k_X6_101 (pc := 22) (sp_X8_isDigit _ _) rfl (by decide) (Nat.le_refl _) (Nat.le_refl _) (Nat.le_of_ble_eq_true rfl) dX6_isOneRow_22 (fun x w2 h => ?_)
        rcases h with ⟨rfl, ⟨h8, rfl⟩ | ⟨h8, rfl⟩⟩
        · skip
          refine R_ifeq (pc := 25) 32 dX6_isOneRow_25 (by decide) (fun h => absurd h (by decide)) (fun _ => ?_)
          refine R_iconst (pc := 28) (v := 1) dX6_isOneRow_28 (by decide) ?_
          refine R_goto (pc := 29) 33 dX6_isOneRow_29 (by decide) ?_
          exact R_iret (pc := 33) dX6_isOneRow_33 rfl rfl (Nat.zero_le _) (Nat.zero_le _) ⟨_, rfl, rfl, Or.inl ⟨(by unfold rowB; rw [inB_t h1, inB_f h3, inB_t h6, inB_t h8] <;> simp), rfl⟩⟩
        · skip
          refine R_ifeq (pc := 25) 32 dX6_isOneRow_25 (by decide) (fun _ => ?_) (fun h => absurd (by decide) h)
          refine R_iconst (pc := 32) (v := 0) dX6_isOneRow_32 (by decide) ?_
          exact R_iret (pc := 33) dX6_isOneRow_33 rfl rfl (Nat.zero_le _) (Nat.zero_le _) ⟨_, rfl, rfl, Or.inr ⟨(by unfold rowB; rw [inB_t h1, inB_f h3, inB_t h6, inB_f h8] <;> simp), rfl⟩⟩
      · skip
        refine R_ifeq (pc := 18) 32 dX6_isOneRow_18 (by decide) (fun _ => ?_) (fun h => absurd (by decide) h)
        refine R_iconst (pc := 32) (v := 0) dX6_isOneRow_32 (by decide) ?_
        exact R_iret (pc := 33) dX6_isOneRow_33 rfl rfl (Nat.zero_le _) (Nat.zero_le _) ⟨_, rfl, rfl, Or.inr ⟨(by unfold rowB; rw [inB_t h1, inB_f h3, inB_f h6] <;> simp), rfl⟩⟩
  · skip
    refine R_ifeq (pc := 4) 14 dX6_isOneRow_4 (by decide) (fun _ => ?_) (fun h => absurd (by decide) h)
    refine R_iload_n (pc := 14) dX6_isOneRow_14 rfl rfl ?_
    refine k_X6_101 (pc := 15) (sp_X8_isDigit _ _) rfl (by decide) (Nat.le_refl _) (Nat.le_refl _) (Nat.le_of_ble_eq_true rfl) dX6_isOneRow_15 (fun x w2 h => ?_)
    rcases h with ⟨rfl, ⟨h13, rfl⟩ | ⟨h13, rfl⟩⟩
    · skip
      refine R_ifeq (pc := 18) 32 dX6_isOneRow_18 (by decide) (fun h => absurd h (by decide)) (fun _ => ?_)
      refine R_iload_n (pc := 21) dX6_isOneRow_21 rfl rfl ?_
      refine k_X6_101 (pc := 22) (sp_X8_isDigit _ _) rfl (by decide) (Nat.le_refl _) (Nat.le_refl _) (Nat.le_of_ble_eq_true rfl) dX6_isOneRow_22 (fun x w2 h => ?_)
      rcases h with ⟨rfl, ⟨h15, rfl⟩ | ⟨h15, rfl⟩⟩
      · skip
        refine R_ifeq (pc := 25) 32 dX6_isOneRow_25 (by decide) (fun h => absurd h (by decide)) (fun _ => ?_)
        refine R_iconst (pc := 28) (v := 1) dX6_isOneRow_28 (by decide) ?_
        refine R_goto (pc := 29) 33 dX6_isOneRow_29 (by decide) ?_
        exact R_iret (pc := 33) dX6_isOneRow_33 rfl rfl (Nat.zero_le _) (Nat.zero_le _) ⟨_, rfl, rfl, Or.inl ⟨(by unfold rowB; rw [inB_f h1, inB_t h13, inB_t h15] <;> simp), rfl⟩⟩
      · skip
        refine R_ifeq (pc := 25) 32 dX6_isOneRow_25 (by decide) (fun _ => ?_) (fun h => absurd (by decide) h)
        refine R_iconst (pc := 32) (v := 0) dX6_isOneRow_32 (by decide) ?_
        exact R_iret (pc := 33) dX6_isOneRow_33 rfl rfl (Nat.zero_le _) (Nat.zero_le _) ⟨_, rfl, rfl, Or.inr ⟨(by unfold rowB; rw [inB_f h1, inB_t h13, inB_f h15] <;> simp), rfl⟩⟩
    · skip
      refine R_ifeq (pc := 18) 32 dX6_isOneRow_18 (by decide) (fun _ => ?_) (fun h => absurd (by decide) h)
      refine R_iconst (pc := 32) (v := 0) dX6_isOneRow_32 (by decide) ?_
      exact R_iret (pc := 33) dX6_isOneRow_33 rfl rfl (Nat.zero_le _) (Nat.zero_le _) ⟨_, rfl, rfl, Or.inr ⟨(by unfold rowB; rw [inB_f h1, inB_f h13] <;> simp), rfl⟩⟩
set_option maxRecDepth 100000 in
set_option maxHeartbeats 40000000 in
theorem ge_X6_isAt_0 {G : vG} {l : Launch} (σ : Sg) (n : Nat) (st : St)  (hI : Inv σ) (hR : RS σ σ n st) : Sp G l yX6_isAt cX6_isAt 3 (some .boolean) 5 0 0 [.ref 117, .ref 1000000] (WW σ) (QI (fun x w2 => w2 = WW σ ∧ (rdB (σ.2.2.1 118) n st.1 0 = true ∧ x = 1 ∨ rdB (σ.2.2.1 118) n st.1 0 = false ∧ x = 0))) := by
  refine Sp_of_R [(some (.ref 117)), (some (.ref 1000000)), none] [none] rfl (by simp) rfl (Nat.le_of_ble_eq_true rfl) ?_
  have hn160 : n ≤ 160 := hR.2.2.2.1
  have hsn : st.1 ≤ n := hR.2.2.2.2.1
  have hte := te_p (f := (σ.2.2.1 118)) hsn
  refine R_aload_n (pc := 0) dX6_isAt_0 rfl rfl ?_
  refine g_X6_21 (pc := 1) (v := .int (nI (tkE (σ.2.2.1 118) n st.1))) rfl dX6_isAt_1 (c_117 _) (by show some (Value.int (σ.1 11703)) = _; rw [hR.2.2.2.2.2.2.1]) ?_
  refine R_aload_n (pc := 4) dX6_isAt_4 rfl rfl ?_
  refine g_X6_40 (pc := 5) (v := .int (nI st.1)) rfl dX6_isAt_5 (c_117 _) (by show some (Value.int (σ.1 11702)) = _; rw [hR.2.2.2.2.2.1]) ?_
  refine R_isub (pc := 8) dX6_isAt_8 ?_
  have r1 : inR ((nI (tkE (σ.2.2.1 118) n st.1)) - (nI st.1)) (-160) 160 := inR_sub (show inR (nI (tkE (σ.2.2.1 118) n st.1)) 0 160 from (show inR (nI (tkE (σ.2.2.1 118) n st.1)) 0 160 from (inR_nI (M := 160) (by omega) (by decide)))) (show inR (nI st.1) 0 160 from (show inR (nI st.1) 0 160 from (inR_nI (M := 160) (by omega) (by decide)))) (by decide) (by decide)
  have e2 := ti_sub (l := (-160)) (h := 160) (show inR (nI (tkE (σ.2.2.1 118) n st.1)) 0 160 from (show inR (nI (tkE (σ.2.2.1 118) n st.1)) 0 160 from (inR_nI (M := 160) (by omega) (by decide)))) (show inR (nI st.1) 0 160 from (show inR (nI st.1) 0 160 from (inR_nI (M := 160) (by omega) (by decide)))) (by decide) (by decide)
  refine R_aload_n (pc := 9) dX6_isAt_9 rfl rfl ?_
  refine k_len (pc := 10) (i := 0) 2 (by decide) (by decide) rfl (by decide) (Nat.zero_le _) (Nat.zero_le _) (Nat.le_of_ble_eq_true rfl) dX6_isAt_10 ?_
  refine R_iceq (pc := 13) 18 dX6_isAt_13 (by decide) (fun b13_3 => ?_) (fun b13_3 => ?_)
  · skip
    refine R_iconst (pc := 18) (v := 0) dX6_isAt_18 (by decide) ?_
    refine st_3_2_i_a (pc := 19) dX6_isAt_19 ?_
    refine R_iload_n (pc := 20) dX6_isAt_20 rfl rfl ?_
    refine R_aload_n (pc := 21) dX6_isAt_21 rfl rfl ?_
    refine k_len (pc := 22) (i := 0) 2 (by decide) (by decide) rfl (by decide) (Nat.zero_le _) (Nat.zero_le _) (Nat.le_of_ble_eq_true rfl) dX6_isAt_22 ?_
    refine R_icge (pc := 25) 55 dX6_isAt_25 (by decide) (fun h => absurd h (by decide)) (fun _ => ?_)
    refine R_aload_n (pc := 28) dX6_isAt_28 rfl rfl ?_
    refine g_X6_9 (pc := 29) (v := .ref 118) rfl dX6_isAt_29 (c_117 _) rfl ?_
    refine R_aload_n (pc := 32) dX6_isAt_32 rfl rfl ?_
    refine g_X6_40 (pc := 33) (v := .int (nI st.1)) rfl dX6_isAt_33 (c_117 _) (by show some (Value.int (σ.1 11702)) = _; rw [hR.2.2.2.2.2.1]) ?_
    refine R_iload_n (pc := 36) dX6_isAt_36 rfl rfl ?_
    refine R_iadd (pc := 37) dX6_isAt_37 ?_
    have r5 : inR ((nI st.1) + 0) 0 160 := inR_add (show inR (nI st.1) 0 160 from (show inR (nI st.1) 0 160 from (inR_nI (M := 160) (by omega) (by decide)))) (show inR 0 0 0 from (inR_self _)) (by decide) (by decide)
    have e6 := ti_add (l := 0) (h := 160) (show inR (nI st.1) 0 160 from (show inR (nI st.1) 0 160 from (inR_nI (M := 160) (by omega) (by decide)))) (show inR 0 0 0 from (inR_self _)) (by decide) (by decide)
    have hx7 : vp_in ((nI st.1) + 0) 160 := (vp_ti (by have q0 := (nI_toInt (n := st.1) (by omega)); have q1 := (nI_toInt (n := (tkE (σ.2.2.1 118) n st.1)) (by omega)); have q2 := (nI_toInt (n := n) (by omega)); have q3 := e2; have q4 := e6; have q5 := ti_eq b13_3; have q6 := ti_in (show inR (nI st.1) 0 160 from (inR_nI (M := 160) (by omega) (by decide))); have q7 := ti_in (show inR (nI (tkE (σ.2.2.1 118) n st.1)) 0 160 from (inR_nI (M := 160) (by omega) (by decide))); have q8 := ti_in (show inR (nI n) 0 160 from (inR_nI (M := 160) (by omega) (by decide))); have q9 := ti_in r1; have q10 := ti_in r5; have z0 : (-160 : Int32).toInt = -160 := (by decide); have z1 : (0 : Int32).toInt = 0 := (by decide); have z2 : (1 : Int32).toInt = 1 := (by decide); have z3 : (118 : Int32).toInt = 118 := (by decide); have z4 : (160 : Int32).toInt = 160 := (by decide); have z5 : (2 : Int32).toInt = 2 := (by decide); omega) (by have q0 := (nI_toInt (n := st.1) (by omega)); have q1 := (nI_toInt (n := (tkE (σ.2.2.1 118) n st.1)) (by omega)); have q2 := (nI_toInt (n := n) (by omega)); have q3 := e2; have q4 := e6; have q5 := ti_eq b13_3; have q6 := ti_in (show inR (nI st.1) 0 160 from (inR_nI (M := 160) (by omega) (by decide))); have q7 := ti_in (show inR (nI (tkE (σ.2.2.1 118) n st.1)) 0 160 from (inR_nI (M := 160) (by omega) (by decide))); have q8 := ti_in (show inR (nI n) 0 160 from (inR_nI (M := 160) (by omega) (by decide))); have q9 := ti_in r1; have q10 := ti_in r5; have z0 : (-160 : Int32).toInt = -160 := (by decide); have z1 : (0 : Int32).toInt = 0 := (by decide); have z2 : (1 : Int32).toInt = 1 := (by decide); have z3 : (118 : Int32).toInt = 118 := (by decide); have z4 : (160 : Int32).toInt = 160 := (by decide); have z5 : (2 : Int32).toInt = 2 := (by decide); omega))
    refine R_iaload (pc := 38) dX6_isAt_38 (c_118 _) hx7 ?_
    refine R_aload_n (pc := 39) dX6_isAt_39 rfl rfl ?_
    refine R_iload_n (pc := 40) dX6_isAt_40 rfl rfl ?_
    refine k_chr (pc := 41) (i := 0) (j := 0) 2 111 111 (by decide) (by decide) (by decide) (by decide) (by unfold vp_in; decide) (by decide) (by decide) rfl rfl (by decide) (Nat.zero_le _) (Nat.zero_le _) (Nat.le_of_ble_eq_true rfl) dX6_isAt_41 ?_
    refine R_iceq (pc := 44) 49 dX6_isAt_44 (by decide) (fun b44_8 => ?_) (fun b44_8 => ?_)
    · skip
      refine inc_3_2_1_a (pc := 49) dX6_isAt_49 ?_
      refine R_goto (pc := 52) 20 dX6_isAt_52 (by decide) ?_
      refine R_iload_n (pc := 20) dX6_isAt_20 rfl rfl ?_
      refine R_aload_n (pc := 21) dX6_isAt_21 rfl rfl ?_
      refine k_len (pc := 22) (i := 0) 2 (by decide) (by decide) rfl (by decide) (Nat.zero_le _) (Nat.zero_le _) (Nat.le_of_ble_eq_true rfl) dX6_isAt_22 ?_
      refine R_icge (pc := 25) 55 dX6_isAt_25 (by decide) (fun h => absurd h (by decide)) (fun _ => ?_)
      refine R_aload_n (pc := 28) dX6_isAt_28 rfl rfl ?_
      refine g_X6_9 (pc := 29) (v := .ref 118) rfl dX6_isAt_29 (c_117 _) rfl ?_
      refine R_aload_n (pc := 32) dX6_isAt_32 rfl rfl ?_
      refine g_X6_40 (pc := 33) (v := .int (nI st.1)) rfl dX6_isAt_33 (c_117 _) (by show some (Value.int (σ.1 11702)) = _; rw [hR.2.2.2.2.2.1]) ?_
      refine R_iload_n (pc := 36) dX6_isAt_36 rfl rfl ?_
      refine R_iadd (pc := 37) dX6_isAt_37 ?_
      have r10 : inR ((nI st.1) + 1) 1 161 := inR_add (show inR (nI st.1) 0 160 from (show inR (nI st.1) 0 160 from (inR_nI (M := 160) (by omega) (by decide)))) (show inR 1 1 1 from (inR_self _)) (by decide) (by decide)
      have e11 := ti_add (l := 1) (h := 161) (show inR (nI st.1) 0 160 from (show inR (nI st.1) 0 160 from (inR_nI (M := 160) (by omega) (by decide)))) (show inR 1 1 1 from (inR_self _)) (by decide) (by decide)
      have hx12 : vp_in ((nI st.1) + 1) 160 := (vp_ti (by have q0 := (nI_toInt (n := st.1) (by omega)); have q1 := (nI_toInt (n := (tkE (σ.2.2.1 118) n st.1)) (by omega)); have q2 := (nI_toInt (n := n) (by omega)); have q3 := e2; have q4 := e6; have q5 := e11; have q6 := ti_eq b13_3; have q7 := ti_eq b44_8; have q8 := ti_in (show inR (nI st.1) 0 160 from (inR_nI (M := 160) (by omega) (by decide))); have q9 := ti_in (show inR (nI (tkE (σ.2.2.1 118) n st.1)) 0 160 from (inR_nI (M := 160) (by omega) (by decide))); have q10 := ti_in (show inR (nI n) 0 160 from (inR_nI (M := 160) (by omega) (by decide))); have q11 := ti_in r1; have q12 := ti_in r5; have q13 := ti_in r10; have z0 : (-160 : Int32).toInt = -160 := (by decide); have z1 : (0 : Int32).toInt = 0 := (by decide); have z2 : (1 : Int32).toInt = 1 := (by decide); have z3 : (111 : Int32).toInt = 111 := (by decide); have z4 : (118 : Int32).toInt = 118 := (by decide); have z5 : (160 : Int32).toInt = 160 := (by decide); have z6 : (161 : Int32).toInt = 161 := (by decide); have z7 : (2 : Int32).toInt = 2 := (by decide); omega) (by have q0 := (nI_toInt (n := st.1) (by omega)); have q1 := (nI_toInt (n := (tkE (σ.2.2.1 118) n st.1)) (by omega)); have q2 := (nI_toInt (n := n) (by omega)); have q3 := e2; have q4 := e6; have q5 := e11; have q6 := ti_eq b13_3; have q7 := ti_eq b44_8; have q8 := ti_in (show inR (nI st.1) 0 160 from (inR_nI (M := 160) (by omega) (by decide))); have q9 := ti_in (show inR (nI (tkE (σ.2.2.1 118) n st.1)) 0 160 from (inR_nI (M := 160) (by omega) (by decide))); have q10 := ti_in (show inR (nI n) 0 160 from (inR_nI (M := 160) (by omega) (by decide))); have q11 := ti_in r1; have q12 := ti_in r5; have q13 := ti_in r10; have z0 : (-160 : Int32).toInt = -160 := (by decide); have z1 : (0 : Int32).toInt = 0 := (by decide); have z2 : (1 : Int32).toInt = 1 := (by decide); have z3 : (111 : Int32).toInt = 111 := (by decide); have z4 : (118 : Int32).toInt = 118 := (by decide); have z5 : (160 : Int32).toInt = 160 := (by decide); have z6 : (161 : Int32).toInt = 161 := (by decide); have z7 : (2 : Int32).toInt = 2 := (by decide); omega))
      refine R_iaload (pc := 38) dX6_isAt_38 (c_118 _) hx12 ?_
      refine R_aload_n (pc := 39) dX6_isAt_39 rfl rfl ?_
      refine R_iload_n (pc := 40) dX6_isAt_40 rfl rfl ?_
      refine k_chr (pc := 41) (i := 0) (j := 1) 2 102 102 (by decide) (by decide) (by decide) (by decide) (by unfold vp_in; decide) (by decide) (by decide) rfl rfl (by decide) (Nat.zero_le _) (Nat.zero_le _) (Nat.le_of_ble_eq_true rfl) dX6_isAt_41 ?_
      refine R_iceq (pc := 44) 49 dX6_isAt_44 (by decide) (fun b44_13 => ?_) (fun b44_13 => ?_)
      · skip
        refine inc_3_2_1_a (pc := 49) dX6_isAt_49 ?_
        refine R_goto (pc := 52) 20 dX6_isAt_52 (by decide) ?_
        refine R_iload_n (pc := 20) dX6_isAt_20 rfl rfl ?_
        refine R_aload_n (pc := 21) dX6_isAt_21 rfl rfl ?_
        refine k_len (pc := 22) (i := 0) 2 (by decide) (by decide) rfl (by decide) (Nat.zero_le _) (Nat.zero_le _) (Nat.le_of_ble_eq_true rfl) dX6_isAt_22 ?_
        refine R_icge (pc := 25) 55 dX6_isAt_25 (by decide) (fun _ => ?_) (fun h => absurd (by decide) h)
        refine R_iconst (pc := 55) (v := 1) dX6_isAt_55 (by decide) ?_
        exact R_iret (pc := 56) dX6_isAt_56 rfl rfl (Nat.zero_le _) (Nat.zero_le _) ⟨_, rfl, rfl, Or.inl ⟨(by show (decide ((tkE (σ.2.2.1 118) n st.1) - st.1 = 2) && (decide ((σ.2.2.1 118) st.1 = 111) && decide ((σ.2.2.1 118) (st.1 + 1) = 102))) = true; rw [len_t (show st.1 ≤ (tkE (σ.2.2.1 118) n st.1) by omega) (show (tkE (σ.2.2.1 118) n st.1) ≤ 160 by omega) (by decide) rfl b13_3, decide_eq_true (by have q : (σ.2.2.1 118 (Int32.toNatClampNeg ((nI st.1) + 0))) = 111 := b44_8; rw [ix0 (by omega)] at q; exact q), decide_eq_true (by have q : (σ.2.2.1 118 (Int32.toNatClampNeg ((nI st.1) + 1))) = 102 := b44_13; rw [ixk (i := 1) (X := 1) (by omega) (by decide) (by decide)] at q; exact q)] <;> first | rfl | simp), rfl⟩⟩
      · skip
        refine R_iconst (pc := 47) (v := 0) dX6_isAt_47 (by decide) ?_
        exact R_iret (pc := 48) dX6_isAt_48 rfl rfl (Nat.zero_le _) (Nat.zero_le _) ⟨_, rfl, rfl, Or.inr ⟨(by show (decide ((tkE (σ.2.2.1 118) n st.1) - st.1 = 2) && (decide ((σ.2.2.1 118) st.1 = 111) && decide ((σ.2.2.1 118) (st.1 + 1) = 102))) = false; rw [len_t (show st.1 ≤ (tkE (σ.2.2.1 118) n st.1) by omega) (show (tkE (σ.2.2.1 118) n st.1) ≤ 160 by omega) (by decide) rfl b13_3, decide_eq_true (by have q : (σ.2.2.1 118 (Int32.toNatClampNeg ((nI st.1) + 0))) = 111 := b44_8; rw [ix0 (by omega)] at q; exact q), decide_eq_false (by have q : ¬ (σ.2.2.1 118 (Int32.toNatClampNeg ((nI st.1) + 1))) = 102 := b44_13; rw [ixk (i := 1) (X := 1) (by omega) (by decide) (by decide)] at q; exact q)] <;> first | rfl | simp), rfl⟩⟩
    · skip
      refine R_iconst (pc := 47) (v := 0) dX6_isAt_47 (by decide) ?_
      exact R_iret (pc := 48) dX6_isAt_48 rfl rfl (Nat.zero_le _) (Nat.zero_le _) ⟨_, rfl, rfl, Or.inr ⟨(by show (decide ((tkE (σ.2.2.1 118) n st.1) - st.1 = 2) && (decide ((σ.2.2.1 118) st.1 = 111) && decide ((σ.2.2.1 118) (st.1 + 1) = 102))) = false; rw [len_t (show st.1 ≤ (tkE (σ.2.2.1 118) n st.1) by omega) (show (tkE (σ.2.2.1 118) n st.1) ≤ 160 by omega) (by decide) rfl b13_3, decide_eq_false (by have q : ¬ (σ.2.2.1 118 (Int32.toNatClampNeg ((nI st.1) + 0))) = 111 := b44_8; rw [ix0 (by omega)] at q; exact q)] <;> first | rfl | simp), rfl⟩⟩
  · skip
    refine R_iconst (pc := 16) (v := 0) dX6_isAt_16 (by decide) ?_
    exact R_iret (pc := 17) dX6_isAt_17 rfl rfl (Nat.zero_le _) (Nat.zero_le _) ⟨_, rfl, rfl, Or.inr ⟨(by show (decide ((tkE (σ.2.2.1 118) n st.1) - st.1 = 2) && _) = false; rw [len_f (show st.1 ≤ (tkE (σ.2.2.1 118) n st.1) by omega) (show (tkE (σ.2.2.1 118) n st.1) ≤ 160 by omega) (by decide) rfl b13_3, Bool.false_and]), rfl⟩⟩
set_option maxRecDepth 100000 in
set_option maxHeartbeats 40000000 in
theorem ge_X6_isAt_1 {G : vG} {l : Launch} (σ : Sg) (n : Nat) (st : St)  (hI : Inv σ) (hR : RS σ σ n st) : Sp G l yX6_isAt cX6_isAt 3 (some .boolean) 5 0 0 [.ref 117, .ref 1000001] (WW σ) (QI (fun x w2 => w2 = WW σ ∧ (rdB (σ.2.2.1 118) n st.1 1 = true ∧ x = 1 ∨ rdB (σ.2.2.1 118) n st.1 1 = false ∧ x = 0))) := by
  refine Sp_of_R [(some (.ref 117)), (some (.ref 1000001)), none] [none] rfl (by simp) rfl (Nat.le_of_ble_eq_true rfl) ?_
  have hn160 : n ≤ 160 := hR.2.2.2.1
  have hsn : st.1 ≤ n := hR.2.2.2.2.1
  have hte := te_p (f := (σ.2.2.1 118)) hsn
  refine R_aload_n (pc := 0) dX6_isAt_0 rfl rfl ?_
  refine g_X6_21 (pc := 1) (v := .int (nI (tkE (σ.2.2.1 118) n st.1))) rfl dX6_isAt_1 (c_117 _) (by show some (Value.int (σ.1 11703)) = _; rw [hR.2.2.2.2.2.2.1]) ?_
  refine R_aload_n (pc := 4) dX6_isAt_4 rfl rfl ?_
  refine g_X6_40 (pc := 5) (v := .int (nI st.1)) rfl dX6_isAt_5 (c_117 _) (by show some (Value.int (σ.1 11702)) = _; rw [hR.2.2.2.2.2.1]) ?_
  refine R_isub (pc := 8) dX6_isAt_8 ?_
  have r1 : inR ((nI (tkE (σ.2.2.1 118) n st.1)) - (nI st.1)) (-160) 160 := inR_sub (show inR (nI (tkE (σ.2.2.1 118) n st.1)) 0 160 from (show inR (nI (tkE (σ.2.2.1 118) n st.1)) 0 160 from (inR_nI (M := 160) (by omega) (by decide)))) (show inR (nI st.1) 0 160 from (show inR (nI st.1) 0 160 from (inR_nI (M := 160) (by omega) (by decide)))) (by decide) (by decide)
  have e2 := ti_sub (l := (-160)) (h := 160) (show inR (nI (tkE (σ.2.2.1 118) n st.1)) 0 160 from (show inR (nI (tkE (σ.2.2.1 118) n st.1)) 0 160 from (inR_nI (M := 160) (by omega) (by decide)))) (show inR (nI st.1) 0 160 from (show inR (nI st.1) 0 160 from (inR_nI (M := 160) (by omega) (by decide)))) (by decide) (by decide)
  refine R_aload_n (pc := 9) dX6_isAt_9 rfl rfl ?_
  refine k_len (pc := 10) (i := 1) 4 (by decide) (by decide) rfl (by decide) (Nat.zero_le _) (Nat.zero_le _) (Nat.le_of_ble_eq_true rfl) dX6_isAt_10 ?_
  refine R_iceq (pc := 13) 18 dX6_isAt_13 (by decide) (fun b13_3 => ?_) (fun b13_3 => ?_)
  · skip
    refine R_iconst (pc := 18) (v := 0) dX6_isAt_18 (by decide) ?_
    refine st_3_2_i_a (pc := 19) dX6_isAt_19 ?_
    refine R_iload_n (pc := 20) dX6_isAt_20 rfl rfl ?_
    refine R_aload_n (pc := 21) dX6_isAt_21 rfl rfl ?_
    refine k_len (pc := 22) (i := 1) 4 (by decide) (by decide) rfl (by decide) (Nat.zero_le _) (Nat.zero_le _) (Nat.le_of_ble_eq_true rfl) dX6_isAt_22 ?_
    refine R_icge (pc := 25) 55 dX6_isAt_25 (by decide) (fun h => absurd h (by decide)) (fun _ => ?_)
    refine R_aload_n (pc := 28) dX6_isAt_28 rfl rfl ?_
    refine g_X6_9 (pc := 29) (v := .ref 118) rfl dX6_isAt_29 (c_117 _) rfl ?_
    refine R_aload_n (pc := 32) dX6_isAt_32 rfl rfl ?_
    refine g_X6_40 (pc := 33) (v := .int (nI st.1)) rfl dX6_isAt_33 (c_117 _) (by show some (Value.int (σ.1 11702)) = _; rw [hR.2.2.2.2.2.1]) ?_
    refine R_iload_n (pc := 36) dX6_isAt_36 rfl rfl ?_
    refine R_iadd (pc := 37) dX6_isAt_37 ?_
    have r5 : inR ((nI st.1) + 0) 0 160 := inR_add (show inR (nI st.1) 0 160 from (show inR (nI st.1) 0 160 from (inR_nI (M := 160) (by omega) (by decide)))) (show inR 0 0 0 from (inR_self _)) (by decide) (by decide)
    have e6 := ti_add (l := 0) (h := 160) (show inR (nI st.1) 0 160 from (show inR (nI st.1) 0 160 from (inR_nI (M := 160) (by omega) (by decide)))) (show inR 0 0 0 from (inR_self _)) (by decide) (by decide)
    have hx7 : vp_in ((nI st.1) + 0) 160 := (vp_ti (by have q0 := (nI_toInt (n := st.1) (by omega)); have q1 := (nI_toInt (n := (tkE (σ.2.2.1 118) n st.1)) (by omega)); have q2 := (nI_toInt (n := n) (by omega)); have q3 := e2; have q4 := e6; have q5 := ti_eq b13_3; have q6 := ti_in (show inR (nI st.1) 0 160 from (inR_nI (M := 160) (by omega) (by decide))); have q7 := ti_in (show inR (nI (tkE (σ.2.2.1 118) n st.1)) 0 160 from (inR_nI (M := 160) (by omega) (by decide))); have q8 := ti_in (show inR (nI n) 0 160 from (inR_nI (M := 160) (by omega) (by decide))); have q9 := ti_in r1; have q10 := ti_in r5; have z0 : (-160 : Int32).toInt = -160 := (by decide); have z1 : (0 : Int32).toInt = 0 := (by decide); have z2 : (1 : Int32).toInt = 1 := (by decide); have z3 : (118 : Int32).toInt = 118 := (by decide); have z4 : (160 : Int32).toInt = 160 := (by decide); have z5 : (4 : Int32).toInt = 4 := (by decide); omega) (by have q0 := (nI_toInt (n := st.1) (by omega)); have q1 := (nI_toInt (n := (tkE (σ.2.2.1 118) n st.1)) (by omega)); have q2 := (nI_toInt (n := n) (by omega)); have q3 := e2; have q4 := e6; have q5 := ti_eq b13_3; have q6 := ti_in (show inR (nI st.1) 0 160 from (inR_nI (M := 160) (by omega) (by decide))); have q7 := ti_in (show inR (nI (tkE (σ.2.2.1 118) n st.1)) 0 160 from (inR_nI (M := 160) (by omega) (by decide))); have q8 := ti_in (show inR (nI n) 0 160 from (inR_nI (M := 160) (by omega) (by decide))); have q9 := ti_in r1; have q10 := ti_in r5; have z0 : (-160 : Int32).toInt = -160 := (by decide); have z1 : (0 : Int32).toInt = 0 := (by decide); have z2 : (1 : Int32).toInt = 1 := (by decide); have z3 : (118 : Int32).toInt = 118 := (by decide); have z4 : (160 : Int32).toInt = 160 := (by decide); have z5 : (4 : Int32).toInt = 4 := (by decide); omega))
    refine R_iaload (pc := 38) dX6_isAt_38 (c_118 _) hx7 ?_
    refine R_aload_n (pc := 39) dX6_isAt_39 rfl rfl ?_
    refine R_iload_n (pc := 40) dX6_isAt_40 rfl rfl ?_
    refine k_chr (pc := 41) (i := 1) (j := 0) 4 102 102 (by decide) (by decide) (by decide) (by decide) (by unfold vp_in; decide) (by decide) (by decide) rfl rfl (by decide) (Nat.zero_le _) (Nat.zero_le _) (Nat.le_of_ble_eq_true rfl) dX6_isAt_41 ?_
    refine R_iceq (pc := 44) 49 dX6_isAt_44 (by decide) (fun b44_8 => ?_) (fun b44_8 => ?_)
    · skip
      refine inc_3_2_1_a (pc := 49) dX6_isAt_49 ?_
      refine R_goto (pc := 52) 20 dX6_isAt_52 (by decide) ?_
      refine R_iload_n (pc := 20) dX6_isAt_20 rfl rfl ?_
      refine R_aload_n (pc := 21) dX6_isAt_21 rfl rfl ?_
      refine k_len (pc := 22) (i := 1) 4 (by decide) (by decide) rfl (by decide) (Nat.zero_le _) (Nat.zero_le _) (Nat.le_of_ble_eq_true rfl) dX6_isAt_22 ?_
      refine R_icge (pc := 25) 55 dX6_isAt_25 (by decide) (fun h => absurd h (by decide)) (fun _ => ?_)
      refine R_aload_n (pc := 28) dX6_isAt_28 rfl rfl ?_
      refine g_X6_9 (pc := 29) (v := .ref 118) rfl dX6_isAt_29 (c_117 _) rfl ?_
      refine R_aload_n (pc := 32) dX6_isAt_32 rfl rfl ?_
      refine g_X6_40 (pc := 33) (v := .int (nI st.1)) rfl dX6_isAt_33 (c_117 _) (by show some (Value.int (σ.1 11702)) = _; rw [hR.2.2.2.2.2.1]) ?_
      refine R_iload_n (pc := 36) dX6_isAt_36 rfl rfl ?_
      refine R_iadd (pc := 37) dX6_isAt_37 ?_
      have r10 : inR ((nI st.1) + 1) 1 161 := inR_add (show inR (nI st.1) 0 160 from (show inR (nI st.1) 0 160 from (inR_nI (M := 160) (by omega) (by decide)))) (show inR 1 1 1 from (inR_self _)) (by decide) (by decide)
      have e11 := ti_add (l := 1) (h := 161) (show inR (nI st.1) 0 160 from (show inR (nI st.1) 0 160 from (inR_nI (M := 160) (by omega) (by decide)))) (show inR 1 1 1 from (inR_self _)) (by decide) (by decide)
      have hx12 : vp_in ((nI st.1) + 1) 160 := (vp_ti (by have q0 := (nI_toInt (n := st.1) (by omega)); have q1 := (nI_toInt (n := (tkE (σ.2.2.1 118) n st.1)) (by omega)); have q2 := (nI_toInt (n := n) (by omega)); have q3 := e2; have q4 := e6; have q5 := e11; have q6 := ti_eq b13_3; have q7 := ti_eq b44_8; have q8 := ti_in (show inR (nI st.1) 0 160 from (inR_nI (M := 160) (by omega) (by decide))); have q9 := ti_in (show inR (nI (tkE (σ.2.2.1 118) n st.1)) 0 160 from (inR_nI (M := 160) (by omega) (by decide))); have q10 := ti_in (show inR (nI n) 0 160 from (inR_nI (M := 160) (by omega) (by decide))); have q11 := ti_in r1; have q12 := ti_in r5; have q13 := ti_in r10; have z0 : (-160 : Int32).toInt = -160 := (by decide); have z1 : (0 : Int32).toInt = 0 := (by decide); have z2 : (1 : Int32).toInt = 1 := (by decide); have z3 : (102 : Int32).toInt = 102 := (by decide); have z4 : (118 : Int32).toInt = 118 := (by decide); have z5 : (160 : Int32).toInt = 160 := (by decide); have z6 : (161 : Int32).toInt = 161 := (by decide); have z7 : (4 : Int32).toInt = 4 := (by decide); omega) (by have q0 := (nI_toInt (n := st.1) (by omega)); have q1 := (nI_toInt (n := (tkE (σ.2.2.1 118) n st.1)) (by omega)); have q2 := (nI_toInt (n := n) (by omega)); have q3 := e2; have q4 := e6; have q5 := e11; have q6 := ti_eq b13_3; have q7 := ti_eq b44_8; have q8 := ti_in (show inR (nI st.1) 0 160 from (inR_nI (M := 160) (by omega) (by decide))); have q9 := ti_in (show inR (nI (tkE (σ.2.2.1 118) n st.1)) 0 160 from (inR_nI (M := 160) (by omega) (by decide))); have q10 := ti_in (show inR (nI n) 0 160 from (inR_nI (M := 160) (by omega) (by decide))); have q11 := ti_in r1; have q12 := ti_in r5; have q13 := ti_in r10; have z0 : (-160 : Int32).toInt = -160 := (by decide); have z1 : (0 : Int32).toInt = 0 := (by decide); have z2 : (1 : Int32).toInt = 1 := (by decide); have z3 : (102 : Int32).toInt = 102 := (by decide); have z4 : (118 : Int32).toInt = 118 := (by decide); have z5 : (160 : Int32).toInt = 160 := (by decide); have z6 : (161 : Int32).toInt = 161 := (by decide); have z7 : (4 : Int32).toInt = 4 := (by decide); omega))
      refine R_iaload (pc := 38) dX6_isAt_38 (c_118 _) hx12 ?_
      refine R_aload_n (pc := 39) dX6_isAt_39 rfl rfl ?_
      refine R_iload_n (pc := 40) dX6_isAt_40 rfl rfl ?_
      refine k_chr (pc := 41) (i := 1) (j := 1) 4 114 114 (by decide) (by decide) (by decide) (by decide) (by unfold vp_in; decide) (by decide) (by decide) rfl rfl (by decide) (Nat.zero_le _) (Nat.zero_le _) (Nat.le_of_ble_eq_true rfl) dX6_isAt_41 ?_
      refine R_iceq (pc := 44) 49 dX6_isAt_44 (by decide) (fun b44_13 => ?_) (fun b44_13 => ?_)
      · skip
        refine inc_3_2_1_a (pc := 49) dX6_isAt_49 ?_
        refine R_goto (pc := 52) 20 dX6_isAt_52 (by decide) ?_
        refine R_iload_n (pc := 20) dX6_isAt_20 rfl rfl ?_
        refine R_aload_n (pc := 21) dX6_isAt_21 rfl rfl ?_
        refine k_len (pc := 22) (i := 1) 4 (by decide) (by decide) rfl (by decide) (Nat.zero_le _) (Nat.zero_le _) (Nat.le_of_ble_eq_true rfl) dX6_isAt_22 ?_
        refine R_icge (pc := 25) 55 dX6_isAt_25 (by decide) (fun h => absurd h (by decide)) (fun _ => ?_)
        refine R_aload_n (pc := 28) dX6_isAt_28 rfl rfl ?_
        refine g_X6_9 (pc := 29) (v := .ref 118) rfl dX6_isAt_29 (c_117 _) rfl ?_
        refine R_aload_n (pc := 32) dX6_isAt_32 rfl rfl ?_
        refine g_X6_40 (pc := 33) (v := .int (nI st.1)) rfl dX6_isAt_33 (c_117 _) (by show some (Value.int (σ.1 11702)) = _; rw [hR.2.2.2.2.2.1]) ?_
        refine R_iload_n (pc := 36) dX6_isAt_36 rfl rfl ?_
        refine R_iadd (pc := 37) dX6_isAt_37 ?_
        have r15 : inR ((nI st.1) + 2) 2 162 := inR_add (show inR (nI st.1) 0 160 from (show inR (nI st.1) 0 160 from (inR_nI (M := 160) (by omega) (by decide)))) (show inR 2 2 2 from (inR_self _)) (by decide) (by decide)
        have e16 := ti_add (l := 2) (h := 162) (show inR (nI st.1) 0 160 from (show inR (nI st.1) 0 160 from (inR_nI (M := 160) (by omega) (by decide)))) (show inR 2 2 2 from (inR_self _)) (by decide) (by decide)
        have hx17 : vp_in ((nI st.1) + 2) 160 := (vp_ti (by have q0 := (nI_toInt (n := st.1) (by omega)); have q1 := (nI_toInt (n := (tkE (σ.2.2.1 118) n st.1)) (by omega)); have q2 := (nI_toInt (n := n) (by omega)); have q3 := e2; have q4 := e6; have q5 := e11; have q6 := e16; have q7 := ti_eq b13_3; have q8 := ti_eq b44_8; have q9 := ti_eq b44_13; have q10 := ti_in (show inR (nI st.1) 0 160 from (inR_nI (M := 160) (by omega) (by decide))); have q11 := ti_in (show inR (nI (tkE (σ.2.2.1 118) n st.1)) 0 160 from (inR_nI (M := 160) (by omega) (by decide))); have q12 := ti_in (show inR (nI n) 0 160 from (inR_nI (M := 160) (by omega) (by decide))); have q13 := ti_in r1; have q14 := ti_in r5; have q15 := ti_in r10; have q16 := ti_in r15; have z0 : (-160 : Int32).toInt = -160 := (by decide); have z1 : (0 : Int32).toInt = 0 := (by decide); have z2 : (1 : Int32).toInt = 1 := (by decide); have z3 : (102 : Int32).toInt = 102 := (by decide); have z4 : (114 : Int32).toInt = 114 := (by decide); have z5 : (118 : Int32).toInt = 118 := (by decide); have z6 : (160 : Int32).toInt = 160 := (by decide); have z7 : (161 : Int32).toInt = 161 := (by decide); have z8 : (162 : Int32).toInt = 162 := (by decide); have z9 : (2 : Int32).toInt = 2 := (by decide); have z10 : (4 : Int32).toInt = 4 := (by decide); omega) (by have q0 := (nI_toInt (n := st.1) (by omega)); have q1 := (nI_toInt (n := (tkE (σ.2.2.1 118) n st.1)) (by omega)); have q2 := (nI_toInt (n := n) (by omega)); have q3 := e2; have q4 := e6; have q5 := e11; have q6 := e16; have q7 := ti_eq b13_3; have q8 := ti_eq b44_8; have q9 := ti_eq b44_13; have q10 := ti_in (show inR (nI st.1) 0 160 from (inR_nI (M := 160) (by omega) (by decide))); have q11 := ti_in (show inR (nI (tkE (σ.2.2.1 118) n st.1)) 0 160 from (inR_nI (M := 160) (by omega) (by decide))); have q12 := ti_in (show inR (nI n) 0 160 from (inR_nI (M := 160) (by omega) (by decide))); have q13 := ti_in r1; have q14 := ti_in r5; have q15 := ti_in r10; have q16 := ti_in r15; have z0 : (-160 : Int32).toInt = -160 := (by decide); have z1 : (0 : Int32).toInt = 0 := (by decide); have z2 : (1 : Int32).toInt = 1 := (by decide); have z3 : (102 : Int32).toInt = 102 := (by decide); have z4 : (114 : Int32).toInt = 114 := (by decide); have z5 : (118 : Int32).toInt = 118 := (by decide); have z6 : (160 : Int32).toInt = 160 := (by decide); have z7 : (161 : Int32).toInt = 161 := (by decide); have z8 : (162 : Int32).toInt = 162 := (by decide); have z9 : (2 : Int32).toInt = 2 := (by decide); have z10 : (4 : Int32).toInt = 4 := (by decide); omega))
        refine R_iaload (pc := 38) dX6_isAt_38 (c_118 _) hx17 ?_
        refine R_aload_n (pc := 39) dX6_isAt_39 rfl rfl ?_
        refine R_iload_n (pc := 40) dX6_isAt_40 rfl rfl ?_
        refine k_chr (pc := 41) (i := 1) (j := 2) 4 111 111 (by decide) (by decide) (by decide) (by decide) (by unfold vp_in; decide) (by decide) (by decide) rfl rfl (by decide) (Nat.zero_le _) (Nat.zero_le _) (Nat.le_of_ble_eq_true rfl) dX6_isAt_41 ?_
        refine R_iceq (pc := 44) 49 dX6_isAt_44 (by decide) (fun b44_18 => ?_) (fun b44_18 => ?_)
        · skip
          refine inc_3_2_1_a (pc := 49) dX6_isAt_49 ?_
          refine R_goto (pc := 52) 20 dX6_isAt_52 (by decide) ?_
          refine R_iload_n (pc := 20) dX6_isAt_20 rfl rfl ?_
          refine R_aload_n (pc := 21) dX6_isAt_21 rfl rfl ?_
          refine k_len (pc := 22) (i := 1) 4 (by decide) (by decide) rfl (by decide) (Nat.zero_le _) (Nat.zero_le _) (Nat.le_of_ble_eq_true rfl) dX6_isAt_22 ?_
          refine R_icge (pc := 25) 55 dX6_isAt_25 (by decide) (fun h => absurd h (by decide)) (fun _ => ?_)
          refine R_aload_n (pc := 28) dX6_isAt_28 rfl rfl ?_
          refine g_X6_9 (pc := 29) (v := .ref 118) rfl dX6_isAt_29 (c_117 _) rfl ?_
          refine R_aload_n (pc := 32) dX6_isAt_32 rfl rfl ?_
          refine g_X6_40 (pc := 33) (v := .int (nI st.1)) rfl dX6_isAt_33 (c_117 _) (by show some (Value.int (σ.1 11702)) = _; rw [hR.2.2.2.2.2.1]) ?_
          refine R_iload_n (pc := 36) dX6_isAt_36 rfl rfl ?_
          refine R_iadd (pc := 37) dX6_isAt_37 ?_
          have r20 : inR ((nI st.1) + 3) 3 163 := inR_add (show inR (nI st.1) 0 160 from (show inR (nI st.1) 0 160 from (inR_nI (M := 160) (by omega) (by decide)))) (show inR 3 3 3 from (inR_self _)) (by decide) (by decide)
          have e21 := ti_add (l := 3) (h := 163) (show inR (nI st.1) 0 160 from (show inR (nI st.1) 0 160 from (inR_nI (M := 160) (by omega) (by decide)))) (show inR 3 3 3 from (inR_self _)) (by decide) (by decide)
          have hx22 : vp_in ((nI st.1) + 3) 160 := (vp_ti (by have q0 := (nI_toInt (n := st.1) (by omega)); have q1 := (nI_toInt (n := (tkE (σ.2.2.1 118) n st.1)) (by omega)); have q2 := (nI_toInt (n := n) (by omega)); have q3 := e2; have q4 := e6; have q5 := e11; have q6 := e16; have q7 := e21; have q8 := ti_eq b13_3; have q9 := ti_eq b44_8; have q10 := ti_eq b44_13; have q11 := ti_eq b44_18; have q12 := ti_in (show inR (nI st.1) 0 160 from (inR_nI (M := 160) (by omega) (by decide))); have q13 := ti_in (show inR (nI (tkE (σ.2.2.1 118) n st.1)) 0 160 from (inR_nI (M := 160) (by omega) (by decide))); have q14 := ti_in (show inR (nI n) 0 160 from (inR_nI (M := 160) (by omega) (by decide))); have q15 := ti_in r1; have q16 := ti_in r5; have q17 := ti_in r10; have q18 := ti_in r15; have q19 := ti_in r20; have z0 : (-160 : Int32).toInt = -160 := (by decide); have z1 : (0 : Int32).toInt = 0 := (by decide); have z2 : (1 : Int32).toInt = 1 := (by decide); have z3 : (102 : Int32).toInt = 102 := (by decide); have z4 : (111 : Int32).toInt = 111 := (by decide); have z5 : (114 : Int32).toInt = 114 := (by decide); have z6 : (118 : Int32).toInt = 118 := (by decide); have z7 : (160 : Int32).toInt = 160 := (by decide); have z8 : (161 : Int32).toInt = 161 := (by decide); have z9 : (162 : Int32).toInt = 162 := (by decide); have z10 : (163 : Int32).toInt = 163 := (by decide); have z11 : (2 : Int32).toInt = 2 := (by decide); have z12 : (3 : Int32).toInt = 3 := (by decide); have z13 : (4 : Int32).toInt = 4 := (by decide); omega) (by have q0 := (nI_toInt (n := st.1) (by omega)); have q1 := (nI_toInt (n := (tkE (σ.2.2.1 118) n st.1)) (by omega)); have q2 := (nI_toInt (n := n) (by omega)); have q3 := e2; have q4 := e6; have q5 := e11; have q6 := e16; have q7 := e21; have q8 := ti_eq b13_3; have q9 := ti_eq b44_8; have q10 := ti_eq b44_13; have q11 := ti_eq b44_18; have q12 := ti_in (show inR (nI st.1) 0 160 from (inR_nI (M := 160) (by omega) (by decide))); have q13 := ti_in (show inR (nI (tkE (σ.2.2.1 118) n st.1)) 0 160 from (inR_nI (M := 160) (by omega) (by decide))); have q14 := ti_in (show inR (nI n) 0 160 from (inR_nI (M := 160) (by omega) (by decide))); have q15 := ti_in r1; have q16 := ti_in r5; have q17 := ti_in r10; have q18 := ti_in r15; have q19 := ti_in r20; have z0 : (-160 : Int32).toInt = -160 := (by decide); have z1 : (0 : Int32).toInt = 0 := (by decide); have z2 : (1 : Int32).toInt = 1 := (by decide); have z3 : (102 : Int32).toInt = 102 := (by decide); have z4 : (111 : Int32).toInt = 111 := (by decide); have z5 : (114 : Int32).toInt = 114 := (by decide); have z6 : (118 : Int32).toInt = 118 := (by decide); have z7 : (160 : Int32).toInt = 160 := (by decide); have z8 : (161 : Int32).toInt = 161 := (by decide); have z9 : (162 : Int32).toInt = 162 := (by decide); have z10 : (163 : Int32).toInt = 163 := (by decide); have z11 : (2 : Int32).toInt = 2 := (by decide); have z12 : (3 : Int32).toInt = 3 := (by decide); have z13 : (4 : Int32).toInt = 4 := (by decide); omega))
          refine R_iaload (pc := 38) dX6_isAt_38 (c_118 _) hx22 ?_
          refine R_aload_n (pc := 39) dX6_isAt_39 rfl rfl ?_
          refine R_iload_n (pc := 40) dX6_isAt_40 rfl rfl ?_
          refine k_chr (pc := 41) (i := 1) (j := 3) 4 109 109 (by decide) (by decide) (by decide) (by decide) (by unfold vp_in; decide) (by decide) (by decide) rfl rfl (by decide) (Nat.zero_le _) (Nat.zero_le _) (Nat.le_of_ble_eq_true rfl) dX6_isAt_41 ?_
          refine R_iceq (pc := 44) 49 dX6_isAt_44 (by decide) (fun b44_23 => ?_) (fun b44_23 => ?_)
          · skip
            refine inc_3_2_1_a (pc := 49) dX6_isAt_49 ?_
            refine R_goto (pc := 52) 20 dX6_isAt_52 (by decide) ?_
            refine R_iload_n (pc := 20) dX6_isAt_20 rfl rfl ?_
            refine R_aload_n (pc := 21) dX6_isAt_21 rfl rfl ?_
            refine k_len (pc := 22) (i := 1) 4 (by decide) (by decide) rfl (by decide) (Nat.zero_le _) (Nat.zero_le _) (Nat.le_of_ble_eq_true rfl) dX6_isAt_22 ?_
            refine R_icge (pc := 25) 55 dX6_isAt_25 (by decide) (fun _ => ?_) (fun h => absurd (by decide) h)
            refine R_iconst (pc := 55) (v := 1) dX6_isAt_55 (by decide) ?_
            exact R_iret (pc := 56) dX6_isAt_56 rfl rfl (Nat.zero_le _) (Nat.zero_le _) ⟨_, rfl, rfl, Or.inl ⟨(by show (decide ((tkE (σ.2.2.1 118) n st.1) - st.1 = 4) && (decide ((σ.2.2.1 118) st.1 = 102) && (decide ((σ.2.2.1 118) (st.1 + 1) = 114) && (decide ((σ.2.2.1 118) (st.1 + 2) = 111) && decide ((σ.2.2.1 118) (st.1 + 3) = 109))))) = true; rw [len_t (show st.1 ≤ (tkE (σ.2.2.1 118) n st.1) by omega) (show (tkE (σ.2.2.1 118) n st.1) ≤ 160 by omega) (by decide) rfl b13_3, decide_eq_true (by have q : (σ.2.2.1 118 (Int32.toNatClampNeg ((nI st.1) + 0))) = 102 := b44_8; rw [ix0 (by omega)] at q; exact q), decide_eq_true (by have q : (σ.2.2.1 118 (Int32.toNatClampNeg ((nI st.1) + 1))) = 114 := b44_13; rw [ixk (i := 1) (X := 1) (by omega) (by decide) (by decide)] at q; exact q), decide_eq_true (by have q : (σ.2.2.1 118 (Int32.toNatClampNeg ((nI st.1) + 2))) = 111 := b44_18; rw [ixk (i := 2) (X := 2) (by omega) (by decide) (by decide)] at q; exact q), decide_eq_true (by have q : (σ.2.2.1 118 (Int32.toNatClampNeg ((nI st.1) + 3))) = 109 := b44_23; rw [ixk (i := 3) (X := 3) (by omega) (by decide) (by decide)] at q; exact q)] <;> first | rfl | simp), rfl⟩⟩
          · skip
            refine R_iconst (pc := 47) (v := 0) dX6_isAt_47 (by decide) ?_
            exact R_iret (pc := 48) dX6_isAt_48 rfl rfl (Nat.zero_le _) (Nat.zero_le _) ⟨_, rfl, rfl, Or.inr ⟨(by show (decide ((tkE (σ.2.2.1 118) n st.1) - st.1 = 4) && (decide ((σ.2.2.1 118) st.1 = 102) && (decide ((σ.2.2.1 118) (st.1 + 1) = 114) && (decide ((σ.2.2.1 118) (st.1 + 2) = 111) && decide ((σ.2.2.1 118) (st.1 + 3) = 109))))) = false; rw [len_t (show st.1 ≤ (tkE (σ.2.2.1 118) n st.1) by omega) (show (tkE (σ.2.2.1 118) n st.1) ≤ 160 by omega) (by decide) rfl b13_3, decide_eq_true (by have q : (σ.2.2.1 118 (Int32.toNatClampNeg ((nI st.1) + 0))) = 102 := b44_8; rw [ix0 (by omega)] at q; exact q), decide_eq_true (by have q : (σ.2.2.1 118 (Int32.toNatClampNeg ((nI st.1) + 1))) = 114 := b44_13; rw [ixk (i := 1) (X := 1) (by omega) (by decide) (by decide)] at q; exact q), decide_eq_true (by have q : (σ.2.2.1 118 (Int32.toNatClampNeg ((nI st.1) + 2))) = 111 := b44_18; rw [ixk (i := 2) (X := 2) (by omega) (by decide) (by decide)] at q; exact q), decide_eq_false (by have q : ¬ (σ.2.2.1 118 (Int32.toNatClampNeg ((nI st.1) + 3))) = 109 := b44_23; rw [ixk (i := 3) (X := 3) (by omega) (by decide) (by decide)] at q; exact q)] <;> first | rfl | simp), rfl⟩⟩
        · skip
          refine R_iconst (pc := 47) (v := 0) dX6_isAt_47 (by decide) ?_
          exact R_iret (pc := 48) dX6_isAt_48 rfl rfl (Nat.zero_le _) (Nat.zero_le _) ⟨_, rfl, rfl, Or.inr ⟨(by show (decide ((tkE (σ.2.2.1 118) n st.1) - st.1 = 4) && (decide ((σ.2.2.1 118) st.1 = 102) && (decide ((σ.2.2.1 118) (st.1 + 1) = 114) && (decide ((σ.2.2.1 118) (st.1 + 2) = 111) && decide ((σ.2.2.1 118) (st.1 + 3) = 109))))) = false; rw [len_t (show st.1 ≤ (tkE (σ.2.2.1 118) n st.1) by omega) (show (tkE (σ.2.2.1 118) n st.1) ≤ 160 by omega) (by decide) rfl b13_3, decide_eq_true (by have q : (σ.2.2.1 118 (Int32.toNatClampNeg ((nI st.1) + 0))) = 102 := b44_8; rw [ix0 (by omega)] at q; exact q), decide_eq_true (by have q : (σ.2.2.1 118 (Int32.toNatClampNeg ((nI st.1) + 1))) = 114 := b44_13; rw [ixk (i := 1) (X := 1) (by omega) (by decide) (by decide)] at q; exact q), decide_eq_false (by have q : ¬ (σ.2.2.1 118 (Int32.toNatClampNeg ((nI st.1) + 2))) = 111 := b44_18; rw [ixk (i := 2) (X := 2) (by omega) (by decide) (by decide)] at q; exact q)] <;> first | rfl | simp), rfl⟩⟩
      · skip
        refine R_iconst (pc := 47) (v := 0) dX6_isAt_47 (by decide) ?_
        exact R_iret (pc := 48) dX6_isAt_48 rfl rfl (Nat.zero_le _) (Nat.zero_le _) ⟨_, rfl, rfl, Or.inr ⟨(by show (decide ((tkE (σ.2.2.1 118) n st.1) - st.1 = 4) && (decide ((σ.2.2.1 118) st.1 = 102) && (decide ((σ.2.2.1 118) (st.1 + 1) = 114) && (decide ((σ.2.2.1 118) (st.1 + 2) = 111) && decide ((σ.2.2.1 118) (st.1 + 3) = 109))))) = false; rw [len_t (show st.1 ≤ (tkE (σ.2.2.1 118) n st.1) by omega) (show (tkE (σ.2.2.1 118) n st.1) ≤ 160 by omega) (by decide) rfl b13_3, decide_eq_true (by have q : (σ.2.2.1 118 (Int32.toNatClampNeg ((nI st.1) + 0))) = 102 := b44_8; rw [ix0 (by omega)] at q; exact q), decide_eq_false (by have q : ¬ (σ.2.2.1 118 (Int32.toNatClampNeg ((nI st.1) + 1))) = 114 := b44_13; rw [ixk (i := 1) (X := 1) (by omega) (by decide) (by decide)] at q; exact q)] <;> first | rfl | simp), rfl⟩⟩
    · skip
      refine R_iconst (pc := 47) (v := 0) dX6_isAt_47 (by decide) ?_
      exact R_iret (pc := 48) dX6_isAt_48 rfl rfl (Nat.zero_le _) (Nat.zero_le _) ⟨_, rfl, rfl, Or.inr ⟨(by show (decide ((tkE (σ.2.2.1 118) n st.1) - st.1 = 4) && (decide ((σ.2.2.1 118) st.1 = 102) && (decide ((σ.2.2.1 118) (st.1 + 1) = 114) && (decide ((σ.2.2.1 118) (st.1 + 2) = 111) && decide ((σ.2.2.1 118) (st.1 + 3) = 109))))) = false; rw [len_t (show st.1 ≤ (tkE (σ.2.2.1 118) n st.1) by omega) (show (tkE (σ.2.2.1 118) n st.1) ≤ 160 by omega) (by decide) rfl b13_3, decide_eq_false (by have q : ¬ (σ.2.2.1 118 (Int32.toNatClampNeg ((nI st.1) + 0))) = 102 := b44_8; rw [ix0 (by omega)] at q; exact q)] <;> first | rfl | simp), rfl⟩⟩
  · skip
    refine R_iconst (pc := 16) (v := 0) dX6_isAt_16 (by decide) ?_
    exact R_iret (pc := 17) dX6_isAt_17 rfl rfl (Nat.zero_le _) (Nat.zero_le _) ⟨_, rfl, rfl, Or.inr ⟨(by show (decide ((tkE (σ.2.2.1 118) n st.1) - st.1 = 4) && _) = false; rw [len_f (show st.1 ≤ (tkE (σ.2.2.1 118) n st.1) by omega) (show (tkE (σ.2.2.1 118) n st.1) ≤ 160 by omega) (by decide) rfl b13_3, Bool.false_and]), rfl⟩⟩
set_option maxRecDepth 100000 in
set_option maxHeartbeats 40000000 in
theorem ge_X6_isAt_2 {G : vG} {l : Launch} (σ : Sg) (n : Nat) (st : St)  (hI : Inv σ) (hR : RS σ σ n st) : Sp G l yX6_isAt cX6_isAt 3 (some .boolean) 5 0 0 [.ref 117, .ref 1000002] (WW σ) (QI (fun x w2 => w2 = WW σ ∧ (rdB (σ.2.2.1 118) n st.1 2 = true ∧ x = 1 ∨ rdB (σ.2.2.1 118) n st.1 2 = false ∧ x = 0))) := by
  refine Sp_of_R [(some (.ref 117)), (some (.ref 1000002)), none] [none] rfl (by simp) rfl (Nat.le_of_ble_eq_true rfl) ?_
  have hn160 : n ≤ 160 := hR.2.2.2.1
  have hsn : st.1 ≤ n := hR.2.2.2.2.1
  have hte := te_p (f := (σ.2.2.1 118)) hsn
  refine R_aload_n (pc := 0) dX6_isAt_0 rfl rfl ?_
  refine g_X6_21 (pc := 1) (v := .int (nI (tkE (σ.2.2.1 118) n st.1))) rfl dX6_isAt_1 (c_117 _) (by show some (Value.int (σ.1 11703)) = _; rw [hR.2.2.2.2.2.2.1]) ?_
  refine R_aload_n (pc := 4) dX6_isAt_4 rfl rfl ?_
  refine g_X6_40 (pc := 5) (v := .int (nI st.1)) rfl dX6_isAt_5 (c_117 _) (by show some (Value.int (σ.1 11702)) = _; rw [hR.2.2.2.2.2.1]) ?_
  refine R_isub (pc := 8) dX6_isAt_8 ?_
  have r1 : inR ((nI (tkE (σ.2.2.1 118) n st.1)) - (nI st.1)) (-160) 160 := inR_sub (show inR (nI (tkE (σ.2.2.1 118) n st.1)) 0 160 from (show inR (nI (tkE (σ.2.2.1 118) n st.1)) 0 160 from (inR_nI (M := 160) (by omega) (by decide)))) (show inR (nI st.1) 0 160 from (show inR (nI st.1) 0 160 from (inR_nI (M := 160) (by omega) (by decide)))) (by decide) (by decide)
  have e2 := ti_sub (l := (-160)) (h := 160) (show inR (nI (tkE (σ.2.2.1 118) n st.1)) 0 160 from (show inR (nI (tkE (σ.2.2.1 118) n st.1)) 0 160 from (inR_nI (M := 160) (by omega) (by decide)))) (show inR (nI st.1) 0 160 from (show inR (nI st.1) 0 160 from (inR_nI (M := 160) (by omega) (by decide)))) (by decide) (by decide)
  refine R_aload_n (pc := 9) dX6_isAt_9 rfl rfl ?_
  refine k_len (pc := 10) (i := 2) 2 (by decide) (by decide) rfl (by decide) (Nat.zero_le _) (Nat.zero_le _) (Nat.le_of_ble_eq_true rfl) dX6_isAt_10 ?_
  refine R_iceq (pc := 13) 18 dX6_isAt_13 (by decide) (fun b13_3 => ?_) (fun b13_3 => ?_)
  · skip
    refine R_iconst (pc := 18) (v := 0) dX6_isAt_18 (by decide) ?_
    refine st_3_2_i_a (pc := 19) dX6_isAt_19 ?_
    refine R_iload_n (pc := 20) dX6_isAt_20 rfl rfl ?_
    refine R_aload_n (pc := 21) dX6_isAt_21 rfl rfl ?_
    refine k_len (pc := 22) (i := 2) 2 (by decide) (by decide) rfl (by decide) (Nat.zero_le _) (Nat.zero_le _) (Nat.le_of_ble_eq_true rfl) dX6_isAt_22 ?_
    refine R_icge (pc := 25) 55 dX6_isAt_25 (by decide) (fun h => absurd h (by decide)) (fun _ => ?_)
    refine R_aload_n (pc := 28) dX6_isAt_28 rfl rfl ?_
    refine g_X6_9 (pc := 29) (v := .ref 118) rfl dX6_isAt_29 (c_117 _) rfl ?_
    refine R_aload_n (pc := 32) dX6_isAt_32 rfl rfl ?_
    refine g_X6_40 (pc := 33) (v := .int (nI st.1)) rfl dX6_isAt_33 (c_117 _) (by show some (Value.int (σ.1 11702)) = _; rw [hR.2.2.2.2.2.1]) ?_
    refine R_iload_n (pc := 36) dX6_isAt_36 rfl rfl ?_
    refine R_iadd (pc := 37) dX6_isAt_37 ?_
    have r5 : inR ((nI st.1) + 0) 0 160 := inR_add (show inR (nI st.1) 0 160 from (show inR (nI st.1) 0 160 from (inR_nI (M := 160) (by omega) (by decide)))) (show inR 0 0 0 from (inR_self _)) (by decide) (by decide)
    have e6 := ti_add (l := 0) (h := 160) (show inR (nI st.1) 0 160 from (show inR (nI st.1) 0 160 from (inR_nI (M := 160) (by omega) (by decide)))) (show inR 0 0 0 from (inR_self _)) (by decide) (by decide)
    have hx7 : vp_in ((nI st.1) + 0) 160 := (vp_ti (by have q0 := (nI_toInt (n := st.1) (by omega)); have q1 := (nI_toInt (n := (tkE (σ.2.2.1 118) n st.1)) (by omega)); have q2 := (nI_toInt (n := n) (by omega)); have q3 := e2; have q4 := e6; have q5 := ti_eq b13_3; have q6 := ti_in (show inR (nI st.1) 0 160 from (inR_nI (M := 160) (by omega) (by decide))); have q7 := ti_in (show inR (nI (tkE (σ.2.2.1 118) n st.1)) 0 160 from (inR_nI (M := 160) (by omega) (by decide))); have q8 := ti_in (show inR (nI n) 0 160 from (inR_nI (M := 160) (by omega) (by decide))); have q9 := ti_in r1; have q10 := ti_in r5; have z0 : (-160 : Int32).toInt = -160 := (by decide); have z1 : (0 : Int32).toInt = 0 := (by decide); have z2 : (1 : Int32).toInt = 1 := (by decide); have z3 : (118 : Int32).toInt = 118 := (by decide); have z4 : (160 : Int32).toInt = 160 := (by decide); have z5 : (2 : Int32).toInt = 2 := (by decide); omega) (by have q0 := (nI_toInt (n := st.1) (by omega)); have q1 := (nI_toInt (n := (tkE (σ.2.2.1 118) n st.1)) (by omega)); have q2 := (nI_toInt (n := n) (by omega)); have q3 := e2; have q4 := e6; have q5 := ti_eq b13_3; have q6 := ti_in (show inR (nI st.1) 0 160 from (inR_nI (M := 160) (by omega) (by decide))); have q7 := ti_in (show inR (nI (tkE (σ.2.2.1 118) n st.1)) 0 160 from (inR_nI (M := 160) (by omega) (by decide))); have q8 := ti_in (show inR (nI n) 0 160 from (inR_nI (M := 160) (by omega) (by decide))); have q9 := ti_in r1; have q10 := ti_in r5; have z0 : (-160 : Int32).toInt = -160 := (by decide); have z1 : (0 : Int32).toInt = 0 := (by decide); have z2 : (1 : Int32).toInt = 1 := (by decide); have z3 : (118 : Int32).toInt = 118 := (by decide); have z4 : (160 : Int32).toInt = 160 := (by decide); have z5 : (2 : Int32).toInt = 2 := (by decide); omega))
    refine R_iaload (pc := 38) dX6_isAt_38 (c_118 _) hx7 ?_
    refine R_aload_n (pc := 39) dX6_isAt_39 rfl rfl ?_
    refine R_iload_n (pc := 40) dX6_isAt_40 rfl rfl ?_
    refine k_chr (pc := 41) (i := 2) (j := 0) 2 116 116 (by decide) (by decide) (by decide) (by decide) (by unfold vp_in; decide) (by decide) (by decide) rfl rfl (by decide) (Nat.zero_le _) (Nat.zero_le _) (Nat.le_of_ble_eq_true rfl) dX6_isAt_41 ?_
    refine R_iceq (pc := 44) 49 dX6_isAt_44 (by decide) (fun b44_8 => ?_) (fun b44_8 => ?_)
    · skip
      refine inc_3_2_1_a (pc := 49) dX6_isAt_49 ?_
      refine R_goto (pc := 52) 20 dX6_isAt_52 (by decide) ?_
      refine R_iload_n (pc := 20) dX6_isAt_20 rfl rfl ?_
      refine R_aload_n (pc := 21) dX6_isAt_21 rfl rfl ?_
      refine k_len (pc := 22) (i := 2) 2 (by decide) (by decide) rfl (by decide) (Nat.zero_le _) (Nat.zero_le _) (Nat.le_of_ble_eq_true rfl) dX6_isAt_22 ?_
      refine R_icge (pc := 25) 55 dX6_isAt_25 (by decide) (fun h => absurd h (by decide)) (fun _ => ?_)
      refine R_aload_n (pc := 28) dX6_isAt_28 rfl rfl ?_
      refine g_X6_9 (pc := 29) (v := .ref 118) rfl dX6_isAt_29 (c_117 _) rfl ?_
      refine R_aload_n (pc := 32) dX6_isAt_32 rfl rfl ?_
      refine g_X6_40 (pc := 33) (v := .int (nI st.1)) rfl dX6_isAt_33 (c_117 _) (by show some (Value.int (σ.1 11702)) = _; rw [hR.2.2.2.2.2.1]) ?_
      refine R_iload_n (pc := 36) dX6_isAt_36 rfl rfl ?_
      refine R_iadd (pc := 37) dX6_isAt_37 ?_
      have r10 : inR ((nI st.1) + 1) 1 161 := inR_add (show inR (nI st.1) 0 160 from (show inR (nI st.1) 0 160 from (inR_nI (M := 160) (by omega) (by decide)))) (show inR 1 1 1 from (inR_self _)) (by decide) (by decide)
      have e11 := ti_add (l := 1) (h := 161) (show inR (nI st.1) 0 160 from (show inR (nI st.1) 0 160 from (inR_nI (M := 160) (by omega) (by decide)))) (show inR 1 1 1 from (inR_self _)) (by decide) (by decide)
      have hx12 : vp_in ((nI st.1) + 1) 160 := (vp_ti (by have q0 := (nI_toInt (n := st.1) (by omega)); have q1 := (nI_toInt (n := (tkE (σ.2.2.1 118) n st.1)) (by omega)); have q2 := (nI_toInt (n := n) (by omega)); have q3 := e2; have q4 := e6; have q5 := e11; have q6 := ti_eq b13_3; have q7 := ti_eq b44_8; have q8 := ti_in (show inR (nI st.1) 0 160 from (inR_nI (M := 160) (by omega) (by decide))); have q9 := ti_in (show inR (nI (tkE (σ.2.2.1 118) n st.1)) 0 160 from (inR_nI (M := 160) (by omega) (by decide))); have q10 := ti_in (show inR (nI n) 0 160 from (inR_nI (M := 160) (by omega) (by decide))); have q11 := ti_in r1; have q12 := ti_in r5; have q13 := ti_in r10; have z0 : (-160 : Int32).toInt = -160 := (by decide); have z1 : (0 : Int32).toInt = 0 := (by decide); have z2 : (1 : Int32).toInt = 1 := (by decide); have z3 : (116 : Int32).toInt = 116 := (by decide); have z4 : (118 : Int32).toInt = 118 := (by decide); have z5 : (160 : Int32).toInt = 160 := (by decide); have z6 : (161 : Int32).toInt = 161 := (by decide); have z7 : (2 : Int32).toInt = 2 := (by decide); omega) (by have q0 := (nI_toInt (n := st.1) (by omega)); have q1 := (nI_toInt (n := (tkE (σ.2.2.1 118) n st.1)) (by omega)); have q2 := (nI_toInt (n := n) (by omega)); have q3 := e2; have q4 := e6; have q5 := e11; have q6 := ti_eq b13_3; have q7 := ti_eq b44_8; have q8 := ti_in (show inR (nI st.1) 0 160 from (inR_nI (M := 160) (by omega) (by decide))); have q9 := ti_in (show inR (nI (tkE (σ.2.2.1 118) n st.1)) 0 160 from (inR_nI (M := 160) (by omega) (by decide))); have q10 := ti_in (show inR (nI n) 0 160 from (inR_nI (M := 160) (by omega) (by decide))); have q11 := ti_in r1; have q12 := ti_in r5; have q13 := ti_in r10; have z0 : (-160 : Int32).toInt = -160 := (by decide); have z1 : (0 : Int32).toInt = 0 := (by decide); have z2 : (1 : Int32).toInt = 1 := (by decide); have z3 : (116 : Int32).toInt = 116 := (by decide); have z4 : (118 : Int32).toInt = 118 := (by decide); have z5 : (160 : Int32).toInt = 160 := (by decide); have z6 : (161 : Int32).toInt = 161 := (by decide); have z7 : (2 : Int32).toInt = 2 := (by decide); omega))
      refine R_iaload (pc := 38) dX6_isAt_38 (c_118 _) hx12 ?_
      refine R_aload_n (pc := 39) dX6_isAt_39 rfl rfl ?_
      refine R_iload_n (pc := 40) dX6_isAt_40 rfl rfl ?_
      refine k_chr (pc := 41) (i := 2) (j := 1) 2 111 111 (by decide) (by decide) (by decide) (by decide) (by unfold vp_in; decide) (by decide) (by decide) rfl rfl (by decide) (Nat.zero_le _) (Nat.zero_le _) (Nat.le_of_ble_eq_true rfl) dX6_isAt_41 ?_
      refine R_iceq (pc := 44) 49 dX6_isAt_44 (by decide) (fun b44_13 => ?_) (fun b44_13 => ?_)
      · skip
        refine inc_3_2_1_a (pc := 49) dX6_isAt_49 ?_
        refine R_goto (pc := 52) 20 dX6_isAt_52 (by decide) ?_
        refine R_iload_n (pc := 20) dX6_isAt_20 rfl rfl ?_
        refine R_aload_n (pc := 21) dX6_isAt_21 rfl rfl ?_
        refine k_len (pc := 22) (i := 2) 2 (by decide) (by decide) rfl (by decide) (Nat.zero_le _) (Nat.zero_le _) (Nat.le_of_ble_eq_true rfl) dX6_isAt_22 ?_
        refine R_icge (pc := 25) 55 dX6_isAt_25 (by decide) (fun _ => ?_) (fun h => absurd (by decide) h)
        refine R_iconst (pc := 55) (v := 1) dX6_isAt_55 (by decide) ?_
        exact R_iret (pc := 56) dX6_isAt_56 rfl rfl (Nat.zero_le _) (Nat.zero_le _) ⟨_, rfl, rfl, Or.inl ⟨(by show (decide ((tkE (σ.2.2.1 118) n st.1) - st.1 = 2) && (decide ((σ.2.2.1 118) st.1 = 116) && decide ((σ.2.2.1 118) (st.1 + 1) = 111))) = true; rw [len_t (show st.1 ≤ (tkE (σ.2.2.1 118) n st.1) by omega) (show (tkE (σ.2.2.1 118) n st.1) ≤ 160 by omega) (by decide) rfl b13_3, decide_eq_true (by have q : (σ.2.2.1 118 (Int32.toNatClampNeg ((nI st.1) + 0))) = 116 := b44_8; rw [ix0 (by omega)] at q; exact q), decide_eq_true (by have q : (σ.2.2.1 118 (Int32.toNatClampNeg ((nI st.1) + 1))) = 111 := b44_13; rw [ixk (i := 1) (X := 1) (by omega) (by decide) (by decide)] at q; exact q)] <;> first | rfl | simp), rfl⟩⟩
      · skip
        refine R_iconst (pc := 47) (v := 0) dX6_isAt_47 (by decide) ?_
        exact R_iret (pc := 48) dX6_isAt_48 rfl rfl (Nat.zero_le _) (Nat.zero_le _) ⟨_, rfl, rfl, Or.inr ⟨(by show (decide ((tkE (σ.2.2.1 118) n st.1) - st.1 = 2) && (decide ((σ.2.2.1 118) st.1 = 116) && decide ((σ.2.2.1 118) (st.1 + 1) = 111))) = false; rw [len_t (show st.1 ≤ (tkE (σ.2.2.1 118) n st.1) by omega) (show (tkE (σ.2.2.1 118) n st.1) ≤ 160 by omega) (by decide) rfl b13_3, decide_eq_true (by have q : (σ.2.2.1 118 (Int32.toNatClampNeg ((nI st.1) + 0))) = 116 := b44_8; rw [ix0 (by omega)] at q; exact q), decide_eq_false (by have q : ¬ (σ.2.2.1 118 (Int32.toNatClampNeg ((nI st.1) + 1))) = 111 := b44_13; rw [ixk (i := 1) (X := 1) (by omega) (by decide) (by decide)] at q; exact q)] <;> first | rfl | simp), rfl⟩⟩
    · skip
      refine R_iconst (pc := 47) (v := 0) dX6_isAt_47 (by decide) ?_
      exact R_iret (pc := 48) dX6_isAt_48 rfl rfl (Nat.zero_le _) (Nat.zero_le _) ⟨_, rfl, rfl, Or.inr ⟨(by show (decide ((tkE (σ.2.2.1 118) n st.1) - st.1 = 2) && (decide ((σ.2.2.1 118) st.1 = 116) && decide ((σ.2.2.1 118) (st.1 + 1) = 111))) = false; rw [len_t (show st.1 ≤ (tkE (σ.2.2.1 118) n st.1) by omega) (show (tkE (σ.2.2.1 118) n st.1) ≤ 160 by omega) (by decide) rfl b13_3, decide_eq_false (by have q : ¬ (σ.2.2.1 118 (Int32.toNatClampNeg ((nI st.1) + 0))) = 116 := b44_8; rw [ix0 (by omega)] at q; exact q)] <;> first | rfl | simp), rfl⟩⟩
  · skip
    refine R_iconst (pc := 16) (v := 0) dX6_isAt_16 (by decide) ?_
    exact R_iret (pc := 17) dX6_isAt_17 rfl rfl (Nat.zero_le _) (Nat.zero_le _) ⟨_, rfl, rfl, Or.inr ⟨(by show (decide ((tkE (σ.2.2.1 118) n st.1) - st.1 = 2) && _) = false; rw [len_f (show st.1 ≤ (tkE (σ.2.2.1 118) n st.1) by omega) (show (tkE (σ.2.2.1 118) n st.1) ≤ 160 by omega) (by decide) rfl b13_3, Bool.false_and]), rfl⟩⟩
set_option maxRecDepth 100000 in
set_option maxHeartbeats 40000000 in
theorem ge_X6_isAt_3 {G : vG} {l : Launch} (σ : Sg) (n : Nat) (st : St)  (hI : Inv σ) (hR : RS σ σ n st) : Sp G l yX6_isAt cX6_isAt 3 (some .boolean) 5 0 0 [.ref 117, .ref 1000003] (WW σ) (QI (fun x w2 => w2 = WW σ ∧ (rdB (σ.2.2.1 118) n st.1 3 = true ∧ x = 1 ∨ rdB (σ.2.2.1 118) n st.1 3 = false ∧ x = 0))) := by
  refine Sp_of_R [(some (.ref 117)), (some (.ref 1000003)), none] [none] rfl (by simp) rfl (Nat.le_of_ble_eq_true rfl) ?_
  have hn160 : n ≤ 160 := hR.2.2.2.1
  have hsn : st.1 ≤ n := hR.2.2.2.2.1
  have hte := te_p (f := (σ.2.2.1 118)) hsn
  refine R_aload_n (pc := 0) dX6_isAt_0 rfl rfl ?_
  refine g_X6_21 (pc := 1) (v := .int (nI (tkE (σ.2.2.1 118) n st.1))) rfl dX6_isAt_1 (c_117 _) (by show some (Value.int (σ.1 11703)) = _; rw [hR.2.2.2.2.2.2.1]) ?_
  refine R_aload_n (pc := 4) dX6_isAt_4 rfl rfl ?_
  refine g_X6_40 (pc := 5) (v := .int (nI st.1)) rfl dX6_isAt_5 (c_117 _) (by show some (Value.int (σ.1 11702)) = _; rw [hR.2.2.2.2.2.1]) ?_
  refine R_isub (pc := 8) dX6_isAt_8 ?_
  have r1 : inR ((nI (tkE (σ.2.2.1 118) n st.1)) - (nI st.1)) (-160) 160 := inR_sub (show inR (nI (tkE (σ.2.2.1 118) n st.1)) 0 160 from (show inR (nI (tkE (σ.2.2.1 118) n st.1)) 0 160 from (inR_nI (M := 160) (by omega) (by decide)))) (show inR (nI st.1) 0 160 from (show inR (nI st.1) 0 160 from (inR_nI (M := 160) (by omega) (by decide)))) (by decide) (by decide)
  have e2 := ti_sub (l := (-160)) (h := 160) (show inR (nI (tkE (σ.2.2.1 118) n st.1)) 0 160 from (show inR (nI (tkE (σ.2.2.1 118) n st.1)) 0 160 from (inR_nI (M := 160) (by omega) (by decide)))) (show inR (nI st.1) 0 160 from (show inR (nI st.1) 0 160 from (inR_nI (M := 160) (by omega) (by decide)))) (by decide) (by decide)
  refine R_aload_n (pc := 9) dX6_isAt_9 rfl rfl ?_
  refine k_len (pc := 10) (i := 3) 3 (by decide) (by decide) rfl (by decide) (Nat.zero_le _) (Nat.zero_le _) (Nat.le_of_ble_eq_true rfl) dX6_isAt_10 ?_
  refine R_iceq (pc := 13) 18 dX6_isAt_13 (by decide) (fun b13_3 => ?_) (fun b13_3 => ?_)
  · skip
    refine R_iconst (pc := 18) (v := 0) dX6_isAt_18 (by decide) ?_
    refine st_3_2_i_a (pc := 19) dX6_isAt_19 ?_
    refine R_iload_n (pc := 20) dX6_isAt_20 rfl rfl ?_
    refine R_aload_n (pc := 21) dX6_isAt_21 rfl rfl ?_
    refine k_len (pc := 22) (i := 3) 3 (by decide) (by decide) rfl (by decide) (Nat.zero_le _) (Nat.zero_le _) (Nat.le_of_ble_eq_true rfl) dX6_isAt_22 ?_
    refine R_icge (pc := 25) 55 dX6_isAt_25 (by decide) (fun h => absurd h (by decide)) (fun _ => ?_)
    refine R_aload_n (pc := 28) dX6_isAt_28 rfl rfl ?_
    refine g_X6_9 (pc := 29) (v := .ref 118) rfl dX6_isAt_29 (c_117 _) rfl ?_
    refine R_aload_n (pc := 32) dX6_isAt_32 rfl rfl ?_
    refine g_X6_40 (pc := 33) (v := .int (nI st.1)) rfl dX6_isAt_33 (c_117 _) (by show some (Value.int (σ.1 11702)) = _; rw [hR.2.2.2.2.2.1]) ?_
    refine R_iload_n (pc := 36) dX6_isAt_36 rfl rfl ?_
    refine R_iadd (pc := 37) dX6_isAt_37 ?_
    have r5 : inR ((nI st.1) + 0) 0 160 := inR_add (show inR (nI st.1) 0 160 from (show inR (nI st.1) 0 160 from (inR_nI (M := 160) (by omega) (by decide)))) (show inR 0 0 0 from (inR_self _)) (by decide) (by decide)
    have e6 := ti_add (l := 0) (h := 160) (show inR (nI st.1) 0 160 from (show inR (nI st.1) 0 160 from (inR_nI (M := 160) (by omega) (by decide)))) (show inR 0 0 0 from (inR_self _)) (by decide) (by decide)
    have hx7 : vp_in ((nI st.1) + 0) 160 := (vp_ti (by have q0 := (nI_toInt (n := st.1) (by omega)); have q1 := (nI_toInt (n := (tkE (σ.2.2.1 118) n st.1)) (by omega)); have q2 := (nI_toInt (n := n) (by omega)); have q3 := e2; have q4 := e6; have q5 := ti_eq b13_3; have q6 := ti_in (show inR (nI st.1) 0 160 from (inR_nI (M := 160) (by omega) (by decide))); have q7 := ti_in (show inR (nI (tkE (σ.2.2.1 118) n st.1)) 0 160 from (inR_nI (M := 160) (by omega) (by decide))); have q8 := ti_in (show inR (nI n) 0 160 from (inR_nI (M := 160) (by omega) (by decide))); have q9 := ti_in r1; have q10 := ti_in r5; have z0 : (-160 : Int32).toInt = -160 := (by decide); have z1 : (0 : Int32).toInt = 0 := (by decide); have z2 : (1 : Int32).toInt = 1 := (by decide); have z3 : (118 : Int32).toInt = 118 := (by decide); have z4 : (160 : Int32).toInt = 160 := (by decide); have z5 : (3 : Int32).toInt = 3 := (by decide); omega) (by have q0 := (nI_toInt (n := st.1) (by omega)); have q1 := (nI_toInt (n := (tkE (σ.2.2.1 118) n st.1)) (by omega)); have q2 := (nI_toInt (n := n) (by omega)); have q3 := e2; have q4 := e6; have q5 := ti_eq b13_3; have q6 := ti_in (show inR (nI st.1) 0 160 from (inR_nI (M := 160) (by omega) (by decide))); have q7 := ti_in (show inR (nI (tkE (σ.2.2.1 118) n st.1)) 0 160 from (inR_nI (M := 160) (by omega) (by decide))); have q8 := ti_in (show inR (nI n) 0 160 from (inR_nI (M := 160) (by omega) (by decide))); have q9 := ti_in r1; have q10 := ti_in r5; have z0 : (-160 : Int32).toInt = -160 := (by decide); have z1 : (0 : Int32).toInt = 0 := (by decide); have z2 : (1 : Int32).toInt = 1 := (by decide); have z3 : (118 : Int32).toInt = 118 := (by decide); have z4 : (160 : Int32).toInt = 160 := (by decide); have z5 : (3 : Int32).toInt = 3 := (by decide); omega))
    refine R_iaload (pc := 38) dX6_isAt_38 (c_118 _) hx7 ?_
    refine R_aload_n (pc := 39) dX6_isAt_39 rfl rfl ?_
    refine R_iload_n (pc := 40) dX6_isAt_40 rfl rfl ?_
    refine k_chr (pc := 41) (i := 3) (j := 0) 3 100 100 (by decide) (by decide) (by decide) (by decide) (by unfold vp_in; decide) (by decide) (by decide) rfl rfl (by decide) (Nat.zero_le _) (Nat.zero_le _) (Nat.le_of_ble_eq_true rfl) dX6_isAt_41 ?_
    refine R_iceq (pc := 44) 49 dX6_isAt_44 (by decide) (fun b44_8 => ?_) (fun b44_8 => ?_)
    · skip
      refine inc_3_2_1_a (pc := 49) dX6_isAt_49 ?_
      refine R_goto (pc := 52) 20 dX6_isAt_52 (by decide) ?_
      refine R_iload_n (pc := 20) dX6_isAt_20 rfl rfl ?_
      refine R_aload_n (pc := 21) dX6_isAt_21 rfl rfl ?_
      refine k_len (pc := 22) (i := 3) 3 (by decide) (by decide) rfl (by decide) (Nat.zero_le _) (Nat.zero_le _) (Nat.le_of_ble_eq_true rfl) dX6_isAt_22 ?_
      refine R_icge (pc := 25) 55 dX6_isAt_25 (by decide) (fun h => absurd h (by decide)) (fun _ => ?_)
      refine R_aload_n (pc := 28) dX6_isAt_28 rfl rfl ?_
      refine g_X6_9 (pc := 29) (v := .ref 118) rfl dX6_isAt_29 (c_117 _) rfl ?_
      refine R_aload_n (pc := 32) dX6_isAt_32 rfl rfl ?_
      refine g_X6_40 (pc := 33) (v := .int (nI st.1)) rfl dX6_isAt_33 (c_117 _) (by show some (Value.int (σ.1 11702)) = _; rw [hR.2.2.2.2.2.1]) ?_
      refine R_iload_n (pc := 36) dX6_isAt_36 rfl rfl ?_
      refine R_iadd (pc := 37) dX6_isAt_37 ?_
      have r10 : inR ((nI st.1) + 1) 1 161 := inR_add (show inR (nI st.1) 0 160 from (show inR (nI st.1) 0 160 from (inR_nI (M := 160) (by omega) (by decide)))) (show inR 1 1 1 from (inR_self _)) (by decide) (by decide)
      have e11 := ti_add (l := 1) (h := 161) (show inR (nI st.1) 0 160 from (show inR (nI st.1) 0 160 from (inR_nI (M := 160) (by omega) (by decide)))) (show inR 1 1 1 from (inR_self _)) (by decide) (by decide)
      have hx12 : vp_in ((nI st.1) + 1) 160 := (vp_ti (by have q0 := (nI_toInt (n := st.1) (by omega)); have q1 := (nI_toInt (n := (tkE (σ.2.2.1 118) n st.1)) (by omega)); have q2 := (nI_toInt (n := n) (by omega)); have q3 := e2; have q4 := e6; have q5 := e11; have q6 := ti_eq b13_3; have q7 := ti_eq b44_8; have q8 := ti_in (show inR (nI st.1) 0 160 from (inR_nI (M := 160) (by omega) (by decide))); have q9 := ti_in (show inR (nI (tkE (σ.2.2.1 118) n st.1)) 0 160 from (inR_nI (M := 160) (by omega) (by decide))); have q10 := ti_in (show inR (nI n) 0 160 from (inR_nI (M := 160) (by omega) (by decide))); have q11 := ti_in r1; have q12 := ti_in r5; have q13 := ti_in r10; have z0 : (-160 : Int32).toInt = -160 := (by decide); have z1 : (0 : Int32).toInt = 0 := (by decide); have z2 : (1 : Int32).toInt = 1 := (by decide); have z3 : (100 : Int32).toInt = 100 := (by decide); have z4 : (118 : Int32).toInt = 118 := (by decide); have z5 : (160 : Int32).toInt = 160 := (by decide); have z6 : (161 : Int32).toInt = 161 := (by decide); have z7 : (3 : Int32).toInt = 3 := (by decide); omega) (by have q0 := (nI_toInt (n := st.1) (by omega)); have q1 := (nI_toInt (n := (tkE (σ.2.2.1 118) n st.1)) (by omega)); have q2 := (nI_toInt (n := n) (by omega)); have q3 := e2; have q4 := e6; have q5 := e11; have q6 := ti_eq b13_3; have q7 := ti_eq b44_8; have q8 := ti_in (show inR (nI st.1) 0 160 from (inR_nI (M := 160) (by omega) (by decide))); have q9 := ti_in (show inR (nI (tkE (σ.2.2.1 118) n st.1)) 0 160 from (inR_nI (M := 160) (by omega) (by decide))); have q10 := ti_in (show inR (nI n) 0 160 from (inR_nI (M := 160) (by omega) (by decide))); have q11 := ti_in r1; have q12 := ti_in r5; have q13 := ti_in r10; have z0 : (-160 : Int32).toInt = -160 := (by decide); have z1 : (0 : Int32).toInt = 0 := (by decide); have z2 : (1 : Int32).toInt = 1 := (by decide); have z3 : (100 : Int32).toInt = 100 := (by decide); have z4 : (118 : Int32).toInt = 118 := (by decide); have z5 : (160 : Int32).toInt = 160 := (by decide); have z6 : (161 : Int32).toInt = 161 := (by decide); have z7 : (3 : Int32).toInt = 3 := (by decide); omega))
      refine R_iaload (pc := 38) dX6_isAt_38 (c_118 _) hx12 ?_
      refine R_aload_n (pc := 39) dX6_isAt_39 rfl rfl ?_
      refine R_iload_n (pc := 40) dX6_isAt_40 rfl rfl ?_
      refine k_chr (pc := 41) (i := 3) (j := 1) 3 97 97 (by decide) (by decide) (by decide) (by decide) (by unfold vp_in; decide) (by decide) (by decide) rfl rfl (by decide) (Nat.zero_le _) (Nat.zero_le _) (Nat.le_of_ble_eq_true rfl) dX6_isAt_41 ?_
      refine R_iceq (pc := 44) 49 dX6_isAt_44 (by decide) (fun b44_13 => ?_) (fun b44_13 => ?_)
      · skip
        refine inc_3_2_1_a (pc := 49) dX6_isAt_49 ?_
        refine R_goto (pc := 52) 20 dX6_isAt_52 (by decide) ?_
        refine R_iload_n (pc := 20) dX6_isAt_20 rfl rfl ?_
        refine R_aload_n (pc := 21) dX6_isAt_21 rfl rfl ?_
        refine k_len (pc := 22) (i := 3) 3 (by decide) (by decide) rfl (by decide) (Nat.zero_le _) (Nat.zero_le _) (Nat.le_of_ble_eq_true rfl) dX6_isAt_22 ?_
        refine R_icge (pc := 25) 55 dX6_isAt_25 (by decide) (fun h => absurd h (by decide)) (fun _ => ?_)
        refine R_aload_n (pc := 28) dX6_isAt_28 rfl rfl ?_
        refine g_X6_9 (pc := 29) (v := .ref 118) rfl dX6_isAt_29 (c_117 _) rfl ?_
        refine R_aload_n (pc := 32) dX6_isAt_32 rfl rfl ?_
        refine g_X6_40 (pc := 33) (v := .int (nI st.1)) rfl dX6_isAt_33 (c_117 _) (by show some (Value.int (σ.1 11702)) = _; rw [hR.2.2.2.2.2.1]) ?_
        refine R_iload_n (pc := 36) dX6_isAt_36 rfl rfl ?_
        refine R_iadd (pc := 37) dX6_isAt_37 ?_
        have r15 : inR ((nI st.1) + 2) 2 162 := inR_add (show inR (nI st.1) 0 160 from (show inR (nI st.1) 0 160 from (inR_nI (M := 160) (by omega) (by decide)))) (show inR 2 2 2 from (inR_self _)) (by decide) (by decide)
        have e16 := ti_add (l := 2) (h := 162) (show inR (nI st.1) 0 160 from (show inR (nI st.1) 0 160 from (inR_nI (M := 160) (by omega) (by decide)))) (show inR 2 2 2 from (inR_self _)) (by decide) (by decide)
        have hx17 : vp_in ((nI st.1) + 2) 160 := (vp_ti (by have q0 := (nI_toInt (n := st.1) (by omega)); have q1 := (nI_toInt (n := (tkE (σ.2.2.1 118) n st.1)) (by omega)); have q2 := (nI_toInt (n := n) (by omega)); have q3 := e2; have q4 := e6; have q5 := e11; have q6 := e16; have q7 := ti_eq b13_3; have q8 := ti_eq b44_8; have q9 := ti_eq b44_13; have q10 := ti_in (show inR (nI st.1) 0 160 from (inR_nI (M := 160) (by omega) (by decide))); have q11 := ti_in (show inR (nI (tkE (σ.2.2.1 118) n st.1)) 0 160 from (inR_nI (M := 160) (by omega) (by decide))); have q12 := ti_in (show inR (nI n) 0 160 from (inR_nI (M := 160) (by omega) (by decide))); have q13 := ti_in r1; have q14 := ti_in r5; have q15 := ti_in r10; have q16 := ti_in r15; have z0 : (-160 : Int32).toInt = -160 := (by decide); have z1 : (0 : Int32).toInt = 0 := (by decide); have z2 : (1 : Int32).toInt = 1 := (by decide); have z3 : (100 : Int32).toInt = 100 := (by decide); have z4 : (118 : Int32).toInt = 118 := (by decide); have z5 : (160 : Int32).toInt = 160 := (by decide); have z6 : (161 : Int32).toInt = 161 := (by decide); have z7 : (162 : Int32).toInt = 162 := (by decide); have z8 : (2 : Int32).toInt = 2 := (by decide); have z9 : (3 : Int32).toInt = 3 := (by decide); have z10 : (97 : Int32).toInt = 97 := (by decide); omega) (by have q0 := (nI_toInt (n := st.1) (by omega)); have q1 := (nI_toInt (n := (tkE (σ.2.2.1 118) n st.1)) (by omega)); have q2 := (nI_toInt (n := n) (by omega)); have q3 := e2; have q4 := e6; have q5 := e11; have q6 := e16; have q7 := ti_eq b13_3; have q8 := ti_eq b44_8; have q9 := ti_eq b44_13; have q10 := ti_in (show inR (nI st.1) 0 160 from (inR_nI (M := 160) (by omega) (by decide))); have q11 := ti_in (show inR (nI (tkE (σ.2.2.1 118) n st.1)) 0 160 from (inR_nI (M := 160) (by omega) (by decide))); have q12 := ti_in (show inR (nI n) 0 160 from (inR_nI (M := 160) (by omega) (by decide))); have q13 := ti_in r1; have q14 := ti_in r5; have q15 := ti_in r10; have q16 := ti_in r15; have z0 : (-160 : Int32).toInt = -160 := (by decide); have z1 : (0 : Int32).toInt = 0 := (by decide); have z2 : (1 : Int32).toInt = 1 := (by decide); have z3 : (100 : Int32).toInt = 100 := (by decide); have z4 : (118 : Int32).toInt = 118 := (by decide); have z5 : (160 : Int32).toInt = 160 := (by decide); have z6 : (161 : Int32).toInt = 161 := (by decide); have z7 : (162 : Int32).toInt = 162 := (by decide); have z8 : (2 : Int32).toInt = 2 := (by decide); have z9 : (3 : Int32).toInt = 3 := (by decide); have z10 : (97 : Int32).toInt = 97 := (by decide); omega))
        refine R_iaload (pc := 38) dX6_isAt_38 (c_118 _) hx17 ?_
        refine R_aload_n (pc := 39) dX6_isAt_39 rfl rfl ?_
        refine R_iload_n (pc := 40) dX6_isAt_40 rfl rfl ?_
        refine k_chr (pc := 41) (i := 3) (j := 2) 3 121 121 (by decide) (by decide) (by decide) (by decide) (by unfold vp_in; decide) (by decide) (by decide) rfl rfl (by decide) (Nat.zero_le _) (Nat.zero_le _) (Nat.le_of_ble_eq_true rfl) dX6_isAt_41 ?_
        refine R_iceq (pc := 44) 49 dX6_isAt_44 (by decide) (fun b44_18 => ?_) (fun b44_18 => ?_)
        · skip
          refine inc_3_2_1_a (pc := 49) dX6_isAt_49 ?_
          refine R_goto (pc := 52) 20 dX6_isAt_52 (by decide) ?_
          refine R_iload_n (pc := 20) dX6_isAt_20 rfl rfl ?_
          refine R_aload_n (pc := 21) dX6_isAt_21 rfl rfl ?_
          refine k_len (pc := 22) (i := 3) 3 (by decide) (by decide) rfl (by decide) (Nat.zero_le _) (Nat.zero_le _) (Nat.le_of_ble_eq_true rfl) dX6_isAt_22 ?_
          refine R_icge (pc := 25) 55 dX6_isAt_25 (by decide) (fun _ => ?_) (fun h => absurd (by decide) h)
          refine R_iconst (pc := 55) (v := 1) dX6_isAt_55 (by decide) ?_
          exact R_iret (pc := 56) dX6_isAt_56 rfl rfl (Nat.zero_le _) (Nat.zero_le _) ⟨_, rfl, rfl, Or.inl ⟨(by show (decide ((tkE (σ.2.2.1 118) n st.1) - st.1 = 3) && (decide ((σ.2.2.1 118) st.1 = 100) && (decide ((σ.2.2.1 118) (st.1 + 1) = 97) && decide ((σ.2.2.1 118) (st.1 + 2) = 121)))) = true; rw [len_t (show st.1 ≤ (tkE (σ.2.2.1 118) n st.1) by omega) (show (tkE (σ.2.2.1 118) n st.1) ≤ 160 by omega) (by decide) rfl b13_3, decide_eq_true (by have q : (σ.2.2.1 118 (Int32.toNatClampNeg ((nI st.1) + 0))) = 100 := b44_8; rw [ix0 (by omega)] at q; exact q), decide_eq_true (by have q : (σ.2.2.1 118 (Int32.toNatClampNeg ((nI st.1) + 1))) = 97 := b44_13; rw [ixk (i := 1) (X := 1) (by omega) (by decide) (by decide)] at q; exact q), decide_eq_true (by have q : (σ.2.2.1 118 (Int32.toNatClampNeg ((nI st.1) + 2))) = 121 := b44_18; rw [ixk (i := 2) (X := 2) (by omega) (by decide) (by decide)] at q; exact q)] <;> first | rfl | simp), rfl⟩⟩
        · skip
          refine R_iconst (pc := 47) (v := 0) dX6_isAt_47 (by decide) ?_
          exact R_iret (pc := 48) dX6_isAt_48 rfl rfl (Nat.zero_le _) (Nat.zero_le _) ⟨_, rfl, rfl, Or.inr ⟨(by show (decide ((tkE (σ.2.2.1 118) n st.1) - st.1 = 3) && (decide ((σ.2.2.1 118) st.1 = 100) && (decide ((σ.2.2.1 118) (st.1 + 1) = 97) && decide ((σ.2.2.1 118) (st.1 + 2) = 121)))) = false; rw [len_t (show st.1 ≤ (tkE (σ.2.2.1 118) n st.1) by omega) (show (tkE (σ.2.2.1 118) n st.1) ≤ 160 by omega) (by decide) rfl b13_3, decide_eq_true (by have q : (σ.2.2.1 118 (Int32.toNatClampNeg ((nI st.1) + 0))) = 100 := b44_8; rw [ix0 (by omega)] at q; exact q), decide_eq_true (by have q : (σ.2.2.1 118 (Int32.toNatClampNeg ((nI st.1) + 1))) = 97 := b44_13; rw [ixk (i := 1) (X := 1) (by omega) (by decide) (by decide)] at q; exact q), decide_eq_false (by have q : ¬ (σ.2.2.1 118 (Int32.toNatClampNeg ((nI st.1) + 2))) = 121 := b44_18; rw [ixk (i := 2) (X := 2) (by omega) (by decide) (by decide)] at q; exact q)] <;> first | rfl | simp), rfl⟩⟩
      · skip
        refine R_iconst (pc := 47) (v := 0) dX6_isAt_47 (by decide) ?_
        exact R_iret (pc := 48) dX6_isAt_48 rfl rfl (Nat.zero_le _) (Nat.zero_le _) ⟨_, rfl, rfl, Or.inr ⟨(by show (decide ((tkE (σ.2.2.1 118) n st.1) - st.1 = 3) && (decide ((σ.2.2.1 118) st.1 = 100) && (decide ((σ.2.2.1 118) (st.1 + 1) = 97) && decide ((σ.2.2.1 118) (st.1 + 2) = 121)))) = false; rw [len_t (show st.1 ≤ (tkE (σ.2.2.1 118) n st.1) by omega) (show (tkE (σ.2.2.1 118) n st.1) ≤ 160 by omega) (by decide) rfl b13_3, decide_eq_true (by have q : (σ.2.2.1 118 (Int32.toNatClampNeg ((nI st.1) + 0))) = 100 := b44_8; rw [ix0 (by omega)] at q; exact q), decide_eq_false (by have q : ¬ (σ.2.2.1 118 (Int32.toNatClampNeg ((nI st.1) + 1))) = 97 := b44_13; rw [ixk (i := 1) (X := 1) (by omega) (by decide) (by decide)] at q; exact q)] <;> first | rfl | simp), rfl⟩⟩
    · skip
      refine R_iconst (pc := 47) (v := 0) dX6_isAt_47 (by decide) ?_
      exact R_iret (pc := 48) dX6_isAt_48 rfl rfl (Nat.zero_le _) (Nat.zero_le _) ⟨_, rfl, rfl, Or.inr ⟨(by show (decide ((tkE (σ.2.2.1 118) n st.1) - st.1 = 3) && (decide ((σ.2.2.1 118) st.1 = 100) && (decide ((σ.2.2.1 118) (st.1 + 1) = 97) && decide ((σ.2.2.1 118) (st.1 + 2) = 121)))) = false; rw [len_t (show st.1 ≤ (tkE (σ.2.2.1 118) n st.1) by omega) (show (tkE (σ.2.2.1 118) n st.1) ≤ 160 by omega) (by decide) rfl b13_3, decide_eq_false (by have q : ¬ (σ.2.2.1 118 (Int32.toNatClampNeg ((nI st.1) + 0))) = 100 := b44_8; rw [ix0 (by omega)] at q; exact q)] <;> first | rfl | simp), rfl⟩⟩
  · skip
    refine R_iconst (pc := 16) (v := 0) dX6_isAt_16 (by decide) ?_
    exact R_iret (pc := 17) dX6_isAt_17 rfl rfl (Nat.zero_le _) (Nat.zero_le _) ⟨_, rfl, rfl, Or.inr ⟨(by show (decide ((tkE (σ.2.2.1 118) n st.1) - st.1 = 3) && _) = false; rw [len_f (show st.1 ≤ (tkE (σ.2.2.1 118) n st.1) by omega) (show (tkE (σ.2.2.1 118) n st.1) ≤ 160 by omega) (by decide) rfl b13_3, Bool.false_and]), rfl⟩⟩
set_option maxRecDepth 100000 in
set_option maxHeartbeats 40000000 in
theorem ge_X6_isAt_4 {G : vG} {l : Launch} (σ : Sg) (n : Nat) (st : St)  (hI : Inv σ) (hR : RS σ σ n st) : Sp G l yX6_isAt cX6_isAt 3 (some .boolean) 5 0 0 [.ref 117, .ref 1000004] (WW σ) (QI (fun x w2 => w2 = WW σ ∧ (rdB (σ.2.2.1 118) n st.1 4 = true ∧ x = 1 ∨ rdB (σ.2.2.1 118) n st.1 4 = false ∧ x = 0))) := by
  refine Sp_of_R [(some (.ref 117)), (some (.ref 1000004)), none] [none] rfl (by simp) rfl (Nat.le_of_ble_eq_true rfl) ?_
  have hn160 : n ≤ 160 := hR.2.2.2.1
  have hsn : st.1 ≤ n := hR.2.2.2.2.1
  have hte := te_p (f := (σ.2.2.1 118)) hsn
  refine R_aload_n (pc := 0) dX6_isAt_0 rfl rfl ?_
  refine g_X6_21 (pc := 1) (v := .int (nI (tkE (σ.2.2.1 118) n st.1))) rfl dX6_isAt_1 (c_117 _) (by show some (Value.int (σ.1 11703)) = _; rw [hR.2.2.2.2.2.2.1]) ?_
  refine R_aload_n (pc := 4) dX6_isAt_4 rfl rfl ?_
  refine g_X6_40 (pc := 5) (v := .int (nI st.1)) rfl dX6_isAt_5 (c_117 _) (by show some (Value.int (σ.1 11702)) = _; rw [hR.2.2.2.2.2.1]) ?_
  refine R_isub (pc := 8) dX6_isAt_8 ?_
  have r1 : inR ((nI (tkE (σ.2.2.1 118) n st.1)) - (nI st.1)) (-160) 160 := inR_sub (show inR (nI (tkE (σ.2.2.1 118) n st.1)) 0 160 from (show inR (nI (tkE (σ.2.2.1 118) n st.1)) 0 160 from (inR_nI (M := 160) (by omega) (by decide)))) (show inR (nI st.1) 0 160 from (show inR (nI st.1) 0 160 from (inR_nI (M := 160) (by omega) (by decide)))) (by decide) (by decide)
  have e2 := ti_sub (l := (-160)) (h := 160) (show inR (nI (tkE (σ.2.2.1 118) n st.1)) 0 160 from (show inR (nI (tkE (σ.2.2.1 118) n st.1)) 0 160 from (inR_nI (M := 160) (by omega) (by decide)))) (show inR (nI st.1) 0 160 from (show inR (nI st.1) 0 160 from (inR_nI (M := 160) (by omega) (by decide)))) (by decide) (by decide)
  refine R_aload_n (pc := 9) dX6_isAt_9 rfl rfl ?_
  refine k_len (pc := 10) (i := 4) 4 (by decide) (by decide) rfl (by decide) (Nat.zero_le _) (Nat.zero_le _) (Nat.le_of_ble_eq_true rfl) dX6_isAt_10 ?_
  refine R_iceq (pc := 13) 18 dX6_isAt_13 (by decide) (fun b13_3 => ?_) (fun b13_3 => ?_)
  · skip
    refine R_iconst (pc := 18) (v := 0) dX6_isAt_18 (by decide) ?_
    refine st_3_2_i_a (pc := 19) dX6_isAt_19 ?_
    refine R_iload_n (pc := 20) dX6_isAt_20 rfl rfl ?_
    refine R_aload_n (pc := 21) dX6_isAt_21 rfl rfl ?_
    refine k_len (pc := 22) (i := 4) 4 (by decide) (by decide) rfl (by decide) (Nat.zero_le _) (Nat.zero_le _) (Nat.le_of_ble_eq_true rfl) dX6_isAt_22 ?_
    refine R_icge (pc := 25) 55 dX6_isAt_25 (by decide) (fun h => absurd h (by decide)) (fun _ => ?_)
    refine R_aload_n (pc := 28) dX6_isAt_28 rfl rfl ?_
    refine g_X6_9 (pc := 29) (v := .ref 118) rfl dX6_isAt_29 (c_117 _) rfl ?_
    refine R_aload_n (pc := 32) dX6_isAt_32 rfl rfl ?_
    refine g_X6_40 (pc := 33) (v := .int (nI st.1)) rfl dX6_isAt_33 (c_117 _) (by show some (Value.int (σ.1 11702)) = _; rw [hR.2.2.2.2.2.1]) ?_
    refine R_iload_n (pc := 36) dX6_isAt_36 rfl rfl ?_
    refine R_iadd (pc := 37) dX6_isAt_37 ?_
    have r5 : inR ((nI st.1) + 0) 0 160 := inR_add (show inR (nI st.1) 0 160 from (show inR (nI st.1) 0 160 from (inR_nI (M := 160) (by omega) (by decide)))) (show inR 0 0 0 from (inR_self _)) (by decide) (by decide)
    have e6 := ti_add (l := 0) (h := 160) (show inR (nI st.1) 0 160 from (show inR (nI st.1) 0 160 from (inR_nI (M := 160) (by omega) (by decide)))) (show inR 0 0 0 from (inR_self _)) (by decide) (by decide)
    have hx7 : vp_in ((nI st.1) + 0) 160 := (vp_ti (by have q0 := (nI_toInt (n := st.1) (by omega)); have q1 := (nI_toInt (n := (tkE (σ.2.2.1 118) n st.1)) (by omega)); have q2 := (nI_toInt (n := n) (by omega)); have q3 := e2; have q4 := e6; have q5 := ti_eq b13_3; have q6 := ti_in (show inR (nI st.1) 0 160 from (inR_nI (M := 160) (by omega) (by decide))); have q7 := ti_in (show inR (nI (tkE (σ.2.2.1 118) n st.1)) 0 160 from (inR_nI (M := 160) (by omega) (by decide))); have q8 := ti_in (show inR (nI n) 0 160 from (inR_nI (M := 160) (by omega) (by decide))); have q9 := ti_in r1; have q10 := ti_in r5; have z0 : (-160 : Int32).toInt = -160 := (by decide); have z1 : (0 : Int32).toInt = 0 := (by decide); have z2 : (1 : Int32).toInt = 1 := (by decide); have z3 : (118 : Int32).toInt = 118 := (by decide); have z4 : (160 : Int32).toInt = 160 := (by decide); have z5 : (4 : Int32).toInt = 4 := (by decide); omega) (by have q0 := (nI_toInt (n := st.1) (by omega)); have q1 := (nI_toInt (n := (tkE (σ.2.2.1 118) n st.1)) (by omega)); have q2 := (nI_toInt (n := n) (by omega)); have q3 := e2; have q4 := e6; have q5 := ti_eq b13_3; have q6 := ti_in (show inR (nI st.1) 0 160 from (inR_nI (M := 160) (by omega) (by decide))); have q7 := ti_in (show inR (nI (tkE (σ.2.2.1 118) n st.1)) 0 160 from (inR_nI (M := 160) (by omega) (by decide))); have q8 := ti_in (show inR (nI n) 0 160 from (inR_nI (M := 160) (by omega) (by decide))); have q9 := ti_in r1; have q10 := ti_in r5; have z0 : (-160 : Int32).toInt = -160 := (by decide); have z1 : (0 : Int32).toInt = 0 := (by decide); have z2 : (1 : Int32).toInt = 1 := (by decide); have z3 : (118 : Int32).toInt = 118 := (by decide); have z4 : (160 : Int32).toInt = 160 := (by decide); have z5 : (4 : Int32).toInt = 4 := (by decide); omega))
    refine R_iaload (pc := 38) dX6_isAt_38 (c_118 _) hx7 ?_
    refine R_aload_n (pc := 39) dX6_isAt_39 rfl rfl ?_
    refine R_iload_n (pc := 40) dX6_isAt_40 rfl rfl ?_
    refine k_chr (pc := 41) (i := 4) (j := 0) 4 98 98 (by decide) (by decide) (by decide) (by decide) (by unfold vp_in; decide) (by decide) (by decide) rfl rfl (by decide) (Nat.zero_le _) (Nat.zero_le _) (Nat.le_of_ble_eq_true rfl) dX6_isAt_41 ?_
    refine R_iceq (pc := 44) 49 dX6_isAt_44 (by decide) (fun b44_8 => ?_) (fun b44_8 => ?_)
    · skip
      refine inc_3_2_1_a (pc := 49) dX6_isAt_49 ?_
      refine R_goto (pc := 52) 20 dX6_isAt_52 (by decide) ?_
      refine R_iload_n (pc := 20) dX6_isAt_20 rfl rfl ?_
      refine R_aload_n (pc := 21) dX6_isAt_21 rfl rfl ?_
      refine k_len (pc := 22) (i := 4) 4 (by decide) (by decide) rfl (by decide) (Nat.zero_le _) (Nat.zero_le _) (Nat.le_of_ble_eq_true rfl) dX6_isAt_22 ?_
      refine R_icge (pc := 25) 55 dX6_isAt_25 (by decide) (fun h => absurd h (by decide)) (fun _ => ?_)
      refine R_aload_n (pc := 28) dX6_isAt_28 rfl rfl ?_
      refine g_X6_9 (pc := 29) (v := .ref 118) rfl dX6_isAt_29 (c_117 _) rfl ?_
      refine R_aload_n (pc := 32) dX6_isAt_32 rfl rfl ?_
      refine g_X6_40 (pc := 33) (v := .int (nI st.1)) rfl dX6_isAt_33 (c_117 _) (by show some (Value.int (σ.1 11702)) = _; rw [hR.2.2.2.2.2.1]) ?_
      refine R_iload_n (pc := 36) dX6_isAt_36 rfl rfl ?_
      refine R_iadd (pc := 37) dX6_isAt_37 ?_
      have r10 : inR ((nI st.1) + 1) 1 161 := inR_add (show inR (nI st.1) 0 160 from (show inR (nI st.1) 0 160 from (inR_nI (M := 160) (by omega) (by decide)))) (show inR 1 1 1 from (inR_self _)) (by decide) (by decide)
      have e11 := ti_add (l := 1) (h := 161) (show inR (nI st.1) 0 160 from (show inR (nI st.1) 0 160 from (inR_nI (M := 160) (by omega) (by decide)))) (show inR 1 1 1 from (inR_self _)) (by decide) (by decide)
      have hx12 : vp_in ((nI st.1) + 1) 160 := (vp_ti (by have q0 := (nI_toInt (n := st.1) (by omega)); have q1 := (nI_toInt (n := (tkE (σ.2.2.1 118) n st.1)) (by omega)); have q2 := (nI_toInt (n := n) (by omega)); have q3 := e2; have q4 := e6; have q5 := e11; have q6 := ti_eq b13_3; have q7 := ti_eq b44_8; have q8 := ti_in (show inR (nI st.1) 0 160 from (inR_nI (M := 160) (by omega) (by decide))); have q9 := ti_in (show inR (nI (tkE (σ.2.2.1 118) n st.1)) 0 160 from (inR_nI (M := 160) (by omega) (by decide))); have q10 := ti_in (show inR (nI n) 0 160 from (inR_nI (M := 160) (by omega) (by decide))); have q11 := ti_in r1; have q12 := ti_in r5; have q13 := ti_in r10; have z0 : (-160 : Int32).toInt = -160 := (by decide); have z1 : (0 : Int32).toInt = 0 := (by decide); have z2 : (1 : Int32).toInt = 1 := (by decide); have z3 : (118 : Int32).toInt = 118 := (by decide); have z4 : (160 : Int32).toInt = 160 := (by decide); have z5 : (161 : Int32).toInt = 161 := (by decide); have z6 : (4 : Int32).toInt = 4 := (by decide); have z7 : (98 : Int32).toInt = 98 := (by decide); omega) (by have q0 := (nI_toInt (n := st.1) (by omega)); have q1 := (nI_toInt (n := (tkE (σ.2.2.1 118) n st.1)) (by omega)); have q2 := (nI_toInt (n := n) (by omega)); have q3 := e2; have q4 := e6; have q5 := e11; have q6 := ti_eq b13_3; have q7 := ti_eq b44_8; have q8 := ti_in (show inR (nI st.1) 0 160 from (inR_nI (M := 160) (by omega) (by decide))); have q9 := ti_in (show inR (nI (tkE (σ.2.2.1 118) n st.1)) 0 160 from (inR_nI (M := 160) (by omega) (by decide))); have q10 := ti_in (show inR (nI n) 0 160 from (inR_nI (M := 160) (by omega) (by decide))); have q11 := ti_in r1; have q12 := ti_in r5; have q13 := ti_in r10; have z0 : (-160 : Int32).toInt = -160 := (by decide); have z1 : (0 : Int32).toInt = 0 := (by decide); have z2 : (1 : Int32).toInt = 1 := (by decide); have z3 : (118 : Int32).toInt = 118 := (by decide); have z4 : (160 : Int32).toInt = 160 := (by decide); have z5 : (161 : Int32).toInt = 161 := (by decide); have z6 : (4 : Int32).toInt = 4 := (by decide); have z7 : (98 : Int32).toInt = 98 := (by decide); omega))
      refine R_iaload (pc := 38) dX6_isAt_38 (c_118 _) hx12 ?_
      refine R_aload_n (pc := 39) dX6_isAt_39 rfl rfl ?_
      refine R_iload_n (pc := 40) dX6_isAt_40 rfl rfl ?_
      refine k_chr (pc := 41) (i := 4) (j := 1) 4 97 97 (by decide) (by decide) (by decide) (by decide) (by unfold vp_in; decide) (by decide) (by decide) rfl rfl (by decide) (Nat.zero_le _) (Nat.zero_le _) (Nat.le_of_ble_eq_true rfl) dX6_isAt_41 ?_
      refine R_iceq (pc := 44) 49 dX6_isAt_44 (by decide) (fun b44_13 => ?_) (fun b44_13 => ?_)
      · skip
        refine inc_3_2_1_a (pc := 49) dX6_isAt_49 ?_
        refine R_goto (pc := 52) 20 dX6_isAt_52 (by decide) ?_
        refine R_iload_n (pc := 20) dX6_isAt_20 rfl rfl ?_
        refine R_aload_n (pc := 21) dX6_isAt_21 rfl rfl ?_
        refine k_len (pc := 22) (i := 4) 4 (by decide) (by decide) rfl (by decide) (Nat.zero_le _) (Nat.zero_le _) (Nat.le_of_ble_eq_true rfl) dX6_isAt_22 ?_
        refine R_icge (pc := 25) 55 dX6_isAt_25 (by decide) (fun h => absurd h (by decide)) (fun _ => ?_)
        refine R_aload_n (pc := 28) dX6_isAt_28 rfl rfl ?_
        refine g_X6_9 (pc := 29) (v := .ref 118) rfl dX6_isAt_29 (c_117 _) rfl ?_
        refine R_aload_n (pc := 32) dX6_isAt_32 rfl rfl ?_
        refine g_X6_40 (pc := 33) (v := .int (nI st.1)) rfl dX6_isAt_33 (c_117 _) (by show some (Value.int (σ.1 11702)) = _; rw [hR.2.2.2.2.2.1]) ?_
        refine R_iload_n (pc := 36) dX6_isAt_36 rfl rfl ?_
        refine R_iadd (pc := 37) dX6_isAt_37 ?_
        have r15 : inR ((nI st.1) + 2) 2 162 := inR_add (show inR (nI st.1) 0 160 from (show inR (nI st.1) 0 160 from (inR_nI (M := 160) (by omega) (by decide)))) (show inR 2 2 2 from (inR_self _)) (by decide) (by decide)
        have e16 := ti_add (l := 2) (h := 162) (show inR (nI st.1) 0 160 from (show inR (nI st.1) 0 160 from (inR_nI (M := 160) (by omega) (by decide)))) (show inR 2 2 2 from (inR_self _)) (by decide) (by decide)
        have hx17 : vp_in ((nI st.1) + 2) 160 := (vp_ti (by have q0 := (nI_toInt (n := st.1) (by omega)); have q1 := (nI_toInt (n := (tkE (σ.2.2.1 118) n st.1)) (by omega)); have q2 := (nI_toInt (n := n) (by omega)); have q3 := e2; have q4 := e6; have q5 := e11; have q6 := e16; have q7 := ti_eq b13_3; have q8 := ti_eq b44_8; have q9 := ti_eq b44_13; have q10 := ti_in (show inR (nI st.1) 0 160 from (inR_nI (M := 160) (by omega) (by decide))); have q11 := ti_in (show inR (nI (tkE (σ.2.2.1 118) n st.1)) 0 160 from (inR_nI (M := 160) (by omega) (by decide))); have q12 := ti_in (show inR (nI n) 0 160 from (inR_nI (M := 160) (by omega) (by decide))); have q13 := ti_in r1; have q14 := ti_in r5; have q15 := ti_in r10; have q16 := ti_in r15; have z0 : (-160 : Int32).toInt = -160 := (by decide); have z1 : (0 : Int32).toInt = 0 := (by decide); have z2 : (1 : Int32).toInt = 1 := (by decide); have z3 : (118 : Int32).toInt = 118 := (by decide); have z4 : (160 : Int32).toInt = 160 := (by decide); have z5 : (161 : Int32).toInt = 161 := (by decide); have z6 : (162 : Int32).toInt = 162 := (by decide); have z7 : (2 : Int32).toInt = 2 := (by decide); have z8 : (4 : Int32).toInt = 4 := (by decide); have z9 : (97 : Int32).toInt = 97 := (by decide); have z10 : (98 : Int32).toInt = 98 := (by decide); omega) (by have q0 := (nI_toInt (n := st.1) (by omega)); have q1 := (nI_toInt (n := (tkE (σ.2.2.1 118) n st.1)) (by omega)); have q2 := (nI_toInt (n := n) (by omega)); have q3 := e2; have q4 := e6; have q5 := e11; have q6 := e16; have q7 := ti_eq b13_3; have q8 := ti_eq b44_8; have q9 := ti_eq b44_13; have q10 := ti_in (show inR (nI st.1) 0 160 from (inR_nI (M := 160) (by omega) (by decide))); have q11 := ti_in (show inR (nI (tkE (σ.2.2.1 118) n st.1)) 0 160 from (inR_nI (M := 160) (by omega) (by decide))); have q12 := ti_in (show inR (nI n) 0 160 from (inR_nI (M := 160) (by omega) (by decide))); have q13 := ti_in r1; have q14 := ti_in r5; have q15 := ti_in r10; have q16 := ti_in r15; have z0 : (-160 : Int32).toInt = -160 := (by decide); have z1 : (0 : Int32).toInt = 0 := (by decide); have z2 : (1 : Int32).toInt = 1 := (by decide); have z3 : (118 : Int32).toInt = 118 := (by decide); have z4 : (160 : Int32).toInt = 160 := (by decide); have z5 : (161 : Int32).toInt = 161 := (by decide); have z6 : (162 : Int32).toInt = 162 := (by decide); have z7 : (2 : Int32).toInt = 2 := (by decide); have z8 : (4 : Int32).toInt = 4 := (by decide); have z9 : (97 : Int32).toInt = 97 := (by decide); have z10 : (98 : Int32).toInt = 98 := (by decide); omega))
        refine R_iaload (pc := 38) dX6_isAt_38 (c_118 _) hx17 ?_
        refine R_aload_n (pc := 39) dX6_isAt_39 rfl rfl ?_
        refine R_iload_n (pc := 40) dX6_isAt_40 rfl rfl ?_
        refine k_chr (pc := 41) (i := 4) (j := 2) 4 99 99 (by decide) (by decide) (by decide) (by decide) (by unfold vp_in; decide) (by decide) (by decide) rfl rfl (by decide) (Nat.zero_le _) (Nat.zero_le _) (Nat.le_of_ble_eq_true rfl) dX6_isAt_41 ?_
        refine R_iceq (pc := 44) 49 dX6_isAt_44 (by decide) (fun b44_18 => ?_) (fun b44_18 => ?_)
        · skip
          refine inc_3_2_1_a (pc := 49) dX6_isAt_49 ?_
          refine R_goto (pc := 52) 20 dX6_isAt_52 (by decide) ?_
          refine R_iload_n (pc := 20) dX6_isAt_20 rfl rfl ?_
          refine R_aload_n (pc := 21) dX6_isAt_21 rfl rfl ?_
          refine k_len (pc := 22) (i := 4) 4 (by decide) (by decide) rfl (by decide) (Nat.zero_le _) (Nat.zero_le _) (Nat.le_of_ble_eq_true rfl) dX6_isAt_22 ?_
          refine R_icge (pc := 25) 55 dX6_isAt_25 (by decide) (fun h => absurd h (by decide)) (fun _ => ?_)
          refine R_aload_n (pc := 28) dX6_isAt_28 rfl rfl ?_
          refine g_X6_9 (pc := 29) (v := .ref 118) rfl dX6_isAt_29 (c_117 _) rfl ?_
          refine R_aload_n (pc := 32) dX6_isAt_32 rfl rfl ?_
          refine g_X6_40 (pc := 33) (v := .int (nI st.1)) rfl dX6_isAt_33 (c_117 _) (by show some (Value.int (σ.1 11702)) = _; rw [hR.2.2.2.2.2.1]) ?_
          refine R_iload_n (pc := 36) dX6_isAt_36 rfl rfl ?_
          refine R_iadd (pc := 37) dX6_isAt_37 ?_
          have r20 : inR ((nI st.1) + 3) 3 163 := inR_add (show inR (nI st.1) 0 160 from (show inR (nI st.1) 0 160 from (inR_nI (M := 160) (by omega) (by decide)))) (show inR 3 3 3 from (inR_self _)) (by decide) (by decide)
          have e21 := ti_add (l := 3) (h := 163) (show inR (nI st.1) 0 160 from (show inR (nI st.1) 0 160 from (inR_nI (M := 160) (by omega) (by decide)))) (show inR 3 3 3 from (inR_self _)) (by decide) (by decide)
          have hx22 : vp_in ((nI st.1) + 3) 160 := (vp_ti (by have q0 := (nI_toInt (n := st.1) (by omega)); have q1 := (nI_toInt (n := (tkE (σ.2.2.1 118) n st.1)) (by omega)); have q2 := (nI_toInt (n := n) (by omega)); have q3 := e2; have q4 := e6; have q5 := e11; have q6 := e16; have q7 := e21; have q8 := ti_eq b13_3; have q9 := ti_eq b44_8; have q10 := ti_eq b44_13; have q11 := ti_eq b44_18; have q12 := ti_in (show inR (nI st.1) 0 160 from (inR_nI (M := 160) (by omega) (by decide))); have q13 := ti_in (show inR (nI (tkE (σ.2.2.1 118) n st.1)) 0 160 from (inR_nI (M := 160) (by omega) (by decide))); have q14 := ti_in (show inR (nI n) 0 160 from (inR_nI (M := 160) (by omega) (by decide))); have q15 := ti_in r1; have q16 := ti_in r5; have q17 := ti_in r10; have q18 := ti_in r15; have q19 := ti_in r20; have z0 : (-160 : Int32).toInt = -160 := (by decide); have z1 : (0 : Int32).toInt = 0 := (by decide); have z2 : (1 : Int32).toInt = 1 := (by decide); have z3 : (118 : Int32).toInt = 118 := (by decide); have z4 : (160 : Int32).toInt = 160 := (by decide); have z5 : (161 : Int32).toInt = 161 := (by decide); have z6 : (162 : Int32).toInt = 162 := (by decide); have z7 : (163 : Int32).toInt = 163 := (by decide); have z8 : (2 : Int32).toInt = 2 := (by decide); have z9 : (3 : Int32).toInt = 3 := (by decide); have z10 : (4 : Int32).toInt = 4 := (by decide); have z11 : (97 : Int32).toInt = 97 := (by decide); have z12 : (98 : Int32).toInt = 98 := (by decide); have z13 : (99 : Int32).toInt = 99 := (by decide); omega) (by have q0 := (nI_toInt (n := st.1) (by omega)); have q1 := (nI_toInt (n := (tkE (σ.2.2.1 118) n st.1)) (by omega)); have q2 := (nI_toInt (n := n) (by omega)); have q3 := e2; have q4 := e6; have q5 := e11; have q6 := e16; have q7 := e21; have q8 := ti_eq b13_3; have q9 := ti_eq b44_8; have q10 := ti_eq b44_13; have q11 := ti_eq b44_18; have q12 := ti_in (show inR (nI st.1) 0 160 from (inR_nI (M := 160) (by omega) (by decide))); have q13 := ti_in (show inR (nI (tkE (σ.2.2.1 118) n st.1)) 0 160 from (inR_nI (M := 160) (by omega) (by decide))); have q14 := ti_in (show inR (nI n) 0 160 from (inR_nI (M := 160) (by omega) (by decide))); have q15 := ti_in r1; have q16 := ti_in r5; have q17 := ti_in r10; have q18 := ti_in r15; have q19 := ti_in r20; have z0 : (-160 : Int32).toInt = -160 := (by decide); have z1 : (0 : Int32).toInt = 0 := (by decide); have z2 : (1 : Int32).toInt = 1 := (by decide); have z3 : (118 : Int32).toInt = 118 := (by decide); have z4 : (160 : Int32).toInt = 160 := (by decide); have z5 : (161 : Int32).toInt = 161 := (by decide); have z6 : (162 : Int32).toInt = 162 := (by decide); have z7 : (163 : Int32).toInt = 163 := (by decide); have z8 : (2 : Int32).toInt = 2 := (by decide); have z9 : (3 : Int32).toInt = 3 := (by decide); have z10 : (4 : Int32).toInt = 4 := (by decide); have z11 : (97 : Int32).toInt = 97 := (by decide); have z12 : (98 : Int32).toInt = 98 := (by decide); have z13 : (99 : Int32).toInt = 99 := (by decide); omega))
          refine R_iaload (pc := 38) dX6_isAt_38 (c_118 _) hx22 ?_
          refine R_aload_n (pc := 39) dX6_isAt_39 rfl rfl ?_
          refine R_iload_n (pc := 40) dX6_isAt_40 rfl rfl ?_
          refine k_chr (pc := 41) (i := 4) (j := 3) 4 107 107 (by decide) (by decide) (by decide) (by decide) (by unfold vp_in; decide) (by decide) (by decide) rfl rfl (by decide) (Nat.zero_le _) (Nat.zero_le _) (Nat.le_of_ble_eq_true rfl) dX6_isAt_41 ?_
          refine R_iceq (pc := 44) 49 dX6_isAt_44 (by decide) (fun b44_23 => ?_) (fun b44_23 => ?_)
          · skip
            refine inc_3_2_1_a (pc := 49) dX6_isAt_49 ?_
            refine R_goto (pc := 52) 20 dX6_isAt_52 (by decide) ?_
            refine R_iload_n (pc := 20) dX6_isAt_20 rfl rfl ?_
            refine R_aload_n (pc := 21) dX6_isAt_21 rfl rfl ?_
            refine k_len (pc := 22) (i := 4) 4 (by decide) (by decide) rfl (by decide) (Nat.zero_le _) (Nat.zero_le _) (Nat.le_of_ble_eq_true rfl) dX6_isAt_22 ?_
            refine R_icge (pc := 25) 55 dX6_isAt_25 (by decide) (fun _ => ?_) (fun h => absurd (by decide) h)
            refine R_iconst (pc := 55) (v := 1) dX6_isAt_55 (by decide) ?_
            exact R_iret (pc := 56) dX6_isAt_56 rfl rfl (Nat.zero_le _) (Nat.zero_le _) ⟨_, rfl, rfl, Or.inl ⟨(by show (decide ((tkE (σ.2.2.1 118) n st.1) - st.1 = 4) && (decide ((σ.2.2.1 118) st.1 = 98) && (decide ((σ.2.2.1 118) (st.1 + 1) = 97) && (decide ((σ.2.2.1 118) (st.1 + 2) = 99) && decide ((σ.2.2.1 118) (st.1 + 3) = 107))))) = true; rw [len_t (show st.1 ≤ (tkE (σ.2.2.1 118) n st.1) by omega) (show (tkE (σ.2.2.1 118) n st.1) ≤ 160 by omega) (by decide) rfl b13_3, decide_eq_true (by have q : (σ.2.2.1 118 (Int32.toNatClampNeg ((nI st.1) + 0))) = 98 := b44_8; rw [ix0 (by omega)] at q; exact q), decide_eq_true (by have q : (σ.2.2.1 118 (Int32.toNatClampNeg ((nI st.1) + 1))) = 97 := b44_13; rw [ixk (i := 1) (X := 1) (by omega) (by decide) (by decide)] at q; exact q), decide_eq_true (by have q : (σ.2.2.1 118 (Int32.toNatClampNeg ((nI st.1) + 2))) = 99 := b44_18; rw [ixk (i := 2) (X := 2) (by omega) (by decide) (by decide)] at q; exact q), decide_eq_true (by have q : (σ.2.2.1 118 (Int32.toNatClampNeg ((nI st.1) + 3))) = 107 := b44_23; rw [ixk (i := 3) (X := 3) (by omega) (by decide) (by decide)] at q; exact q)] <;> first | rfl | simp), rfl⟩⟩
          · skip
            refine R_iconst (pc := 47) (v := 0) dX6_isAt_47 (by decide) ?_
            exact R_iret (pc := 48) dX6_isAt_48 rfl rfl (Nat.zero_le _) (Nat.zero_le _) ⟨_, rfl, rfl, Or.inr ⟨(by show (decide ((tkE (σ.2.2.1 118) n st.1) - st.1 = 4) && (decide ((σ.2.2.1 118) st.1 = 98) && (decide ((σ.2.2.1 118) (st.1 + 1) = 97) && (decide ((σ.2.2.1 118) (st.1 + 2) = 99) && decide ((σ.2.2.1 118) (st.1 + 3) = 107))))) = false; rw [len_t (show st.1 ≤ (tkE (σ.2.2.1 118) n st.1) by omega) (show (tkE (σ.2.2.1 118) n st.1) ≤ 160 by omega) (by decide) rfl b13_3, decide_eq_true (by have q : (σ.2.2.1 118 (Int32.toNatClampNeg ((nI st.1) + 0))) = 98 := b44_8; rw [ix0 (by omega)] at q; exact q), decide_eq_true (by have q : (σ.2.2.1 118 (Int32.toNatClampNeg ((nI st.1) + 1))) = 97 := b44_13; rw [ixk (i := 1) (X := 1) (by omega) (by decide) (by decide)] at q; exact q), decide_eq_true (by have q : (σ.2.2.1 118 (Int32.toNatClampNeg ((nI st.1) + 2))) = 99 := b44_18; rw [ixk (i := 2) (X := 2) (by omega) (by decide) (by decide)] at q; exact q), decide_eq_false (by have q : ¬ (σ.2.2.1 118 (Int32.toNatClampNeg ((nI st.1) + 3))) = 107 := b44_23; rw [ixk (i := 3) (X := 3) (by omega) (by decide) (by decide)] at q; exact q)] <;> first | rfl | simp), rfl⟩⟩
        · skip
          refine R_iconst (pc := 47) (v := 0) dX6_isAt_47 (by decide) ?_
          exact R_iret (pc := 48) dX6_isAt_48 rfl rfl (Nat.zero_le _) (Nat.zero_le _) ⟨_, rfl, rfl, Or.inr ⟨(by show (decide ((tkE (σ.2.2.1 118) n st.1) - st.1 = 4) && (decide ((σ.2.2.1 118) st.1 = 98) && (decide ((σ.2.2.1 118) (st.1 + 1) = 97) && (decide ((σ.2.2.1 118) (st.1 + 2) = 99) && decide ((σ.2.2.1 118) (st.1 + 3) = 107))))) = false; rw [len_t (show st.1 ≤ (tkE (σ.2.2.1 118) n st.1) by omega) (show (tkE (σ.2.2.1 118) n st.1) ≤ 160 by omega) (by decide) rfl b13_3, decide_eq_true (by have q : (σ.2.2.1 118 (Int32.toNatClampNeg ((nI st.1) + 0))) = 98 := b44_8; rw [ix0 (by omega)] at q; exact q), decide_eq_true (by have q : (σ.2.2.1 118 (Int32.toNatClampNeg ((nI st.1) + 1))) = 97 := b44_13; rw [ixk (i := 1) (X := 1) (by omega) (by decide) (by decide)] at q; exact q), decide_eq_false (by have q : ¬ (σ.2.2.1 118 (Int32.toNatClampNeg ((nI st.1) + 2))) = 99 := b44_18; rw [ixk (i := 2) (X := 2) (by omega) (by decide) (by decide)] at q; exact q)] <;> first | rfl | simp), rfl⟩⟩
      · skip
        refine R_iconst (pc := 47) (v := 0) dX6_isAt_47 (by decide) ?_
        exact R_iret (pc := 48) dX6_isAt_48 rfl rfl (Nat.zero_le _) (Nat.zero_le _) ⟨_, rfl, rfl, Or.inr ⟨(by show (decide ((tkE (σ.2.2.1 118) n st.1) - st.1 = 4) && (decide ((σ.2.2.1 118) st.1 = 98) && (decide ((σ.2.2.1 118) (st.1 + 1) = 97) && (decide ((σ.2.2.1 118) (st.1 + 2) = 99) && decide ((σ.2.2.1 118) (st.1 + 3) = 107))))) = false; rw [len_t (show st.1 ≤ (tkE (σ.2.2.1 118) n st.1) by omega) (show (tkE (σ.2.2.1 118) n st.1) ≤ 160 by omega) (by decide) rfl b13_3, decide_eq_true (by have q : (σ.2.2.1 118 (Int32.toNatClampNeg ((nI st.1) + 0))) = 98 := b44_8; rw [ix0 (by omega)] at q; exact q), decide_eq_false (by have q : ¬ (σ.2.2.1 118 (Int32.toNatClampNeg ((nI st.1) + 1))) = 97 := b44_13; rw [ixk (i := 1) (X := 1) (by omega) (by decide) (by decide)] at q; exact q)] <;> first | rfl | simp), rfl⟩⟩
    · skip
      refine R_iconst (pc := 47) (v := 0) dX6_isAt_47 (by decide) ?_
      exact R_iret (pc := 48) dX6_isAt_48 rfl rfl (Nat.zero_le _) (Nat.zero_le _) ⟨_, rfl, rfl, Or.inr ⟨(by show (decide ((tkE (σ.2.2.1 118) n st.1) - st.1 = 4) && (decide ((σ.2.2.1 118) st.1 = 98) && (decide ((σ.2.2.1 118) (st.1 + 1) = 97) && (decide ((σ.2.2.1 118) (st.1 + 2) = 99) && decide ((σ.2.2.1 118) (st.1 + 3) = 107))))) = false; rw [len_t (show st.1 ≤ (tkE (σ.2.2.1 118) n st.1) by omega) (show (tkE (σ.2.2.1 118) n st.1) ≤ 160 by omega) (by decide) rfl b13_3, decide_eq_false (by have q : ¬ (σ.2.2.1 118 (Int32.toNatClampNeg ((nI st.1) + 0))) = 98 := b44_8; rw [ix0 (by omega)] at q; exact q)] <;> first | rfl | simp), rfl⟩⟩
  · skip
    refine R_iconst (pc := 16) (v := 0) dX6_isAt_16 (by decide) ?_
    exact R_iret (pc := 17) dX6_isAt_17 rfl rfl (Nat.zero_le _) (Nat.zero_le _) ⟨_, rfl, rfl, Or.inr ⟨(by show (decide ((tkE (σ.2.2.1 118) n st.1) - st.1 = 4) && _) = false; rw [len_f (show st.1 ≤ (tkE (σ.2.2.1 118) n st.1) by omega) (show (tkE (σ.2.2.1 118) n st.1) ≤ 160 by omega) (by decide) rfl b13_3, Bool.false_and]), rfl⟩⟩
set_option maxRecDepth 100000 in
set_option maxHeartbeats 40000000 in
theorem ge_X6_isAt_5 {G : vG} {l : Launch} (σ : Sg) (n : Nat) (st : St)  (hI : Inv σ) (hR : RS σ σ n st) : Sp G l yX6_isAt cX6_isAt 3 (some .boolean) 5 0 0 [.ref 117, .ref 1000005] (WW σ) (QI (fun x w2 => w2 = WW σ ∧ (rdB (σ.2.2.1 118) n st.1 5 = true ∧ x = 1 ∨ rdB (σ.2.2.1 118) n st.1 5 = false ∧ x = 0))) := by
  refine Sp_of_R [(some (.ref 117)), (some (.ref 1000005)), none] [none] rfl (by simp) rfl (Nat.le_of_ble_eq_true rfl) ?_
  have hn160 : n ≤ 160 := hR.2.2.2.1
  have hsn : st.1 ≤ n := hR.2.2.2.2.1
  have hte := te_p (f := (σ.2.2.1 118)) hsn
  refine R_aload_n (pc := 0) dX6_isAt_0 rfl rfl ?_
  refine g_X6_21 (pc := 1) (v := .int (nI (tkE (σ.2.2.1 118) n st.1))) rfl dX6_isAt_1 (c_117 _) (by show some (Value.int (σ.1 11703)) = _; rw [hR.2.2.2.2.2.2.1]) ?_
  refine R_aload_n (pc := 4) dX6_isAt_4 rfl rfl ?_
  refine g_X6_40 (pc := 5) (v := .int (nI st.1)) rfl dX6_isAt_5 (c_117 _) (by show some (Value.int (σ.1 11702)) = _; rw [hR.2.2.2.2.2.1]) ?_
  refine R_isub (pc := 8) dX6_isAt_8 ?_
  have r1 : inR ((nI (tkE (σ.2.2.1 118) n st.1)) - (nI st.1)) (-160) 160 := inR_sub (show inR (nI (tkE (σ.2.2.1 118) n st.1)) 0 160 from (show inR (nI (tkE (σ.2.2.1 118) n st.1)) 0 160 from (inR_nI (M := 160) (by omega) (by decide)))) (show inR (nI st.1) 0 160 from (show inR (nI st.1) 0 160 from (inR_nI (M := 160) (by omega) (by decide)))) (by decide) (by decide)
  have e2 := ti_sub (l := (-160)) (h := 160) (show inR (nI (tkE (σ.2.2.1 118) n st.1)) 0 160 from (show inR (nI (tkE (σ.2.2.1 118) n st.1)) 0 160 from (inR_nI (M := 160) (by omega) (by decide)))) (show inR (nI st.1) 0 160 from (show inR (nI st.1) 0 160 from (inR_nI (M := 160) (by omega) (by decide)))) (by decide) (by decide)
  refine R_aload_n (pc := 9) dX6_isAt_9 rfl rfl ?_
  refine k_len (pc := 10) (i := 5) 1 (by decide) (by decide) rfl (by decide) (Nat.zero_le _) (Nat.zero_le _) (Nat.le_of_ble_eq_true rfl) dX6_isAt_10 ?_
  refine R_iceq (pc := 13) 18 dX6_isAt_13 (by decide) (fun b13_3 => ?_) (fun b13_3 => ?_)
  · skip
    refine R_iconst (pc := 18) (v := 0) dX6_isAt_18 (by decide) ?_
    refine st_3_2_i_a (pc := 19) dX6_isAt_19 ?_
    refine R_iload_n (pc := 20) dX6_isAt_20 rfl rfl ?_
    refine R_aload_n (pc := 21) dX6_isAt_21 rfl rfl ?_
    refine k_len (pc := 22) (i := 5) 1 (by decide) (by decide) rfl (by decide) (Nat.zero_le _) (Nat.zero_le _) (Nat.le_of_ble_eq_true rfl) dX6_isAt_22 ?_
    refine R_icge (pc := 25) 55 dX6_isAt_25 (by decide) (fun h => absurd h (by decide)) (fun _ => ?_)
    refine R_aload_n (pc := 28) dX6_isAt_28 rfl rfl ?_
    refine g_X6_9 (pc := 29) (v := .ref 118) rfl dX6_isAt_29 (c_117 _) rfl ?_
    refine R_aload_n (pc := 32) dX6_isAt_32 rfl rfl ?_
    refine g_X6_40 (pc := 33) (v := .int (nI st.1)) rfl dX6_isAt_33 (c_117 _) (by show some (Value.int (σ.1 11702)) = _; rw [hR.2.2.2.2.2.1]) ?_
    refine R_iload_n (pc := 36) dX6_isAt_36 rfl rfl ?_
    refine R_iadd (pc := 37) dX6_isAt_37 ?_
    have r5 : inR ((nI st.1) + 0) 0 160 := inR_add (show inR (nI st.1) 0 160 from (show inR (nI st.1) 0 160 from (inR_nI (M := 160) (by omega) (by decide)))) (show inR 0 0 0 from (inR_self _)) (by decide) (by decide)
    have e6 := ti_add (l := 0) (h := 160) (show inR (nI st.1) 0 160 from (show inR (nI st.1) 0 160 from (inR_nI (M := 160) (by omega) (by decide)))) (show inR 0 0 0 from (inR_self _)) (by decide) (by decide)
    have hx7 : vp_in ((nI st.1) + 0) 160 := (vp_ti (by have q0 := (nI_toInt (n := st.1) (by omega)); have q1 := (nI_toInt (n := (tkE (σ.2.2.1 118) n st.1)) (by omega)); have q2 := (nI_toInt (n := n) (by omega)); have q3 := e2; have q4 := e6; have q5 := ti_eq b13_3; have q6 := ti_in (show inR (nI st.1) 0 160 from (inR_nI (M := 160) (by omega) (by decide))); have q7 := ti_in (show inR (nI (tkE (σ.2.2.1 118) n st.1)) 0 160 from (inR_nI (M := 160) (by omega) (by decide))); have q8 := ti_in (show inR (nI n) 0 160 from (inR_nI (M := 160) (by omega) (by decide))); have q9 := ti_in r1; have q10 := ti_in r5; have z0 : (-160 : Int32).toInt = -160 := (by decide); have z1 : (0 : Int32).toInt = 0 := (by decide); have z2 : (1 : Int32).toInt = 1 := (by decide); have z3 : (118 : Int32).toInt = 118 := (by decide); have z4 : (160 : Int32).toInt = 160 := (by decide); omega) (by have q0 := (nI_toInt (n := st.1) (by omega)); have q1 := (nI_toInt (n := (tkE (σ.2.2.1 118) n st.1)) (by omega)); have q2 := (nI_toInt (n := n) (by omega)); have q3 := e2; have q4 := e6; have q5 := ti_eq b13_3; have q6 := ti_in (show inR (nI st.1) 0 160 from (inR_nI (M := 160) (by omega) (by decide))); have q7 := ti_in (show inR (nI (tkE (σ.2.2.1 118) n st.1)) 0 160 from (inR_nI (M := 160) (by omega) (by decide))); have q8 := ti_in (show inR (nI n) 0 160 from (inR_nI (M := 160) (by omega) (by decide))); have q9 := ti_in r1; have q10 := ti_in r5; have z0 : (-160 : Int32).toInt = -160 := (by decide); have z1 : (0 : Int32).toInt = 0 := (by decide); have z2 : (1 : Int32).toInt = 1 := (by decide); have z3 : (118 : Int32).toInt = 118 := (by decide); have z4 : (160 : Int32).toInt = 160 := (by decide); omega))
    refine R_iaload (pc := 38) dX6_isAt_38 (c_118 _) hx7 ?_
    refine R_aload_n (pc := 39) dX6_isAt_39 rfl rfl ?_
    refine R_iload_n (pc := 40) dX6_isAt_40 rfl rfl ?_
    refine k_chr (pc := 41) (i := 5) (j := 0) 1 59 59 (by decide) (by decide) (by decide) (by decide) (by unfold vp_in; decide) (by decide) (by decide) rfl rfl (by decide) (Nat.zero_le _) (Nat.zero_le _) (Nat.le_of_ble_eq_true rfl) dX6_isAt_41 ?_
    refine R_iceq (pc := 44) 49 dX6_isAt_44 (by decide) (fun b44_8 => ?_) (fun b44_8 => ?_)
    · skip
      refine inc_3_2_1_a (pc := 49) dX6_isAt_49 ?_
      refine R_goto (pc := 52) 20 dX6_isAt_52 (by decide) ?_
      refine R_iload_n (pc := 20) dX6_isAt_20 rfl rfl ?_
      refine R_aload_n (pc := 21) dX6_isAt_21 rfl rfl ?_
      refine k_len (pc := 22) (i := 5) 1 (by decide) (by decide) rfl (by decide) (Nat.zero_le _) (Nat.zero_le _) (Nat.le_of_ble_eq_true rfl) dX6_isAt_22 ?_
      refine R_icge (pc := 25) 55 dX6_isAt_25 (by decide) (fun _ => ?_) (fun h => absurd (by decide) h)
      refine R_iconst (pc := 55) (v := 1) dX6_isAt_55 (by decide) ?_
      exact R_iret (pc := 56) dX6_isAt_56 rfl rfl (Nat.zero_le _) (Nat.zero_le _) ⟨_, rfl, rfl, Or.inl ⟨(by show (decide ((tkE (σ.2.2.1 118) n st.1) - st.1 = 1) && decide ((σ.2.2.1 118) st.1 = 59)) = true; rw [len_t (show st.1 ≤ (tkE (σ.2.2.1 118) n st.1) by omega) (show (tkE (σ.2.2.1 118) n st.1) ≤ 160 by omega) (by decide) rfl b13_3, decide_eq_true (by have q : (σ.2.2.1 118 (Int32.toNatClampNeg ((nI st.1) + 0))) = 59 := b44_8; rw [ix0 (by omega)] at q; exact q)] <;> first | rfl | simp), rfl⟩⟩
    · skip
      refine R_iconst (pc := 47) (v := 0) dX6_isAt_47 (by decide) ?_
      exact R_iret (pc := 48) dX6_isAt_48 rfl rfl (Nat.zero_le _) (Nat.zero_le _) ⟨_, rfl, rfl, Or.inr ⟨(by show (decide ((tkE (σ.2.2.1 118) n st.1) - st.1 = 1) && decide ((σ.2.2.1 118) st.1 = 59)) = false; rw [len_t (show st.1 ≤ (tkE (σ.2.2.1 118) n st.1) by omega) (show (tkE (σ.2.2.1 118) n st.1) ≤ 160 by omega) (by decide) rfl b13_3, decide_eq_false (by have q : ¬ (σ.2.2.1 118 (Int32.toNatClampNeg ((nI st.1) + 0))) = 59 := b44_8; rw [ix0 (by omega)] at q; exact q)] <;> first | rfl | simp), rfl⟩⟩
  · skip
    refine R_iconst (pc := 16) (v := 0) dX6_isAt_16 (by decide) ?_
    exact R_iret (pc := 17) dX6_isAt_17 rfl rfl (Nat.zero_le _) (Nat.zero_le _) ⟨_, rfl, rfl, Or.inr ⟨(by show (decide ((tkE (σ.2.2.1 118) n st.1) - st.1 = 1) && _) = false; rw [len_f (show st.1 ≤ (tkE (σ.2.2.1 118) n st.1) by omega) (show (tkE (σ.2.2.1 118) n st.1) ≤ 160 by omega) (by decide) rfl b13_3, Bool.false_and]), rfl⟩⟩
set_option maxRecDepth 100000 in
set_option maxHeartbeats 40000000 in
theorem ge_X6_numberAt {G : vG} {l : Launch} (σ : Sg) (n : Nat) (st : St)  (hI : Inv σ) (hR : RS σ σ n st) : Sp G l yX6_numberAt cX6_numberAt 4 (some .int) 1 0 0 [.ref 117] (WW σ) (QI (fun x w2 => w2 = WW σ ∧ x = nu (σ.2.2.1 118) n st.1)) := by
  refine Sp_of_R [(some (.ref 117)), none, none, none] [none, none, none] rfl (by simp) rfl (Nat.le_of_ble_eq_true rfl) ?_
  have hn160 : n ≤ 160 := hR.2.2.2.1
  have hsn : st.1 ≤ n := hR.2.2.2.2.1
  have hte := te_p (f := (σ.2.2.1 118)) hsn
  refine R_aload_n (pc := 0) dX6_numberAt_0 rfl rfl ?_
  refine g_X6_21 (pc := 1) (v := .int (nI (tkE (σ.2.2.1 118) n st.1))) rfl dX6_numberAt_1 (c_117 _) (by show some (Value.int (σ.1 11703)) = _; rw [hR.2.2.2.2.2.2.1]) ?_
  refine R_aload_n (pc := 4) dX6_numberAt_4 rfl rfl ?_
  refine g_X6_40 (pc := 5) (v := .int (nI st.1)) rfl dX6_numberAt_5 (c_117 _) (by show some (Value.int (σ.1 11702)) = _; rw [hR.2.2.2.2.2.1]) ?_
  refine R_isub (pc := 8) dX6_numberAt_8 ?_
  have r1 : inR ((nI (tkE (σ.2.2.1 118) n st.1)) - (nI st.1)) (-160) 160 := inR_sub (show inR (nI (tkE (σ.2.2.1 118) n st.1)) 0 160 from (show inR (nI (tkE (σ.2.2.1 118) n st.1)) 0 160 from (inR_nI (M := 160) (by omega) (by decide)))) (show inR (nI st.1) 0 160 from (show inR (nI st.1) 0 160 from (inR_nI (M := 160) (by omega) (by decide)))) (by decide) (by decide)
  have e2 := ti_sub (l := (-160)) (h := 160) (show inR (nI (tkE (σ.2.2.1 118) n st.1)) 0 160 from (show inR (nI (tkE (σ.2.2.1 118) n st.1)) 0 160 from (inR_nI (M := 160) (by omega) (by decide)))) (show inR (nI st.1) 0 160 from (show inR (nI st.1) 0 160 from (inR_nI (M := 160) (by omega) (by decide)))) (by decide) (by decide)
  refine st_4_1_i_a (pc := 9) dX6_numberAt_9 ?_
  refine R_iload_n (pc := 10) dX6_numberAt_10 rfl rfl ?_
  refine R_iconst (pc := 11) (v := 1) dX6_numberAt_11 (by decide) ?_
  refine R_iclt (pc := 12) 35 dX6_numberAt_12 (by decide) (fun b12_3 => ?_) (fun b12_3 => ?_)
  · skip
    refine R_iconst (pc := 35) (v := (-1)) dX6_numberAt_35 (by decide) ?_
    exact R_iret (pc := 36) dX6_numberAt_36 rfl rfl (Nat.zero_le _) (Nat.zero_le _) ⟨_, rfl, rfl, (nu_1 (show st.1 ≤ (tkE (σ.2.2.1 118) n st.1) by omega) (show (tkE (σ.2.2.1 118) n st.1) ≤ 160 by omega) b12_3).symm⟩
  · skip
    refine R_iload_n (pc := 15) dX6_numberAt_15 rfl rfl ?_
    refine R_iconst (pc := 16) (v := 5) dX6_numberAt_16 (by decide) ?_
    refine R_icgt (pc := 17) 35 dX6_numberAt_17 (by decide) (fun b17_4 => ?_) (fun b17_4 => ?_)
    · skip
      refine R_iconst (pc := 35) (v := (-1)) dX6_numberAt_35 (by decide) ?_
      exact R_iret (pc := 36) dX6_numberAt_36 rfl rfl (Nat.zero_le _) (Nat.zero_le _) ⟨_, rfl, rfl, (nu_5 (show st.1 ≤ (tkE (σ.2.2.1 118) n st.1) by omega) (show (tkE (σ.2.2.1 118) n st.1) ≤ 160 by omega) b17_4).symm⟩
    · skip
      refine R_aload_n (pc := 20) dX6_numberAt_20 rfl rfl ?_
      refine g_X6_9 (pc := 21) (v := .ref 118) rfl dX6_numberAt_21 (c_117 _) rfl ?_
      refine R_aload_n (pc := 24) dX6_numberAt_24 rfl rfl ?_
      refine g_X6_40 (pc := 25) (v := .int (nI st.1)) rfl dX6_numberAt_25 (c_117 _) (by show some (Value.int (σ.1 11702)) = _; rw [hR.2.2.2.2.2.1]) ?_
      have hx5 : vp_in (nI st.1) 160 := (vp_ti (by have q0 := (nI_toInt (n := st.1) (by omega)); have q1 := (nI_toInt (n := (tkE (σ.2.2.1 118) n st.1)) (by omega)); have q2 := (nI_toInt (n := n) (by omega)); have q3 := e2; have q4 := ti_nlt b12_3; have q5 := ti_nlt b17_4; have q6 := ti_in (show inR (nI st.1) 0 160 from (inR_nI (M := 160) (by omega) (by decide))); have q7 := ti_in (show inR (nI (tkE (σ.2.2.1 118) n st.1)) 0 160 from (inR_nI (M := 160) (by omega) (by decide))); have q8 := ti_in (show inR (nI n) 0 160 from (inR_nI (M := 160) (by omega) (by decide))); have q9 := ti_in r1; have z0 : (-160 : Int32).toInt = -160 := (by decide); have z1 : (0 : Int32).toInt = 0 := (by decide); have z2 : (1 : Int32).toInt = 1 := (by decide); have z3 : (118 : Int32).toInt = 118 := (by decide); have z4 : (160 : Int32).toInt = 160 := (by decide); have z5 : (5 : Int32).toInt = 5 := (by decide); omega) (by have q0 := (nI_toInt (n := st.1) (by omega)); have q1 := (nI_toInt (n := (tkE (σ.2.2.1 118) n st.1)) (by omega)); have q2 := (nI_toInt (n := n) (by omega)); have q3 := e2; have q4 := ti_nlt b12_3; have q5 := ti_nlt b17_4; have q6 := ti_in (show inR (nI st.1) 0 160 from (inR_nI (M := 160) (by omega) (by decide))); have q7 := ti_in (show inR (nI (tkE (σ.2.2.1 118) n st.1)) 0 160 from (inR_nI (M := 160) (by omega) (by decide))); have q8 := ti_in (show inR (nI n) 0 160 from (inR_nI (M := 160) (by omega) (by decide))); have q9 := ti_in r1; have z0 : (-160 : Int32).toInt = -160 := (by decide); have z1 : (0 : Int32).toInt = 0 := (by decide); have z2 : (1 : Int32).toInt = 1 := (by decide); have z3 : (118 : Int32).toInt = 118 := (by decide); have z4 : (160 : Int32).toInt = 160 := (by decide); have z5 : (5 : Int32).toInt = 5 := (by decide); omega))
      refine R_iaload (pc := 28) dX6_numberAt_28 (c_118 _) hx5 ?_
      refine k_X6_101 (pc := 29) (sp_X8_isDigit _ _) rfl (by decide) (Nat.le_refl _) (Nat.le_refl _) (Nat.le_of_ble_eq_true rfl) dX6_numberAt_29 (fun x w2 h => ?_)
      rcases h with ⟨rfl, ⟨h6, rfl⟩ | ⟨h6, rfl⟩⟩
      · skip
        refine R_ifne (pc := 32) 37 dX6_numberAt_32 (by decide) (fun _ => ?_) (fun h => absurd h (by decide))
        refine R_iconst (pc := 37) (v := 0) dX6_numberAt_37 (by decide) ?_
        refine st_4_2_i_i (pc := 38) dX6_numberAt_38 ?_
        refine R_aload_n (pc := 39) dX6_numberAt_39 rfl rfl ?_
        refine g_X6_40 (pc := 40) (v := .int (nI st.1)) rfl dX6_numberAt_40 (c_117 _) (by show some (Value.int (σ.1 11702)) = _; rw [hR.2.2.2.2.2.1]) ?_
        refine st_4_3_i_i (pc := 43) dX6_numberAt_43 ?_
        have HL44 : ∀ (q j44 : Nat) (g2_44 : Int32), j44 + q = 160 → st.1 ≤ j44 → nuF (σ.2.2.1 118) ((tkE (σ.2.2.1 118) n st.1) - j44) j44 g2_44 = nuF (σ.2.2.1 118) ((tkE (σ.2.2.1 118) n st.1) - st.1) st.1 0 → j44 ≤ (tkE (σ.2.2.1 118) n st.1) → R G l yX6_numberAt cX6_numberAt 4 (some .int) 1 0 0 (QI (fun x w2 => w2 = WW σ ∧ x = nu (σ.2.2.1 118) n st.1)) 44 [(some (.ref 117)), (some (.int ((nI (tkE (σ.2.2.1 118) n st.1)) - (nI st.1)))), (some (.int g2_44)), (some (.int (nI j44)))] [] (WW σ) 0 0 := by
          intro q
          induction q with
          | zero =>
            intro j44 g2_44 hj44 hs44 hX44_0 hX44_1
            obtain rfl : j44 = 160 := by omega
            refine R_iload_n (pc := 44) dX6_numberAt_44 rfl rfl ?_
            refine R_aload_n (pc := 45) dX6_numberAt_45 rfl rfl ?_
            refine g_X6_21 (pc := 46) (v := .int (nI (tkE (σ.2.2.1 118) n st.1))) rfl dX6_numberAt_46 (c_117 _) (by show some (Value.int (σ.1 11703)) = _; rw [hR.2.2.2.2.2.2.1]) ?_
            refine R_icge (pc := 49) 73 dX6_numberAt_49 (by decide) (fun _ => ?_) (fun h => absurd (Int32.not_lt.mp (inR_up (show inR (nI (tkE (σ.2.2.1 118) n st.1)) 0 160 from (inR_nI (M := 160) (by omega) (by decide))) (Int32.le_refl _) (by decide)).2) h)
            refine R_iload_n (pc := 73) dX6_numberAt_73 rfl rfl ?_
            exact R_iret (pc := 74) dX6_numberAt_74 rfl rfl (Nat.zero_le _) (Nat.zero_le _) ⟨_, rfl, rfl, ((nu_e hX44_0 (by omega)).trans (nu_tt (show st.1 ≤ (tkE (σ.2.2.1 118) n st.1) by omega) (show (tkE (σ.2.2.1 118) n st.1) ≤ 160 by omega) (show (1 : Int32) ≤ ((nI (tkE (σ.2.2.1 118) n st.1)) - (nI st.1)) from Int32.not_lt.mp b12_3) (show ((nI (tkE (σ.2.2.1 118) n st.1)) - (nI st.1)) ≤ 5 from Int32.not_lt.mp b17_4) h6))⟩
          | succ q ih44 =>
            intro j44 g2_44 hj44 hs44 hX44_0 hX44_1
            have hlt44 : j44 < 160 := by omega
            have hrg44 : inR (nI j44) 0 159 := inR_ix (s := 0) (by omega) hlt44 (by decide) (by decide) (by decide)
            refine R_iload_n (pc := 44) dX6_numberAt_44 rfl rfl ?_
            refine R_aload_n (pc := 45) dX6_numberAt_45 rfl rfl ?_
            refine g_X6_21 (pc := 46) (v := .int (nI (tkE (σ.2.2.1 118) n st.1))) rfl dX6_numberAt_46 (c_117 _) (by show some (Value.int (σ.1 11703)) = _; rw [hR.2.2.2.2.2.2.1]) ?_
            refine R_icge (pc := 49) 73 dX6_numberAt_49 (by decide) (fun b49_9 => ?_) (fun b49_9 => ?_)
            · skip
              refine R_iload_n (pc := 73) dX6_numberAt_73 rfl rfl ?_
              exact R_iret (pc := 74) dX6_numberAt_74 rfl rfl (Nat.zero_le _) (Nat.zero_le _) ⟨_, rfl, rfl, ((nu_e hX44_0 (nI_les (by omega) (by omega) b49_9)).trans (nu_tt (show st.1 ≤ (tkE (σ.2.2.1 118) n st.1) by omega) (show (tkE (σ.2.2.1 118) n st.1) ≤ 160 by omega) (show (1 : Int32) ≤ ((nI (tkE (σ.2.2.1 118) n st.1)) - (nI st.1)) from Int32.not_lt.mp b12_3) (show ((nI (tkE (σ.2.2.1 118) n st.1)) - (nI st.1)) ≤ 5 from Int32.not_lt.mp b17_4) h6))⟩
            · skip
              refine R_bipush (pc := 52) (v := 10) dX6_numberAt_52 (by decide) ?_
              refine R_iload_n (pc := 54) dX6_numberAt_54 rfl rfl ?_
              refine R_imul (pc := 55) dX6_numberAt_55 ?_
              refine R_aload_n (pc := 56) dX6_numberAt_56 rfl rfl ?_
              refine g_X6_9 (pc := 57) (v := .ref 118) rfl dX6_numberAt_57 (c_117 _) rfl ?_
              refine R_iload_n (pc := 60) dX6_numberAt_60 rfl rfl ?_
              have hx10 : vp_in (nI j44) 160 := (vp_in_nI (by omega) (by decide))
              refine R_iaload (pc := 61) dX6_numberAt_61 (c_118 _) hx10 ?_
              refine R_iadd (pc := 62) dX6_numberAt_62 ?_
              refine R_bipush (pc := 63) (v := 48) dX6_numberAt_63 (by decide) ?_
              refine R_isub (pc := 65) dX6_numberAt_65 ?_
              refine st_4_2_i_i (pc := 66) dX6_numberAt_66 ?_
              refine inc_4_3_1_i (pc := 67) dX6_numberAt_67 ?_
              have r11 : inR ((nI j44) + 1) 1 160 := inR_add (show inR (nI j44) 0 159 from hrg44) (show inR 1 1 1 from (inR_self _)) (by decide) (by decide)
              have e12 := ti_add (l := 1) (h := 160) (show inR (nI j44) 0 159 from hrg44) (show inR 1 1 1 from (inR_self _)) (by decide) (by decide)
              refine R_goto (pc := 70) 44 dX6_numberAt_70 (by decide) ?_
              rw [nI_1]
              exact ih44 (j44 + 1) _ (by omega) (by omega) (nu_s hX44_0 (by omega) (nI_lts (by omega) (by omega) (Int32.not_le.mp b49_9))) (Nat.succ_le_of_lt (nI_lts (by omega) (by omega) (Int32.not_le.mp b49_9)))
        exact HL44 (160 - st.1) st.1 _ (by omega) (by omega) rfl (by omega)
      · skip
        refine R_ifne (pc := 32) 37 dX6_numberAt_32 (by decide) (fun h => absurd (by decide) h) (fun _ => ?_)
        refine R_iconst (pc := 35) (v := (-1)) dX6_numberAt_35 (by decide) ?_
        exact R_iret (pc := 36) dX6_numberAt_36 rfl rfl (Nat.zero_le _) (Nat.zero_le _) ⟨_, rfl, rfl, (nu_d (by omega) h6).symm⟩
