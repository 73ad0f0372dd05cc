/-! what lasts from call to call -/
/-! what is worked out anew at each call (scratch), and what stays: the rest -/
def scI (n : Nat) : Bool := (5602 ≤ n && n ≤ 5604) || n == 8602 || n == 8902 || (11702 ≤ n && n ≤ 11704) || n == 14032 || (14039 ≤ n && n ≤ 14045)
def scJ (n : Nat) : Bool := n == 14041
def scA (p : Nat) : Bool := (55 ≤ p && p ≤ 57) || (86 ≤ p && p ≤ 92) || (151 ≤ p && p ≤ 155) || (163 ≤ p && p ≤ 166) || p == 171
/-! besides: what is kept of two cards (K), the lines at 126, those at 133; all of them (W) -/
def skA (p : Nat) : Bool := scA p || (14 ≤ p && p ≤ 33) || (35 ≤ p && p ≤ 54)
def slI (n : Nat) : Bool := scI n || n == 12606
def slA (p : Nat) : Bool := scA p || (126 ≤ p && p ≤ 132)
def smI (n : Nat) : Bool := scI n || n == 13306
def smA (p : Nat) : Bool := scA p || (133 ≤ p && p ≤ 139)
def swI (n : Nat) : Bool := scI n || n == 12606 || n == 13306
def swA (p : Nat) : Bool := scA p || (14 ≤ p && p ≤ 33) || (35 ≤ p && p ≤ 54) || (126 ≤ p && p ≤ 139)
theorem skA_14 {i : Nat} (h : i < 20) : skA (14 + i) = true := by unfold skA; simp; omega
theorem skA_35 {i : Nat} (h : i < 20) : skA (35 + i) = true := by unfold skA; simp; omega
theorem scA_64 {i : Nat} (h : i < 20) : scA (64 + i) = false := by unfold scA; simp; omega
theorem scA_96 {i : Nat} (h : i < 20) : scA (96 + i) = false := by unfold scA; simp; omega
theorem skA_64 {i : Nat} (h : i < 20) : skA (64 + i) = false := by unfold skA scA; simp; omega
theorem skA_96 {i : Nat} (h : i < 20) : skA (96 + i) = false := by unfold skA scA; simp; omega
theorem swA_64 {i : Nat} (h : i < 20) : swA (64 + i) = false := by unfold swA scA; simp; omega
theorem swA_96 {i : Nat} (h : i < 20) : swA (96 + i) = false := by unfold swA scA; simp; omega
theorem scA_14 {i : Nat} (h : i < 20) : scA (14 + i) = false := by unfold scA; simp; omega
theorem scA_35 {i : Nat} (h : i < 20) : scA (35 + i) = false := by unfold scA; simp; omega
/-- the second state has the first one's lasting cells -/
abbrev SC : Type := (Nat → Bool) × (Nat → Bool) × (Nat → Bool)
def Cq (S : SC) (ρ σ : Sg) : Prop := (∀ n, S.1 n = false → σ.1 n = ρ.1 n) ∧ (∀ n, S.2.1 n = false → σ.2.1 n = ρ.2.1 n) ∧ (∀ p, S.2.2 p = false → σ.2.2.1 p = ρ.2.2.1 p) ∧ (∀ p, σ.2.2.2.1 p = ρ.2.2.2.1 p) ∧ σ.2.2.2.2 = ρ.2.2.2.2
abbrev Cor (ρ σ : Sg) : Prop := Cq (scI, scJ, scA) ρ σ
abbrev CoK (ρ σ : Sg) : Prop := Cq (scI, scJ, skA) ρ σ
abbrev CoL (ρ σ : Sg) : Prop := Cq (slI, scJ, slA) ρ σ
abbrev CoM (ρ σ : Sg) : Prop := Cq (smI, scJ, smA) ρ σ
abbrev CoW (ρ σ : Sg) : Prop := Cq (swI, scJ, swA) ρ σ
theorem cq_up {S T : SC} {ρ σ : Sg} (h : Cq S ρ σ) (h1 : ∀ n, T.1 n = false → S.1 n = false) (h2 : ∀ n, T.2.1 n = false → S.2.1 n = false) (h3 : ∀ n, T.2.2 n = false → S.2.2 n = false) : Cq T ρ σ := ⟨fun n q => h.1 n (h1 n q), fun n q => h.2.1 n (h2 n q), fun n q => h.2.2.1 n (h3 n q), h.2.2.2.1, h.2.2.2.2⟩
theorem bor_l {a b : Bool} (h : (a || b) = false) : a = false := by
  cases a
  · rfl
  · cases h
theorem bor_r {a b : Bool} (h : (a || b) = false) : b = false := by
  cases a
  · exact h
  · cases h
theorem cor_k {ρ σ : Sg} (h : Cor ρ σ) : CoK ρ σ := cq_up h (fun _ q => q) (fun _ q => q) (fun _ q => bor_l (bor_l q))
theorem cor_l {ρ σ : Sg} (h : Cor ρ σ) : CoL ρ σ := cq_up h (fun _ q => bor_l q) (fun _ q => q) (fun _ q => bor_l q)
theorem cor_m {ρ σ : Sg} (h : Cor ρ σ) : CoM ρ σ := cq_up h (fun _ q => bor_l q) (fun _ q => q) (fun _ q => bor_l q)
theorem cok_w {ρ σ : Sg} (h : CoK ρ σ) : CoW ρ σ := cq_up h (fun _ q => bor_l (bor_l q)) (fun _ q => q) (fun _ q => bor_l q)
theorem cor_w {ρ σ : Sg} (h : Cor ρ σ) : CoW ρ σ := cok_w (cor_k h)
theorem col_w {ρ σ : Sg} (h : CoL ρ σ) : CoW ρ σ := by
  refine cq_up h (fun n q => bor_l q) (fun _ q => q) (fun n q => ?_)
  show slA n = false
  have q2 : swA n = false := q
  unfold swA at q2
  unfold slA
  simp only [Bool.or_eq_false_iff, Bool.and_eq_false_iff, decide_eq_false_iff_not] at q2 ⊢
  refine ⟨q2.1.1.1, ?_⟩
  omega
theorem com_w {ρ σ : Sg} (h : CoM ρ σ) : CoW ρ σ := by
  refine cq_up h (fun n q => ?_) (fun _ q => q) (fun n q => ?_)
  · show smI n = false
    have q2 : swI n = false := q
    unfold swI at q2
    unfold smI
    rw [bor_l (bor_l q2), bor_r q2]; rfl
  · show smA n = false
    have q2 : swA n = false := q
    unfold swA at q2
    unfold smA
    simp only [Bool.or_eq_false_iff, Bool.and_eq_false_iff, decide_eq_false_iff_not] at q2 ⊢
    refine ⟨q2.1.1.1, ?_⟩
    omega
def CoD (σ σ2 : Sg) : Prop := σ.2.2.2.2.2 = 126 ∧ CoL σ σ2 ∨ σ.2.2.2.2.2 = 133 ∧ CoM σ σ2
theorem cod_w {ρ σ : Sg} (h : CoD ρ σ) : CoW ρ σ := h.elim (fun q => col_w q.2) (fun q => com_w q.2)
theorem Cor.rfl' {S : SC} (σ : Sg) : Cq S σ σ := ⟨fun _ _ => rfl, fun _ _ => rfl, fun _ _ => rfl, fun _ => rfl, rfl⟩
theorem Cor.trans {S : SC} {ρ σ τ : Sg} (h : Cq S ρ σ) (k : Cq S σ τ) : Cq S ρ τ := ⟨fun n q => (k.1 n q).trans (h.1 n q), fun n q => (k.2.1 n q).trans (h.2.1 n q), fun n q => (k.2.2.1 n q).trans (h.2.2.1 n q), fun n => (k.2.2.2.1 n).trans (h.2.2.2.1 n), k.2.2.2.2.trans h.2.2.2.2⟩
theorem up_at {α : Type} (f : Nat → α) (k : Nat) (v : α) : va_up f k v k = v := by unfold va_up; rw [if_pos rfl]
theorem up_ne {α : Type} {f : Nat → α} {k j : Nat} (v : α) (h : ¬ j = k) : va_up f k v j = f j := by unfold va_up; rw [if_neg h]
theorem cor_si {S : SC} {ρ σ : Sg} (n : Nat) (v : Int32) (h : Cq S ρ σ) (hn : S.1 n = true) : Cq S ρ (uI σ n v) := by
  refine ⟨fun m q => ?_, h.2⟩
  show va_up σ.1 n v m = _
  rw [up_ne v (fun e => by rw [e, hn] at q; cases q)]
  exact h.1 m q
theorem cor_ci {S : SC} {ρ σ : Sg} (n : Nat) (v : Int32) (h : Cq S ρ σ) : Cq S (uI ρ n v) (uI σ n v) := by
  refine ⟨fun m q => ?_, h.2⟩
  show va_up σ.1 n v m = va_up ρ.1 n v m
  by_cases e : m = n
  · subst e; rw [up_at, up_at]
  · rw [up_ne v e, up_ne v e]; exact h.1 m q
theorem cor_sj {S : SC} {ρ σ : Sg} (n : Nat) (v : Int64) (h : Cq S ρ σ) (hn : S.2.1 n = true) : Cq S ρ (uJ σ n v) := by
  refine ⟨h.1, fun m q => ?_, h.2.2⟩
  show va_up σ.2.1 n v m = _
  rw [up_ne v (fun e => by rw [e, hn] at q; cases q)]
  exact h.2.1 m q
theorem cor_cj {S : SC} {ρ σ : Sg} (n : Nat) (v : Int64) (h : Cq S ρ σ) : Cq S (uJ ρ n v) (uJ σ n v) := by
  refine ⟨h.1, fun m q => ?_, h.2.2⟩
  show va_up σ.2.1 n v m = va_up ρ.2.1 n v m
  by_cases e : m = n
  · subst e; rw [up_at, up_at]
  · rw [up_ne v e, up_ne v e]; exact h.2.1 m q
theorem cor_sa {S : SC} {ρ σ : Sg} (p : Nat) (f : Nat → Int32) (h : Cq S ρ σ) (hp : S.2.2 p = true) : Cq S ρ (uA σ p f) := by
  refine ⟨h.1, h.2.1, fun m q => ?_, h.2.2.2⟩
  show va_up σ.2.2.1 p f m = _
  rw [up_ne f (fun e => by rw [e, hp] at q; cases q)]
  exact h.2.2.1 m q
theorem cor_ca {S : SC} {ρ σ : Sg} (p i : Nat) (v : Int32) (h : Cq S ρ σ) (hp : S.2.2 p = false) : Cq S (uA ρ p (upd (ρ.2.2.1 p) i v)) (uA σ p (upd (σ.2.2.1 p) i v)) := by
  refine ⟨h.1, h.2.1, fun m q => ?_, h.2.2.2⟩
  show va_up σ.2.2.1 p _ m = va_up ρ.2.2.1 p _ m
  by_cases e : m = p
  · subst e; rw [up_at, up_at, h.2.2.1 m hp]
  · rw [up_ne _ e, up_ne _ e]; exact h.2.2.1 m q
theorem cor_cb {S : SC} {ρ σ : Sg} (p i : Nat) (v : Int64) (h : Cq S ρ σ) : Cq S (uB ρ p (vp_updL (ρ.2.2.2.1 p) i v)) (uB σ p (vp_updL (σ.2.2.2.1 p) i v)) := by
  refine ⟨h.1, h.2.1, h.2.2.1, fun m => ?_, h.2.2.2.2⟩
  show va_up σ.2.2.2.1 p _ m = va_up ρ.2.2.2.1 p _ m
  by_cases e : m = p
  · subst e; rw [up_at, up_at, h.2.2.2.1 m]
  · rw [up_ne _ e, up_ne _ e]; exact h.2.2.2.1 m
theorem cor_un {S : SC} {ρ σ : Sg} (a b : Nat) (h : Cq S ρ σ) : Cq S (uN ρ a b) (uN σ a b) := ⟨h.1, h.2.1, h.2.2.1, h.2.2.2.1, rfl⟩
