/-! what lasts from call to call -/
/-! what is worked out anew at each call (scratch), and what stays: the rest -/
def scI (n : Nat) : Bool := (5602 ≤ n && n ≤ 5604) || n == 8602 || n == 8902 || (11702 ≤ n && n ≤ 11704) || n == 12606 || n == 13306 || n == 14032 || (14039 ≤ n && n ≤ 14045)
def scJ (n : Nat) : Bool := n == 14041
def scA (p : Nat) : Bool := (14 ≤ p && p ≤ 57) || (86 ≤ p && p ≤ 92) || (126 ≤ p && p ≤ 139) || (151 ≤ p && p ≤ 155) || (163 ≤ p && p ≤ 166) || p == 171
theorem scA_14 {i : Nat} (h : i < 20) : scA (14 + i) = true := by unfold scA; simp; omega
theorem scA_35 {i : Nat} (h : i < 20) : scA (35 + i) = true := by unfold scA; simp; omega
theorem scA_64 {i : Nat} (h : i < 20) : scA (64 + i) = false := by unfold scA; simp; omega
theorem scA_96 {i : Nat} (h : i < 20) : scA (96 + i) = false := by unfold scA; simp; omega
/-- the second state has the first one's lasting cells -/
def Cor (ρ σ : Sg) : Prop := (∀ n, scI n = false → σ.1 n = ρ.1 n) ∧ (∀ n, scJ n = false → σ.2.1 n = ρ.2.1 n) ∧ (∀ p, scA p = false → σ.2.2.1 p = ρ.2.2.1 p) ∧ (∀ p, σ.2.2.2.1 p = ρ.2.2.2.1 p) ∧ σ.2.2.2.2 = ρ.2.2.2.2
theorem Cor.rfl' (σ : Sg) : Cor σ σ := ⟨fun _ _ => rfl, fun _ _ => rfl, fun _ _ => rfl, fun _ => rfl, rfl⟩
theorem Cor.trans {ρ σ τ : Sg} (h : Cor ρ σ) (k : Cor σ τ) : Cor ρ τ := ⟨fun n q => (k.1 n q).trans (h.1 n q), fun n q => (k.2.1 n q).trans (h.2.1 n q), fun n q => (k.2.2.1 n q).trans (h.2.2.1 n q), fun n => (k.2.2.2.1 n).trans (h.2.2.2.1 n), k.2.2.2.2.trans h.2.2.2.2⟩
theorem up_at {α : Type} (f : Nat → α) (k : Nat) (v : α) : va_up f k v k = v := by unfold va_up; rw [if_pos rfl]
theorem up_ne {α : Type} {f : Nat → α} {k j : Nat} (v : α) (h : ¬ j = k) : va_up f k v j = f j := by unfold va_up; rw [if_neg h]
theorem cor_si {ρ σ : Sg} (n : Nat) (v : Int32) (h : Cor ρ σ) (hn : scI n = true) : Cor ρ (uI σ n v) := by
  refine ⟨fun m q => ?_, h.2⟩
  show va_up σ.1 n v m = _
  rw [up_ne v (fun e => by rw [e, hn] at q; cases q)]
  exact h.1 m q
theorem cor_ci {ρ σ : Sg} (n : Nat) (v : Int32) (h : Cor ρ σ) : Cor (uI ρ n v) (uI σ n v) := by
  refine ⟨fun m q => ?_, h.2⟩
  show va_up σ.1 n v m = va_up ρ.1 n v m
  by_cases e : m = n
  · subst e; rw [up_at, up_at]
  · rw [up_ne v e, up_ne v e]; exact h.1 m q
theorem cor_sj {ρ σ : Sg} (n : Nat) (v : Int64) (h : Cor ρ σ) (hn : scJ n = true) : Cor ρ (uJ σ n v) := by
  refine ⟨h.1, fun m q => ?_, h.2.2⟩
  show va_up σ.2.1 n v m = _
  rw [up_ne v (fun e => by rw [e, hn] at q; cases q)]
  exact h.2.1 m q
theorem cor_cj {ρ σ : Sg} (n : Nat) (v : Int64) (h : Cor ρ σ) : Cor (uJ ρ n v) (uJ σ n v) := by
  refine ⟨h.1, fun m q => ?_, h.2.2⟩
  show va_up σ.2.1 n v m = va_up ρ.2.1 n v m
  by_cases e : m = n
  · subst e; rw [up_at, up_at]
  · rw [up_ne v e, up_ne v e]; exact h.2.1 m q
theorem cor_sa {ρ σ : Sg} (p : Nat) (f : Nat → Int32) (h : Cor ρ σ) (hp : scA p = true) : Cor ρ (uA σ p f) := by
  refine ⟨h.1, h.2.1, fun m q => ?_, h.2.2.2⟩
  show va_up σ.2.2.1 p f m = _
  rw [up_ne f (fun e => by rw [e, hp] at q; cases q)]
  exact h.2.2.1 m q
theorem cor_ca {ρ σ : Sg} (p i : Nat) (v : Int32) (h : Cor ρ σ) (hp : scA p = false) : Cor (uA ρ p (upd (ρ.2.2.1 p) i v)) (uA σ p (upd (σ.2.2.1 p) i v)) := by
  refine ⟨h.1, h.2.1, fun m q => ?_, h.2.2.2⟩
  show va_up σ.2.2.1 p _ m = va_up ρ.2.2.1 p _ m
  by_cases e : m = p
  · subst e; rw [up_at, up_at, h.2.2.1 m hp]
  · rw [up_ne _ e, up_ne _ e]; exact h.2.2.1 m q
theorem cor_cb {ρ σ : Sg} (p i : Nat) (v : Int64) (h : Cor ρ σ) : Cor (uB ρ p (vp_updL (ρ.2.2.2.1 p) i v)) (uB σ p (vp_updL (σ.2.2.2.1 p) i v)) := by
  refine ⟨h.1, h.2.1, h.2.2.1, fun m => ?_, h.2.2.2.2⟩
  show va_up σ.2.2.2.1 p _ m = va_up ρ.2.2.2.1 p _ m
  by_cases e : m = p
  · subst e; rw [up_at, up_at, h.2.2.2.1 m]
  · rw [up_ne _ e, up_ne _ e]; exact h.2.2.2.1 m
theorem cor_un {ρ σ : Sg} (a b : Nat) (h : Cor ρ σ) : Cor (uN ρ a b) (uN σ a b) := ⟨h.1, h.2.1, h.2.2.1, h.2.2.2.1, rfl⟩
