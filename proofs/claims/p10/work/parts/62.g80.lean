/-! methods on any state that keeps the invariant -/
/-! what is kept of every two cards: two tables, by rows from B on -/
def RW (B : Nat) (V : Nat → Nat → Int32) (ρ : Nat → Nat → Int32) (C j : Nat) (r : Nat → Nat → Int32) : Prop := ∀ a b : Nat, a < 20 → b < 20 → r (B + a) b = if (a = C ∧ b < j) ∨ (b = C ∧ a < j) then V a b else ρ (B + a) b
theorem rw_0 {B : Nat} {V : Nat → Nat → Int32} {ρ : Nat → Nat → Int32} {C : Nat} : RW B V ρ C 0 ρ := by
  intro a b _ _
  rw [if_neg (by omega)]
theorem rw_s {B : Nat} {V : Nat → Nat → Int32} {ρ r : Nat → Nat → Int32} {C J j : Nat} {y : Int32} (hJ : J = j) (h : RW B V ρ C j r) (hy : y = V C j) (hs : V C j = V j C) : RW B V ρ C (j + 1) (va_up (va_up r (B + C) (upd (r (B + C)) J y)) (B + J) (upd (va_up r (B + C) (upd (r (B + C)) J y) (B + J)) C y)) := by
  subst hJ
  intro a b ha hb
  by_cases e : a = J
  · subst e
    rw [up_at]
    by_cases e2 : b = C
    · subst e2
      rw [upd_at, if_pos (by omega), hy, hs]
    · rw [upd_ne _ e2]
      by_cases e3 : a = C
      · subst e3
        rw [up_at]
        by_cases e4 : b = a
        · exact absurd e4 e2
        · rw [upd_ne _ e4, h a b ha hb]
          by_cases q : b < a
          · rw [if_pos (by omega), if_pos (by omega)]
          · rw [if_neg (by omega), if_neg (by omega)]
      · rw [up_ne _ (by omega), h a b ha hb, if_neg (by omega), if_neg (by omega)]
  · rw [up_ne _ (by omega)]
    by_cases e3 : a = C
    · subst e3
      rw [up_at]
      by_cases e4 : b = J
      · subst e4
        rw [upd_at, if_pos (by omega), hy]
      · rw [upd_ne _ e4, h a b ha hb]
        by_cases q : b < J ∨ (b = a ∧ a < J)
        · rw [if_pos (by omega), if_pos (by omega)]
        · rw [if_neg (by omega), if_neg (by omega)]
    · rw [up_ne _ (by omega), h a b ha hb]
      by_cases q : b = C ∧ a < J
      · rw [if_pos (by omega), if_pos (by omega)]
      · rw [if_neg (by omega), if_neg (by omega)]
theorem rw_cor {B : Nat} {V : Nat → Nat → Int32} {ρ : Nat → Nat → Int32} {C j : Nat} {τ υ : Sg} (hB : ∀ i : Nat, i < 20 → scA (B + i) = false) (h : RW B V ρ C j τ.2.2.1) (k : Cor τ υ) : RW B V ρ C j υ.2.2.1 := by
  intro a b ha hb
  rw [k.2.2.1 (B + a) (hB a ha)]
  exact h a b ha hb
/-- rows p with lo ≤ p ≤ hi are as they were -/
def KP (lo hi : Nat) (σ τ : Sg) : Prop := ∀ p : Nat, lo ≤ p → p ≤ hi → τ.2.2.1 p = σ.2.2.1 p
theorem kp_rfl (lo hi : Nat) (σ : Sg) : KP lo hi σ σ := fun _ _ _ => rfl
theorem kp_trans {lo hi : Nat} {σ τ υ : Sg} (h : KP lo hi σ τ) (k : KP lo hi τ υ) : KP lo hi σ υ := fun p a b => (k p a b).trans (h p a b)
theorem scA_1454 {p : Nat} (h : 14 ≤ p) (h2 : p ≤ 54) : scA p = false := by unfold scA; simp; omega
theorem kp_cor {lo hi : Nat} {σ τ : Sg} (h1 : 14 ≤ lo) (h2 : hi ≤ 54) (k : Cor σ τ) : KP lo hi σ τ := fun p a b => k.2.2.1 p (scA_1454 (by omega) (by omega))
theorem kp_s {lo hi : Nat} {σ τ : Sg} {a b : Nat} {f g : Nat → Int32} (h : KP lo hi σ τ) (ha : a < lo ∨ hi < a) (hb : b < lo ∨ hi < b) : KP lo hi σ (uA (uA τ a f) b g) := by
  intro p h1 h2
  show va_up (va_up τ.2.2.1 a f) b g p = _
  rw [up_ne _ (by omega), up_ne _ (by omega)]
  exact h p h1 h2
/-! how far the captions of two cards are -/
def wN (σ : Sg) (c : Nat) : Nat → Int32 := fun i => byI (σ.2.2.2.1 10 c) (nI i)
def LV (σ : Sg) (a b : Nat) : Nat := lev (wN σ a) (wN σ b) (σ.2.2.1 11 a).toNatClampNeg (σ.2.2.1 11 b).toNatClampNeg
def LVI (σ : Sg) (a b : Nat) : Int32 := nI (LV σ a b)
theorem lv_sym (σ : Sg) (a b : Nat) : LVI σ a b = LVI σ b a := congrArg nI (lev_sym _ _ _ _ _ (Nat.le_refl _))
theorem lv_of {σ τ : Sg} (h1 : τ.2.2.2.1 10 = σ.2.2.2.1 10) (h2 : τ.2.2.1 11 = σ.2.2.1 11) (a b : Nat) : LVI τ a b = LVI σ a b := by
  unfold LVI LV wN
  rw [h1, h2]
def sz (σ : Sg) : Nat := (σ.1 110).toNatClampNeg
/-- the table of captions -/
def ChL (σ : Sg) : Prop := ∀ a b : Nat, a < 20 → b < 20 → a < sz σ → b < sz σ → σ.2.2.1 (35 + a) b = LVI σ a b
/-! what the tables and the cards' words need: that these cells are the same -/
def Fr (σ τ : Sg) : Prop := τ.1 110 = σ.1 110 ∧ KP 14 54 σ τ ∧ τ.2.2.1 7 = σ.2.2.1 7 ∧ τ.2.2.1 11 = σ.2.2.1 11 ∧ τ.2.2.2.1 6 = σ.2.2.2.1 6 ∧ τ.2.2.2.1 10 = σ.2.2.2.1 10
theorem fr_0 (σ : Sg) : Fr σ σ := ⟨rfl, kp_rfl 14 54 σ, rfl, rfl, rfl, rfl⟩
theorem fr_trans {σ τ υ : Sg} (h : Fr σ τ) (k : Fr τ υ) : Fr σ υ := ⟨k.1.trans h.1, kp_trans h.2.1 k.2.1, k.2.2.1.trans h.2.2.1, k.2.2.2.1.trans h.2.2.2.1, k.2.2.2.2.1.trans h.2.2.2.2.1, k.2.2.2.2.2.trans h.2.2.2.2.2⟩
theorem fr_i {σ τ : Sg} (n : Nat) (v : Int32) (h : Fr σ τ) (hn : ¬ n = 110) : Fr σ (uI τ n v) := by
  refine ⟨?_, h.2⟩
  show va_up τ.1 n v 110 = _
  rw [up_ne _ (fun e => hn e.symm)]
  exact h.1
theorem fr_j {σ τ : Sg} (n : Nat) (v : Int64) (h : Fr σ τ) : Fr σ (uJ τ n v) := h
theorem fr_n {σ τ : Sg} (a b : Nat) (h : Fr σ τ) : Fr σ (uN τ a b) := h
theorem fr_b {σ τ : Sg} (p : Nat) (f : Nat → Int64) (h : Fr σ τ) (h1 : ¬ p = 6) (h2 : ¬ p = 10) : Fr σ (uB τ p f) := by
  refine ⟨h.1, h.2.1, h.2.2.1, h.2.2.2.1, ?_, ?_⟩
  · show va_up τ.2.2.2.1 p f 6 = _
    rw [up_ne _ (fun e => h1 e.symm)]; exact h.2.2.2.2.1
  · show va_up τ.2.2.2.1 p f 10 = _
    rw [up_ne _ (fun e => h2 e.symm)]; exact h.2.2.2.2.2
theorem fr_a {σ τ : Sg} (p : Nat) (f : Nat → Int32) (h : Fr σ τ) (hp : p < 7 ∨ 7 < p ∧ p < 11 ∨ 11 < p ∧ p < 14 ∨ 54 < p) : Fr σ (uA τ p f) := by
  refine ⟨h.1, ?_, ?_, ?_, h.2.2.2.2⟩
  · intro q h1 h2
    show va_up τ.2.2.1 p f q = _
    rw [up_ne _ (by omega)]; exact h.2.1 q h1 h2
  · show va_up τ.2.2.1 p f 7 = _
    rw [up_ne _ (by omega)]; exact h.2.2.1
  · show va_up τ.2.2.1 p f 11 = _
    rw [up_ne _ (by omega)]; exact h.2.2.2.1
theorem fr_cor {σ τ : Sg} (h : Cor σ τ) : Fr σ τ := ⟨h.1 110 rfl, kp_cor (by omega) (by omega) h, h.2.2.1 7 rfl, h.2.2.1 11 rfl, h.2.2.2.1 6, h.2.2.2.1 10⟩
theorem fr_col {σ τ : Sg} (h : CoL σ τ) : Fr σ τ := ⟨h.1 110 rfl, fun p a b => h.2.2.1 p (by show slA p = false; unfold slA scA; simp; omega), h.2.2.1 7 rfl, h.2.2.1 11 rfl, h.2.2.2.1 6, h.2.2.2.1 10⟩
theorem fr_com {σ τ : Sg} (h : CoM σ τ) : Fr σ τ := ⟨h.1 110 rfl, fun p a b => h.2.2.1 p (by show smA p = false; unfold smA scA; simp; omega), h.2.2.1 7 rfl, h.2.2.1 11 rfl, h.2.2.2.1 6, h.2.2.2.1 10⟩
theorem fr_cod {σ τ : Sg} (h : CoD σ τ) : Fr σ τ := h.elim (fun q => fr_col q.2) (fun q => fr_com q.2)
theorem fr_bif {σ ρ τ : Sg} {K : Bool} (hE : Fr σ ρ) (h : Cor (bif K then ρ else σ) τ) : Fr σ τ := by
  cases K
  · exact fr_cor h
  · exact fr_trans hE (fr_cor h)
theorem chL_fr {σ τ : Sg} (h : ChL σ) (k : Fr σ τ) : ChL τ := by
  intro a b ha hb ha2 hb2
  have e : sz τ = sz σ := by unfold sz; rw [k.1]
  rw [e] at ha2 hb2
  rw [k.2.1 (35 + a) (by omega) (by omega), lv_of k.2.2.2.2.2 k.2.2.2.1]
  exact h a b ha hb ha2 hb2
theorem chL_0 {σ : Sg} (h : σ.1 110 = 0) : ChL σ := by
  intro a b _ _ h2 _
  unfold sz at h2
  rw [h] at h2
  exact absurd h2 (Nat.not_lt_zero a)
theorem fr_tell {σ : Sg} {a b n k : Int32} {p : Int64} {s t : Int32} : (E_tell σ a b n k p s t).1 110 = σ.1 110 + 1 ∧ KP 14 54 σ (E_tell σ a b n k p s t) ∧ (E_tell σ a b n k p s t).2.2.1 11 = σ.2.2.1 11 ∧ (E_tell σ a b n k p s t).2.2.2.1 10 = σ.2.2.2.1 10 := by
  refine ⟨rfl, fun q h1 h2 => ?_, rfl, rfl⟩
  unfold E_tell
  show va_up (va_up (va_up (va_up (va_up (va_up (va_up σ.2.2.1 2 _) 3 _)  4 _)  5 _)  7 _)  8 _)  9 _ q = _
  rw [up_ne _ (by omega), up_ne _ (by omega), up_ne _ (by omega), up_ne _ (by omega), up_ne _ (by omega), up_ne _ (by omega), up_ne _ (by omega)]
theorem sz_s {σ τ : Sg} (hz : inR (σ.1 110) 0 19) (h : τ.1 110 = σ.1 110 + 1) : sz τ = sz σ + 1 := by
  obtain ⟨j, hj, e⟩ := nI_inR (M := 19) hz (by decide)
  unfold sz
  rw [h, e, nI_1, nI_clamp (by omega), nI_clamp (by omega)]
/-- a card more: its row and its column are worked out anew -/
theorem chL_card {σ τ υ φ : Sg} (hC : ChL σ) (hz : inR (σ.1 110) 0 19) (h1 : τ.1 110 = σ.1 110 + 1) (h2 : KP 35 54 σ τ) (h3 : τ.2.2.1 11 = σ.2.2.1 11) (h4 : τ.2.2.2.1 10 = σ.2.2.2.1 10) (k : CoK τ υ) (hk : KP 35 54 τ υ) (m : CoK υ φ) (hm : RW 35 (LVI υ) υ.2.2.1 (σ.1 110).toNatClampNeg (sz υ) φ.2.2.1) : ChL φ := by
  have e1 : sz υ = sz σ + 1 := sz_s hz ((k.1 110 rfl).trans h1)
  have e2 : sz φ = sz υ := by unfold sz; rw [m.1 110 rfl]
  have c10 : υ.2.2.2.1 10 = σ.2.2.2.1 10 := (k.2.2.2.1 10).trans h4
  have c11 : υ.2.2.1 11 = σ.2.2.1 11 := (k.2.2.1 11 rfl).trans h3
  intro a b ha hb ha2 hb2
  rw [e2] at ha2 hb2
  rw [hm a b ha hb, lv_of (m.2.2.2.1 10) (m.2.2.1 11 rfl)]
  by_cases q : (a = (σ.1 110).toNatClampNeg ∧ b < sz υ) ∨ (b = (σ.1 110).toNatClampNeg ∧ a < sz υ)
  · rw [if_pos q]
  · rw [if_neg q, hk (35 + a) (by omega) (by omega), h2 (35 + a) (by omega) (by omega), lv_of c10 c11]
    have e3 : sz σ = (σ.1 110).toNatClampNeg := rfl
    exact hC a b ha hb (by omega) (by omega)
/-- another caption: its row and its column -/
theorem chL_cap {σ τ φ : Sg} {C : Nat} (hC : ChL σ) (h1 : τ.1 110 = σ.1 110) (h2 : KP 35 54 σ τ) (h3 : ∀ d : Nat, ¬ d = C → τ.2.2.1 11 d = σ.2.2.1 11 d) (h4 : ∀ d : Nat, ¬ d = C → τ.2.2.2.1 10 d = σ.2.2.2.1 10 d) (m : CoK τ φ) (hm : RW 35 (LVI τ) τ.2.2.1 C (sz τ) φ.2.2.1) : ChL φ := by
  have e1 : sz τ = sz σ := by unfold sz; rw [h1]
  have e2 : sz φ = sz τ := by unfold sz; rw [m.1 110 rfl]
  intro a b ha hb ha2 hb2
  rw [e2] at ha2 hb2
  rw [hm a b ha hb, lv_of (m.2.2.2.1 10) (m.2.2.1 11 rfl)]
  by_cases q : (a = C ∧ b < sz τ) ∨ (b = C ∧ a < sz τ)
  · rw [if_pos q]
  · rw [if_neg q, h2 (35 + a) (by omega) (by omega), hC a b ha hb (by omega) (by omega)]
    have qa : ¬ a = C := fun e => q (Or.inl ⟨e, hb2⟩)
    have qb : ¬ b = C := fun e => q (Or.inr ⟨e, ha2⟩)
    unfold LVI LV wN
    rw [h3 a qa, h3 b qb, h4 a qa, h4 b qb]

theorem fr_X8_days (σ : Sg) (a : Int32) : Fr σ (E_X8_days σ a) := (fr_i 111 _ (fr_0 σ) (by decide))
theorem fr_X8_feature (σ : Sg) (f a b : Int32) : Fr σ (E_X8_feature σ f a b) := (fr_a 60 _ (fr_a 59 _ (fr_0 σ) (by omega)) (by omega))
theorem fr_X8_back (σ : Sg) (f a b : Int32) : Fr σ (E_X8_back σ f a b) := (fr_a 62 _ (fr_a 61 _ (fr_0 σ) (by omega)) (by omega))
theorem fr_X8_landmark (σ : Sg) (a b : Int32) : Fr σ (E_X8_landmark σ a b) := (fr_a 94 _ (fr_0 σ) (by omega))
theorem fr_X8_walls (σ : Sg) (a : Int64) : Fr σ (E_X8_walls σ a) := (fr_j 9301 _ (fr_0 σ))
theorem fr_X8_shows (σ : Sg) (c f v : Int32) : Fr σ (E_X8_shows σ c f v) := (fr_a (64 + (Int32.toNatClampNeg c)) _ (fr_0 σ) (by omega))
theorem fr_X8_later (σ : Sg) (a b : Int32) : Fr σ (E_X8_later σ a b) := (fr_i 5809 _ (fr_a 85 _ (fr_a 84 _ (fr_0 σ) (by omega)) (by omega)) (by decide))
theorem fr_X8_unview (σ : Sg) (c : Int32) : Fr σ (E_X8_unview σ c) := (fr_a 116 _ (fr_0 σ) (by omega))
theorem fr_X8_view (σ : Sg) (c l9 : Int32) : Fr σ (E_X8_view σ c l9) := (fr_a 116 _ (fr_a (96 + (Int32.toNatClampNeg c)) _ (fr_0 σ) (by omega)) (by omega))
theorem fr_X8_write (σ : Sg) (p : Int64) (n : Int32) : Fr σ (E_X8_write σ p n) := (fr_i 11701 _ (fr_a 118 _ (fr_0 σ) (by omega)) (by decide))
theorem fr_X8_erase (σ : Sg)  : Fr σ (E_X8_erase σ) := (fr_i 11701 _ (fr_0 σ) (by decide))
theorem fr_X9_card (σ : Sg) (a b n k : Int32) (p : Int64) (s t : Int32) : Fr σ (E_X9_card σ a b n k p s t) := (fr_i 14000 _ (fr_a 158 _ (fr_a 148 _ (fr_a 147 _ (fr_a 146 _ (fr_b 145 _ (fr_a 144 _ (fr_a 143 _ (fr_a 142 _ (fr_a 141 _ (fr_0 σ) (by omega)) (by omega)) (by omega)) (by omega)) (by decide) (by decide)) (by omega)) (by omega)) (by omega)) (by omega)) (by decide))
theorem fr_X9_caption (σ : Sg) (c : Int32) (p : Int64) (n : Int32) : Fr σ (E_X9_caption σ c p n) := (fr_a 149 _ (fr_a 150 _ (fr_0 σ) (by omega)) (by omega))
theorem fr_X9_days (σ : Sg) (a : Int32) : Fr σ (E_X9_days σ a) := (fr_i 14011 _ (fr_0 σ) (by decide))
theorem fr_X9_feature (σ : Sg) (f a b : Int32) : Fr σ (E_X9_feature σ f a b) := (fr_a 157 _ (fr_a 156 _ (fr_0 σ) (by omega)) (by omega))
theorem fr_X9_back (σ : Sg) (f a b : Int32) : Fr σ (E_X9_back σ f a b) := (fr_a 160 _ (fr_a 159 _ (fr_0 σ) (by omega)) (by omega))
theorem fr_X9_landmark (σ : Sg) (a b : Int32) : Fr σ (E_X9_landmark σ a b) := (fr_a 167 _ (fr_0 σ) (by omega))
theorem fr_X9_walls (σ : Sg) (a : Int64) : Fr σ (E_X9_walls σ a) := (fr_j 14034 _ (fr_0 σ))
theorem fr_X9_shows (σ : Sg) (c f v : Int32) : Fr σ (E_X9_shows σ c f v) := (fr_a 158 _ (fr_0 σ) (by omega))
theorem fr_X9_later (σ : Sg) (a b : Int32) : Fr σ (E_X9_later σ a b) := (fr_i 14025 _ (fr_a 162 _ (fr_a 161 _ (fr_0 σ) (by omega)) (by omega)) (by decide))
theorem fr_X9_unview (σ : Sg) (c : Int32) : Fr σ (E_X9_unview σ c) := (fr_a 168 _ (fr_0 σ) (by omega))
theorem fr_X9_view (σ : Sg) (c l9 : Int32) : Fr σ (E_X9_view σ c l9) := (fr_a 168 _ (fr_a 169 _ (fr_0 σ) (by omega)) (by omega))
theorem fr_X9_write (σ : Sg) (p : Int64) (n : Int32) : Fr σ (E_X9_write σ p n) := (fr_i 14037 _ (fr_a 170 _ (fr_0 σ) (by omega)) (by decide))
theorem fr_X9_erase (σ : Sg)  : Fr σ (E_X9_erase σ) := (fr_i 14037 _ (fr_0 σ) (by decide))
theorem fr_b2 {σ ρ : Sg} {K : Bool} (h : Fr σ ρ) : Fr σ (bif K then ρ else σ) := by
  cases K
  · exact fr_0 σ
  · exact h
theorem fr_X8_set (σ : Sg) (a v : Int32) : Fr σ (E_X8_set σ a v) := by
  unfold E_X8_set
  by_cases h0 : a = 0
  · rw [if_pos h0]; exact fr_b2 (fr_i 1204 _ (fr_0 σ) (by decide))
  · rw [if_neg h0]
    by_cases h1 : a = 1
    · rw [if_pos h1]; exact fr_b2 (fr_i 112 _ (fr_0 σ) (by decide))
    · rw [if_neg h1]
      by_cases h2 : a = 2
      · rw [if_pos h2]; exact fr_b2 (fr_i 9 _ (fr_0 σ) (by decide))
      · rw [if_neg h2]; exact fr_0 σ
theorem fr_X9_set (σ : Sg) (a v : Int32) : Fr σ (E_X9_set σ a v) := by
  unfold E_X9_set
  by_cases h0 : a = 0
  · rw [if_pos h0]; exact fr_b2 (fr_i 14014 _ (fr_i 14013 _ (fr_i 14012 _ (fr_0 σ) (by decide)) (by decide)) (by decide))
  · rw [if_neg h0]
    by_cases h1 : a = 1
    · rw [if_pos h1]; exact fr_b2 (fr_i 14014 _ (fr_i 14013 _ (fr_i 14012 _ (fr_0 σ) (by decide)) (by decide)) (by decide))
    · rw [if_neg h1]
      by_cases h2 : a = 2
      · rw [if_pos h2]; exact fr_b2 (fr_i 14014 _ (fr_i 14013 _ (fr_i 14012 _ (fr_0 σ) (by decide)) (by decide)) (by decide))
      · rw [if_neg h2]; exact fr_0 σ
theorem fr_cat8 {σ τ : Sg} (h : ∃ a b, (CoL (uN σ a b) τ ∨ CoM (uN σ a b) τ)) : Fr σ τ := by
  obtain ⟨a, b, h | h⟩ := h
  · exact fr_trans (fr_n a b (fr_0 σ)) (fr_col h)
  · exact fr_trans (fr_n a b (fr_0 σ)) (fr_com h)
theorem fr_cat9 {σ τ : Sg} (h : Cor σ τ ∨ ∃ f n, Cor (uI (uA σ 172 f) 14047 n) τ) : Fr σ τ := by
  rcases h with h | ⟨f, n, h⟩
  · exact fr_cor h
  · exact fr_trans (fr_i 14047 n (fr_a 172 f (fr_0 σ) (by omega)) (by decide)) (fr_cor h)
theorem lvk_at {σ τ : Sg} (h : CoK σ τ) {c : Int32} {j : Nat} (hj : j < 20) : nI (lev (wC τ c) (wC τ (nI j)) (Int32.toNatClampNeg (τ.2.2.1 11 (Int32.toNatClampNeg c))) (Int32.toNatClampNeg (τ.2.2.1 11 (Int32.toNatClampNeg (nI j))))) = LVI σ (Int32.toNatClampNeg c) j := by
  unfold LVI LV wN wC
  rw [h.2.2.2.1 10, h.2.2.1 11 rfl, nI_clamp (by omega)]
set_option maxRecDepth 100000 in
set_option maxHeartbeats 40000000 in
theorem gk_X3_compareWord {G : vG} {l : Launch} (σ : Sg) (c : Int32) (hI : Inv σ) (hc : inR c 0 19) : Sp G l yX3_compareWord cX3_compareWord 4 none 2 0 0 [.ref 12, .int c] (WW σ) (QV (fun w2 => ∃ σ2, w2 = WW σ2 ∧ Inv σ2 ∧ CoK σ σ2 ∧ KP 14 33 σ σ2 ∧ RW 35 (LVI σ) σ.2.2.1 (Int32.toNatClampNeg c) (sz σ) σ2.2.2.1)) := by
  refine Sp_of_R [(some (.ref 12)), (some (.int c)), none, none] [none, none] rfl (by simp) rfl (Nat.le_of_ble_eq_true rfl) ?_
  refine R_iconst (pc := 0) (v := 0) dX3_compareWord_0 (by decide) ?_
  refine st_4_2_i_i (pc := 1) dX3_compareWord_1 ?_
  have HL2 : ∀ (q j2 : Nat) (σ2 : Sg) (g3_2 : Option Value), j2 + q = 20 → 0 ≤ j2 → Inv σ2 → CoK σ σ2 → RW 35 (LVI σ) σ.2.2.1 (Int32.toNatClampNeg c) j2 σ2.2.2.1 → KP 14 33 σ σ2 → nI j2 ≤ (σ.1 110) → R G l yX3_compareWord cX3_compareWord 4 none 2 0 0 (QV (fun w2 => ∃ σ2, w2 = WW σ2 ∧ Inv σ2 ∧ CoK σ σ2 ∧ KP 14 33 σ σ2 ∧ RW 35 (LVI σ) σ.2.2.1 (Int32.toNatClampNeg c) (sz σ) σ2.2.2.1)) 2 [(some (.ref 12)), (some (.int c)), (some (.int (nI j2))), g3_2] [] (WW σ2) 0 0 := by
    intro q
    induction q with
    | zero =>
      intro j2 σ2 g3_2 hj hs2 hI2 hC2 hX2_0 hX2_1 hX2_2
      obtain rfl : j2 = 20 := by omega
      refine R_iload_n (pc := 2) dX3_compareWord_2 rfl rfl ?_
      refine R_aload_n (pc := 3) dX3_compareWord_3 rfl rfl ?_
      refine g_X3_27 (pc := 4) (v := .ref 1) rfl dX3_compareWord_4 (c_12 _) rfl ?_
      refine g_X3_31 (pc := 7) (v := .int (σ.1 110)) rfl dX3_compareWord_7 (c_1 _) (by show some (Value.int (σ2.1 110)) = _; rw [hC2.1 110 rfl]) ?_
      refine R_icge (pc := 10) 44 dX3_compareWord_10 (by decide) (fun _ => ?_) (fun h => absurd (Int32.not_lt.mp (inR_up (iv_110 hI) (Int32.le_refl _) (by decide)).2) h)
      exact R_vret (pc := 44) dX3_compareWord_44 rfl (Nat.zero_le _) (Nat.zero_le _) ⟨rfl, _, rfl, hI2, hC2, hX2_1, (by rw [show sz σ = 20 from (show (Int32.toNatClampNeg (σ.1 110)) = 20 from jn_of (by omega) (by first | exact nI_eqe hX2_2 (by assumption) | exact nI_eq20 hX2_2 (iv_110 hI)))]; exact hX2_0)⟩
    | succ q ih2 =>
      intro j2 σ2 g3_2 hj hs2 hI2 hC2 hX2_0 hX2_1 hX2_2
      have hrg2 : inR (nI j2) 0 19 := inR_ix hs2 (show j2 < 20 by omega) (by decide) (by decide) (by decide)
      have hlt2 : j2 < 20 := by omega
      refine R_iload_n (pc := 2) dX3_compareWord_2 rfl rfl ?_
      refine R_aload_n (pc := 3) dX3_compareWord_3 rfl rfl ?_
      refine g_X3_27 (pc := 4) (v := .ref 1) rfl dX3_compareWord_4 (c_12 _) rfl ?_
      refine g_X3_31 (pc := 7) (v := .int (σ.1 110)) rfl dX3_compareWord_7 (c_1 _) (by show some (Value.int (σ2.1 110)) = _; rw [hC2.1 110 rfl]) ?_
      refine R_icge (pc := 10) 44 dX3_compareWord_10 (by decide) (fun b10_2 => ?_) (fun b10_2 => ?_)
      · skip
        exact R_vret (pc := 44) dX3_compareWord_44 rfl (Nat.zero_le _) (Nat.zero_le _) ⟨rfl, _, rfl, hI2, hC2, hX2_1, (by rw [show sz σ = j2 from (show (Int32.toNatClampNeg (σ.1 110)) = j2 from jn_of (by omega) (by first | exact nI_eqe hX2_2 (by assumption) | exact nI_eq20 hX2_2 (iv_110 hI)))]; exact hX2_0)⟩
      · skip
        refine R_aload_n (pc := 13) dX3_compareWord_13 rfl rfl ?_
        refine R_iload_n (pc := 14) dX3_compareWord_14 rfl rfl ?_
        refine R_iload_n (pc := 15) dX3_compareWord_15 rfl rfl ?_
        refine k_X3_69 (pc := 16) (gn_X3_fewestChanges _ _ _ hI2 hc hrg2) rfl (c_12 _) (by decide) (Nat.le_refl _) (Nat.le_refl _) (Nat.le_of_ble_eq_true rfl) dX3_compareWord_16 (fun y7 w2 h => ?_)
        obtain ⟨σx4, rfl, hV3, hW5, hF6⟩ := h
        have hW8 := Cor.trans hC2 (cor_k hW5)
        refine st_4_3_i_i (pc := 19) dX3_compareWord_19 ?_
        refine R_aload_n (pc := 20) dX3_compareWord_20 rfl rfl ?_
        refine g_X3_16 (pc := 21) (v := .ref 34) rfl dX3_compareWord_21 (c_12 _) rfl ?_
        refine R_iload_n (pc := 24) dX3_compareWord_24 rfl rfl ?_
        have hx9 : vp_in c 20 := (vp_of_inR hc (by decide))
        refine R_aaload (pc := 25) (b := 35 + (Int32.toNatClampNeg c)) dX3_compareWord_25 (c_34 _) hx9 (if_pos (lt_of_vp hx9)) ?_
        refine R_iload_n (pc := 26) dX3_compareWord_26 rfl rfl ?_
        refine R_iload_n (pc := 27) dX3_compareWord_27 rfl rfl ?_
        have hx10 : vp_in (nI j2) 20 := (vp_in_nI (by omega) (by decide))
        refine W_iastore (pc := 28) dX3_compareWord_28 (r_34 _ _ (lt_of_vp hx9)) hx10 (ra_34 _ _ _ (lt_of_vp hx9)) ?_
        have hV11 := sr_35 hV3 (upd (σx4.2.2.1 (35 + (Int32.toNatClampNeg c))) (Int32.toNatClampNeg (nI j2)) y7) _ (lt_of_vp hx9)
        have hW12 := cor_sa (35 + (Int32.toNatClampNeg c)) (upd (σx4.2.2.1 (35 + (Int32.toNatClampNeg c))) (Int32.toNatClampNeg (nI j2)) y7) hW8 (skA_35 (lt_of_vp hx9))
        refine R_aload_n (pc := 29) dX3_compareWord_29 rfl rfl ?_
        refine g_X3_16 (pc := 30) (v := .ref 34) rfl dX3_compareWord_30 (c_12 _) rfl ?_
        refine R_iload_n (pc := 33) dX3_compareWord_33 rfl rfl ?_
        have hx13 : vp_in (nI j2) 20 := (vp_in_nI (by omega) (by decide))
        refine R_aaload (pc := 34) (b := 35 + (Int32.toNatClampNeg (nI j2))) dX3_compareWord_34 (c_34 _) hx13 (if_pos (lt_of_vp hx13)) ?_
        refine R_iload_n (pc := 35) dX3_compareWord_35 rfl rfl ?_
        refine R_iload_n (pc := 36) dX3_compareWord_36 rfl rfl ?_
        have hx14 : vp_in c 20 := (vp_of_inR hc (by decide))
        refine W_iastore (pc := 37) dX3_compareWord_37 (r_34 _ _ (lt_of_vp hx13)) hx14 (ra_34 _ _ _ (lt_of_vp hx13)) ?_
        have hV15 := sr_35 hV11 (upd ((uA σx4 (35 + (Int32.toNatClampNeg c)) (upd (σx4.2.2.1 (35 + (Int32.toNatClampNeg c))) (Int32.toNatClampNeg (nI j2)) y7)).2.2.1 (35 + (Int32.toNatClampNeg (nI j2)))) (Int32.toNatClampNeg c) y7) _ (lt_of_vp hx13)
        have hW16 := cor_sa (35 + (Int32.toNatClampNeg (nI j2))) (upd ((uA σx4 (35 + (Int32.toNatClampNeg c)) (upd (σx4.2.2.1 (35 + (Int32.toNatClampNeg c))) (Int32.toNatClampNeg (nI j2)) y7)).2.2.1 (35 + (Int32.toNatClampNeg (nI j2)))) (Int32.toNatClampNeg c) y7) hW12 (skA_35 (lt_of_vp hx13))
        refine inc_4_2_1_i (pc := 38) dX3_compareWord_38 ?_
        have r17 : inR ((nI j2) + 1) 1 20 := inR_add (show inR (nI j2) 0 19 from hrg2) (show inR 1 1 1 from (inR_self _)) (by decide) (by decide)
        have e18 := ti_add (l := 1) (h := 20) (show inR (nI j2) 0 19 from hrg2) (show inR 1 1 1 from (inR_self _)) (by decide) (by decide)
        refine R_goto (pc := 41) 2 dX3_compareWord_41 (by decide) ?_
        rw [nI_1]
        exact ih2 (j2 + 1) _ _ (by omega) (by omega) hV15 hW16 (rw_s (nI_clamp (by omega)) (rw_cor (fun _ hi => scA_35 hi) hX2_0 hW5) (hF6.trans (lvk_at hC2 (by omega))) (lv_sym σ _ _)) (kp_s (kp_trans hX2_1 (kp_cor (by omega) (by omega) hW5)) (by have := clamp19 hc; omega) (by have := nI_clamp (n := j2) (by omega); omega)) (nI_sle (by omega) b10_2)
  exact HL2 20 0 _ _ (by omega) (by omega) hI (show CoK σ σ from Cor.rfl' σ) rw_0 (kp_rfl 14 33 σ) (show (0 : Int32) ≤ (σ.1 110) from Int32.not_lt.mp (iv_110 hI).1)
/-! the table of differences -/
def DV (σ : Sg) (a b : Nat) : Int32 := uoF (σ.2.2.2.1 6 a) (σ.2.2.2.1 6 b) (σ.2.2.1 7 a) (σ.2.2.1 7 b)
def ChD (σ : Sg) : Prop := ∀ a b : Nat, a < 20 → b < 20 → a < sz σ → b < sz σ → σ.2.2.1 (14 + a) b = DV σ a b
theorem dv_sym {σ : Sg} (hI : Inv σ) {a b : Nat} (ha : a < 20) (hb : b < 20) : DV σ a b = DV σ b a := uo_sym (iva_7 hI a ha) (iva_7 hI b hb)
theorem dv_of {σ τ : Sg} (h1 : τ.2.2.2.1 6 = σ.2.2.2.1 6) (h2 : τ.2.2.1 7 = σ.2.2.1 7) (a b : Nat) : DV τ a b = DV σ a b := by
  unfold DV
  rw [h1, h2]
theorem dv_at {σ τ : Sg} (h : CoK σ τ) {c : Int32} {j : Nat} (hj : j < 20) : uoF (τ.2.2.2.1 6 (Int32.toNatClampNeg c)) (τ.2.2.2.1 6 (Int32.toNatClampNeg (nI j))) (τ.2.2.1 7 (Int32.toNatClampNeg c)) (τ.2.2.1 7 (Int32.toNatClampNeg (nI j))) = DV σ (Int32.toNatClampNeg c) j := by
  unfold DV
  rw [h.2.2.2.1 6, h.2.2.1 7 rfl, nI_clamp (by omega)]
theorem chD_fr {σ τ : Sg} (h : ChD σ) (k : Fr σ τ) : ChD τ := by
  intro a b ha hb ha2 hb2
  have e : sz τ = sz σ := by unfold sz; rw [k.1]
  rw [e] at ha2 hb2
  rw [k.2.1 (14 + a) (by omega) (by omega), dv_of k.2.2.2.2.1 k.2.2.1]
  exact h a b ha hb ha2 hb2
theorem chD_0 {σ : Sg} (h : σ.1 110 = 0) : ChD σ := by
  intro a b _ _ h2 _
  unfold sz at h2
  rw [h] at h2
  exact absurd h2 (Nat.not_lt_zero a)
theorem chD_card {σ τ υ φ : Sg} (hC : ChD σ) (hz : inR (σ.1 110) 0 19) (h1 : τ.1 110 = σ.1 110 + 1) (h2 : KP 14 33 σ τ) (h3 : ∀ d : Nat, ¬ d = (σ.1 110).toNatClampNeg → τ.2.2.1 7 d = σ.2.2.1 7 d) (h4 : ∀ d : Nat, ¬ d = (σ.1 110).toNatClampNeg → τ.2.2.2.1 6 d = σ.2.2.2.1 6 d) (k : CoK τ υ) (hk : RW 14 (DV τ) τ.2.2.1 (σ.1 110).toNatClampNeg (sz τ) υ.2.2.1) (m : CoK υ φ) (hm : KP 14 33 υ φ) : ChD φ := by
  have e1 : sz τ = sz σ + 1 := sz_s hz h1
  have e2 : sz φ = sz τ := by unfold sz; rw [m.1 110 rfl, k.1 110 rfl]
  intro a b ha hb ha2 hb2
  rw [e2] at ha2 hb2
  rw [hm (14 + a) (by omega) (by omega), hk a b ha hb, dv_of ((m.2.2.2.1 6).trans (k.2.2.2.1 6)) ((m.2.2.1 7 rfl).trans (k.2.2.1 7 rfl))]
  by_cases q : (a = (σ.1 110).toNatClampNeg ∧ b < sz τ) ∨ (b = (σ.1 110).toNatClampNeg ∧ a < sz τ)
  · rw [if_pos q]
  · rw [if_neg q, h2 (14 + a) (by omega) (by omega)]
    have e3 : sz σ = (σ.1 110).toNatClampNeg := rfl
    have qa : ¬ a = (σ.1 110).toNatClampNeg := fun e => q (Or.inl ⟨e, hb2⟩)
    have qb : ¬ b = (σ.1 110).toNatClampNeg := fun e => q (Or.inr ⟨e, ha2⟩)
    rw [hC a b ha hb (by omega) (by omega)]
    unfold DV
    rw [h3 a qa, h3 b qb, h4 a qa, h4 b qb]
theorem chD_cap {σ τ φ : Sg} (hC : ChD σ) (h1 : τ.1 110 = σ.1 110) (h2 : KP 14 33 σ τ) (h3 : τ.2.2.1 7 = σ.2.2.1 7) (h4 : τ.2.2.2.1 6 = σ.2.2.2.1 6) (m : CoK τ φ) (hm : KP 14 33 τ φ) : ChD φ := by
  have e2 : sz φ = sz σ := by unfold sz; rw [m.1 110 rfl, h1]
  intro a b ha hb ha2 hb2
  rw [e2] at ha2 hb2
  rw [hm (14 + a) (by omega) (by omega), h2 (14 + a) (by omega) (by omega), dv_of ((m.2.2.2.1 6).trans h4) ((m.2.2.1 7 rfl).trans h3)]
  exact hC a b ha hb ha2 hb2
set_option maxRecDepth 100000 in
set_option maxHeartbeats 40000000 in
theorem gk_X3_comparePicture {G : vG} {l : Launch} (σ : Sg) (c : Int32) (hI : Inv σ) (hc : inR c 0 19) : Sp G l yX3_comparePicture cX3_comparePicture 4 none 3 0 0 [.ref 12, .int c] (WW σ) (QV (fun w2 => ∃ σ2, w2 = WW σ2 ∧ Inv σ2 ∧ CoK σ σ2 ∧ KP 35 54 σ σ2 ∧ RW 14 (DV σ) σ.2.2.1 (Int32.toNatClampNeg c) (sz σ) σ2.2.2.1)) := by
  refine Sp_of_R [(some (.ref 12)), (some (.int c)), none, none] [none, none] rfl (by simp) rfl (Nat.le_of_ble_eq_true rfl) ?_
  refine R_iconst (pc := 0) (v := 0) dX3_comparePicture_0 (by decide) ?_
  refine st_4_2_i_i (pc := 1) dX3_comparePicture_1 ?_
  have HL2 : ∀ (q j2 : Nat) (σ2 : Sg) (g3_2 : Option Value), j2 + q = 20 → 0 ≤ j2 → Inv σ2 → CoK σ σ2 → KP 35 54 σ σ2 → RW 14 (DV σ) σ.2.2.1 (Int32.toNatClampNeg c) j2 σ2.2.2.1 → nI j2 ≤ (σ.1 110) → R G l yX3_comparePicture cX3_comparePicture 4 none 3 0 0 (QV (fun w2 => ∃ σ2, w2 = WW σ2 ∧ Inv σ2 ∧ CoK σ σ2 ∧ KP 35 54 σ σ2 ∧ RW 14 (DV σ) σ.2.2.1 (Int32.toNatClampNeg c) (sz σ) σ2.2.2.1)) 2 [(some (.ref 12)), (some (.int c)), (some (.int (nI j2))), g3_2] [] (WW σ2) 0 0 := by
    intro q
    induction q with
    | zero =>
      intro j2 σ2 g3_2 hj hs2 hI2 hC2 hX2_0 hX2_1 hX2_2
      obtain rfl : j2 = 20 := by omega
      refine R_iload_n (pc := 2) dX3_comparePicture_2 rfl rfl ?_
      refine R_aload_n (pc := 3) dX3_comparePicture_3 rfl rfl ?_
      refine g_X3_27 (pc := 4) (v := .ref 1) rfl dX3_comparePicture_4 (c_12 _) rfl ?_
      refine g_X3_31 (pc := 7) (v := .int (σ.1 110)) rfl dX3_comparePicture_7 (c_1 _) (by show some (Value.int (σ2.1 110)) = _; rw [hC2.1 110 rfl]) ?_
      refine R_icge (pc := 10) 44 dX3_comparePicture_10 (by decide) (fun _ => ?_) (fun h => absurd (Int32.not_lt.mp (inR_up (iv_110 hI) (Int32.le_refl _) (by decide)).2) h)
      exact R_vret (pc := 44) dX3_comparePicture_44 rfl (Nat.zero_le _) (Nat.zero_le _) ⟨rfl, _, rfl, hI2, hC2, hX2_0, (by rw [show sz σ = 20 from (show (Int32.toNatClampNeg (σ.1 110)) = 20 from jn_of (by omega) (by first | exact nI_eqe hX2_2 (by assumption) | exact nI_eq20 hX2_2 (iv_110 hI)))]; exact hX2_1)⟩
    | succ q ih2 =>
      intro j2 σ2 g3_2 hj hs2 hI2 hC2 hX2_0 hX2_1 hX2_2
      have hrg2 : inR (nI j2) 0 19 := inR_ix hs2 (show j2 < 20 by omega) (by decide) (by decide) (by decide)
      have hlt2 : j2 < 20 := by omega
      refine R_iload_n (pc := 2) dX3_comparePicture_2 rfl rfl ?_
      refine R_aload_n (pc := 3) dX3_comparePicture_3 rfl rfl ?_
      refine g_X3_27 (pc := 4) (v := .ref 1) rfl dX3_comparePicture_4 (c_12 _) rfl ?_
      refine g_X3_31 (pc := 7) (v := .int (σ.1 110)) rfl dX3_comparePicture_7 (c_1 _) (by show some (Value.int (σ2.1 110)) = _; rw [hC2.1 110 rfl]) ?_
      refine R_icge (pc := 10) 44 dX3_comparePicture_10 (by decide) (fun b10_2 => ?_) (fun b10_2 => ?_)
      · skip
        exact R_vret (pc := 44) dX3_comparePicture_44 rfl (Nat.zero_le _) (Nat.zero_le _) ⟨rfl, _, rfl, hI2, hC2, hX2_0, (by rw [show sz σ = j2 from (show (Int32.toNatClampNeg (σ.1 110)) = j2 from jn_of (by omega) (by first | exact nI_eqe hX2_2 (by assumption) | exact nI_eq20 hX2_2 (iv_110 hI)))]; exact hX2_1)⟩
      · skip
        refine R_aload_n (pc := 13) dX3_comparePicture_13 rfl rfl ?_
        refine R_iload_n (pc := 14) dX3_comparePicture_14 rfl rfl ?_
        refine R_iload_n (pc := 15) dX3_comparePicture_15 rfl rfl ?_
        refine k_X3_36 (pc := 16) (gn_X3_fewestOtherwise _ _ _ hI2 hc hrg2) rfl (c_12 _) (by decide) (Nat.le_refl _) (Nat.le_refl _) (Nat.le_of_ble_eq_true rfl) dX3_comparePicture_16 (fun y4 w2 h => ?_)
        obtain ⟨rfl, hF3⟩ := h
        refine st_4_3_i_i (pc := 19) dX3_comparePicture_19 ?_
        refine R_aload_n (pc := 20) dX3_comparePicture_20 rfl rfl ?_
        refine g_X3_11 (pc := 21) (v := .ref 13) rfl dX3_comparePicture_21 (c_12 _) rfl ?_
        refine R_iload_n (pc := 24) dX3_comparePicture_24 rfl rfl ?_
        have hx5 : vp_in c 20 := (vp_of_inR hc (by decide))
        refine R_aaload (pc := 25) (b := 14 + (Int32.toNatClampNeg c)) dX3_comparePicture_25 (c_13 _) hx5 (if_pos (lt_of_vp hx5)) ?_
        refine R_iload_n (pc := 26) dX3_comparePicture_26 rfl rfl ?_
        refine R_iload_n (pc := 27) dX3_comparePicture_27 rfl rfl ?_
        have hx6 : vp_in (nI j2) 20 := (vp_in_nI (by omega) (by decide))
        refine W_iastore (pc := 28) dX3_comparePicture_28 (r_13 _ _ (lt_of_vp hx5)) hx6 (ra_13 _ _ _ (lt_of_vp hx5)) ?_
        have hV7 := sr_14 hI2 (upd (σ2.2.2.1 (14 + (Int32.toNatClampNeg c))) (Int32.toNatClampNeg (nI j2)) y4) _ (lt_of_vp hx5)
        have hW8 := cor_sa (14 + (Int32.toNatClampNeg c)) (upd (σ2.2.2.1 (14 + (Int32.toNatClampNeg c))) (Int32.toNatClampNeg (nI j2)) y4) hC2 (skA_14 (lt_of_vp hx5))
        refine R_aload_n (pc := 29) dX3_comparePicture_29 rfl rfl ?_
        refine g_X3_11 (pc := 30) (v := .ref 13) rfl dX3_comparePicture_30 (c_12 _) rfl ?_
        refine R_iload_n (pc := 33) dX3_comparePicture_33 rfl rfl ?_
        have hx9 : vp_in (nI j2) 20 := (vp_in_nI (by omega) (by decide))
        refine R_aaload (pc := 34) (b := 14 + (Int32.toNatClampNeg (nI j2))) dX3_comparePicture_34 (c_13 _) hx9 (if_pos (lt_of_vp hx9)) ?_
        refine R_iload_n (pc := 35) dX3_comparePicture_35 rfl rfl ?_
        refine R_iload_n (pc := 36) dX3_comparePicture_36 rfl rfl ?_
        have hx10 : vp_in c 20 := (vp_of_inR hc (by decide))
        refine W_iastore (pc := 37) dX3_comparePicture_37 (r_13 _ _ (lt_of_vp hx9)) hx10 (ra_13 _ _ _ (lt_of_vp hx9)) ?_
        have hV11 := sr_14 hV7 (upd ((uA σ2 (14 + (Int32.toNatClampNeg c)) (upd (σ2.2.2.1 (14 + (Int32.toNatClampNeg c))) (Int32.toNatClampNeg (nI j2)) y4)).2.2.1 (14 + (Int32.toNatClampNeg (nI j2)))) (Int32.toNatClampNeg c) y4) _ (lt_of_vp hx9)
        have hW12 := cor_sa (14 + (Int32.toNatClampNeg (nI j2))) (upd ((uA σ2 (14 + (Int32.toNatClampNeg c)) (upd (σ2.2.2.1 (14 + (Int32.toNatClampNeg c))) (Int32.toNatClampNeg (nI j2)) y4)).2.2.1 (14 + (Int32.toNatClampNeg (nI j2)))) (Int32.toNatClampNeg c) y4) hW8 (skA_14 (lt_of_vp hx9))
        refine inc_4_2_1_i (pc := 38) dX3_comparePicture_38 ?_
        have r13 : inR ((nI j2) + 1) 1 20 := inR_add (show inR (nI j2) 0 19 from hrg2) (show inR 1 1 1 from (inR_self _)) (by decide) (by decide)
        have e14 := ti_add (l := 1) (h := 20) (show inR (nI j2) 0 19 from hrg2) (show inR 1 1 1 from (inR_self _)) (by decide) (by decide)
        refine R_goto (pc := 41) 2 dX3_comparePicture_41 (by decide) ?_
        rw [nI_1]
        exact ih2 (j2 + 1) _ _ (by omega) (by omega) hV11 hW12 (kp_s hX2_0 (by have := clamp19 hc; omega) (by have := nI_clamp (n := j2) (by omega); omega)) (rw_s (nI_clamp (by omega)) hX2_1 (hF3.trans (dv_at hC2 (by omega))) (dv_sym hI (clamp19 hc) (by omega))) (nI_sle (by omega) b10_2)
  exact HL2 20 0 _ _ (by omega) (by omega) hI (show CoK σ σ from Cor.rfl' σ) (kp_rfl 35 54 σ) rw_0 (show (0 : Int32) ≤ (σ.1 110) from Int32.not_lt.mp (iv_110 hI).1)
set_option maxRecDepth 100000 in
set_option maxHeartbeats 40000000 in
theorem gk_X8_card {G : vG} {l : Launch} (σ : Sg) (a b n k : Int32) (p : Int64) (s t : Int32) (hI : Inv σ) (hL : ChL σ) (hD : ChD σ) : Sp G l yX8_card cX8_card 10 (some .int) 4 0 0 [.ref 0, .int a, .int b, .int n, .int k, .long p, .int s, .int t] (WW σ) (QI (fun x w2 => x = A_card a b n k s t (σ.1 110) ∧ ∃ σ2, w2 = WW σ2 ∧ Inv σ2 ∧ CoK (bif K_card a b n k s t (σ.1 110) then (E_X8_card σ a b n k p s t) else σ) σ2 ∧ ChL σ2 ∧ ChD σ2)) := by
  refine Sp_of_R [(some (.ref 0)), (some (.int a)), (some (.int b)), (some (.int n)), (some (.int k)), (some (.long p)), none, (some (.int s)), (some (.int t)), none] [none] rfl (by simp) rfl (Nat.le_of_ble_eq_true rfl) ?_
  refine R_iload_n (pc := 0) dX8_card_0 rfl rfl ?_
  refine R_iconst (pc := 1) (v := 0) dX8_card_1 (by decide) ?_
  refine R_iconst (pc := 2) (v := 3) dX8_card_2 (by decide) ?_
  refine k_X8_72 (pc := 3) (sp_X8_isWithin _ _ _ _) rfl (by decide) (Nat.le_refl _) (Nat.le_refl _) (Nat.le_of_ble_eq_true rfl) dX8_card_3 (fun x w2 h => ?_)
  rcases h with ⟨rfl, ⟨h1, rfl⟩ | ⟨h1, rfl⟩⟩
  · skip
    refine R_ifeq (pc := 6) 28 dX8_card_6 (by decide) (fun h => absurd h (by decide)) (fun _ => ?_)
    refine R_iload_n (pc := 9) dX8_card_9 rfl rfl ?_
    refine R_iconst (pc := 10) (v := 0) dX8_card_10 (by decide) ?_
    refine R_iconst (pc := 11) (v := 4) dX8_card_11 (by decide) ?_
    refine k_X8_72 (pc := 12) (sp_X8_isWithin _ _ _ _) rfl (by decide) (Nat.le_refl _) (Nat.le_refl _) (Nat.le_of_ble_eq_true rfl) dX8_card_12 (fun x w2 h => ?_)
    rcases h with ⟨rfl, ⟨h3, rfl⟩ | ⟨h3, rfl⟩⟩
    · skip
      refine R_ifeq (pc := 15) 28 dX8_card_15 (by decide) (fun h => absurd h (by decide)) (fun _ => ?_)
      refine R_iload (pc := 18) dX8_card_18 rfl ?_
      refine R_iconst (pc := 20) (v := 0) dX8_card_20 (by decide) ?_
      refine R_iconst (pc := 21) (v := 4) dX8_card_21 (by decide) ?_
      refine k_X8_72 (pc := 22) (sp_X8_isWithin _ _ _ _) rfl (by decide) (Nat.le_refl _) (Nat.le_refl _) (Nat.le_of_ble_eq_true rfl) dX8_card_22 (fun x w2 h => ?_)
      rcases h with ⟨rfl, ⟨h5, rfl⟩ | ⟨h5, rfl⟩⟩
      · skip
        refine R_ifne (pc := 25) 31 dX8_card_25 (by decide) (fun _ => ?_) (fun h => absurd h (by decide))
        refine R_iload_n (pc := 31) dX8_card_31 rfl rfl ?_
        refine R_iconst (pc := 32) (v := 0) dX8_card_32 (by decide) ?_
        refine R_bipush (pc := 33) (v := 99) dX8_card_33 (by decide) ?_
        refine k_X8_72 (pc := 35) (sp_X8_isWithin _ _ _ _) rfl (by decide) (Nat.le_refl _) (Nat.le_refl _) (Nat.le_of_ble_eq_true rfl) dX8_card_35 (fun x w2 h => ?_)
        rcases h with ⟨rfl, ⟨h7, rfl⟩ | ⟨h7, rfl⟩⟩
        · skip
          refine R_ifeq (pc := 38) 63 dX8_card_38 (by decide) (fun h => absurd h (by decide)) (fun _ => ?_)
          refine R_iload (pc := 41) dX8_card_41 rfl ?_
          refine R_iconst (pc := 43) (v := 0) dX8_card_43 (by decide) ?_
          refine R_iconst (pc := 44) (v := 4) dX8_card_44 (by decide) ?_
          refine k_X8_72 (pc := 45) (sp_X8_isWithin _ _ _ _) rfl (by decide) (Nat.le_refl _) (Nat.le_refl _) (Nat.le_of_ble_eq_true rfl) dX8_card_45 (fun x w2 h => ?_)
          rcases h with ⟨rfl, ⟨h9, rfl⟩ | ⟨h9, rfl⟩⟩
          · skip
            refine R_ifeq (pc := 48) 63 dX8_card_48 (by decide) (fun h => absurd h (by decide)) (fun _ => ?_)
            refine R_iload (pc := 51) dX8_card_51 rfl ?_
            refine R_iconst (pc := 53) (v := (-1)) dX8_card_53 (by decide) ?_
            refine R_sipush (pc := 54) (v := 20000) dX8_card_54 (by decide) ?_
            refine k_X8_72 (pc := 57) (sp_X8_isWithin _ _ _ _) rfl (by decide) (Nat.le_refl _) (Nat.le_refl _) (Nat.le_of_ble_eq_true rfl) dX8_card_57 (fun x w2 h => ?_)
            rcases h with ⟨rfl, ⟨h11, rfl⟩ | ⟨h11, rfl⟩⟩
            · skip
              refine R_ifne (pc := 60) 66 dX8_card_60 (by decide) (fun _ => ?_) (fun h => absurd h (by decide))
              refine R_aload_n (pc := 66) dX8_card_66 rfl rfl ?_
              refine g_X8_10 (pc := 67) (v := .ref 1) rfl dX8_card_67 (c_0 _) rfl ?_
              refine g_X8_76 (pc := 70) (v := .int (σ.1 110)) rfl dX8_card_70 (c_1 _) rfl ?_
              refine R_bipush (pc := 73) (v := 20) dX8_card_73 (by decide) ?_
              refine R_iclt (pc := 75) 81 dX8_card_75 (by decide) (fun b75_13 => ?_) (fun b75_13 => ?_)
              · skip
                refine R_aload_n (pc := 81) dX8_card_81 rfl rfl ?_
                refine g_X8_10 (pc := 82) (v := .ref 1) rfl dX8_card_82 (c_0 _) rfl ?_
                refine g_X8_76 (pc := 85) (v := .int (σ.1 110)) rfl dX8_card_85 (c_1 _) rfl ?_
                refine st_10_9_i_i (pc := 88) dX8_card_88 ?_
                refine R_aload_n (pc := 90) dX8_card_90 rfl rfl ?_
                refine g_X8_10 (pc := 91) (v := .ref 1) rfl dX8_card_91 (c_0 _) rfl ?_
                refine R_iload_n (pc := 94) dX8_card_94 rfl rfl ?_
                refine R_iload_n (pc := 95) dX8_card_95 rfl rfl ?_
                refine R_iload_n (pc := 96) dX8_card_96 rfl rfl ?_
                refine R_iload (pc := 97) dX8_card_97 rfl ?_
                refine R_lload (pc := 99) dX8_card_99 rfl ?_
                refine R_iload (pc := 101) dX8_card_101 rfl ?_
                refine R_iload (pc := 103) dX8_card_103 rfl ?_
                refine k_X8_79 (pc := 105) (ge_X0_tell _ _ _ _ _ _ _ _ hI (show inR (σ.1 110) 0 19 from of_ti (by have q0 := ti_lt b75_13; have q1 := ti_in h1; have q2 := ti_in h3; have q3 := ti_in h5; have q4 := ti_in h7; have q5 := ti_in h9; have q6 := ti_in h11; have q7 := ti_in (iv_110 hI); have z0 : (-1 : Int32).toInt = -1 := (by decide); have z1 : (0 : Int32).toInt = 0 := (by decide); have z2 : (1 : Int32).toInt = 1 := (by decide); have z3 : (110 : Int32).toInt = 110 := (by decide); have z4 : (20 : Int32).toInt = 20 := (by decide); have z5 : (20000 : Int32).toInt = 20000 := (by decide); have z6 : (3 : Int32).toInt = 3 := (by decide); have z7 : (4 : Int32).toInt = 4 := (by decide); have z8 : (99 : Int32).toInt = 99 := (by decide); omega) (by have q0 := ti_lt b75_13; have q1 := ti_in h1; have q2 := ti_in h3; have q3 := ti_in h5; have q4 := ti_in h7; have q5 := ti_in h9; have q6 := ti_in h11; have q7 := ti_in (iv_110 hI); have z0 : (-1 : Int32).toInt = -1 := (by decide); have z1 : (0 : Int32).toInt = 0 := (by decide); have z2 : (1 : Int32).toInt = 1 := (by decide); have z3 : (110 : Int32).toInt = 110 := (by decide); have z4 : (19 : Int32).toInt = 19 := (by decide); have z5 : (20 : Int32).toInt = 20 := (by decide); have z6 : (20000 : Int32).toInt = 20000 := (by decide); have z7 : (3 : Int32).toInt = 3 := (by decide); have z8 : (4 : Int32).toInt = 4 := (by decide); have z9 : (99 : Int32).toInt = 99 := (by decide); omega)) h7 h5 h9) rfl (c_1 _) (by decide) (Nat.le_refl _) (Nat.le_refl _) (Nat.le_of_ble_eq_true rfl) dX8_card_105 (fun w2 h => ?_)
                obtain ⟨σx15, rfl, hV14, hW16⟩ := h
                refine R_aload_n (pc := 108) dX8_card_108 rfl rfl ?_
                refine g_X8_21 (pc := 109) (v := .ref 12) rfl dX8_card_109 (c_0 _) rfl ?_
                refine R_iload (pc := 112) dX8_card_112 rfl ?_
                refine k_X8_83 (pc := 114) (gk_X3_comparePicture _ _ hV14 (show inR (σ.1 110) 0 19 from of_ti (by have q0 := ti_lt b75_13; have q1 := ti_in h1; have q2 := ti_in h3; have q3 := ti_in h5; have q4 := ti_in h7; have q5 := ti_in h9; have q6 := ti_in h11; have q7 := ti_in (iv_110 hI); have z0 : (-1 : Int32).toInt = -1 := (by decide); have z1 : (0 : Int32).toInt = 0 := (by decide); have z2 : (1 : Int32).toInt = 1 := (by decide); have z3 : (110 : Int32).toInt = 110 := (by decide); have z4 : (20 : Int32).toInt = 20 := (by decide); have z5 : (20000 : Int32).toInt = 20000 := (by decide); have z6 : (3 : Int32).toInt = 3 := (by decide); have z7 : (4 : Int32).toInt = 4 := (by decide); have z8 : (99 : Int32).toInt = 99 := (by decide); omega) (by have q0 := ti_lt b75_13; have q1 := ti_in h1; have q2 := ti_in h3; have q3 := ti_in h5; have q4 := ti_in h7; have q5 := ti_in h9; have q6 := ti_in h11; have q7 := ti_in (iv_110 hI); have z0 : (-1 : Int32).toInt = -1 := (by decide); have z1 : (0 : Int32).toInt = 0 := (by decide); have z2 : (1 : Int32).toInt = 1 := (by decide); have z3 : (110 : Int32).toInt = 110 := (by decide); have z4 : (19 : Int32).toInt = 19 := (by decide); have z5 : (20 : Int32).toInt = 20 := (by decide); have z6 : (20000 : Int32).toInt = 20000 := (by decide); have z7 : (3 : Int32).toInt = 3 := (by decide); have z8 : (4 : Int32).toInt = 4 := (by decide); have z9 : (99 : Int32).toInt = 99 := (by decide); omega))) rfl (c_12 _) (by decide) (Nat.le_refl _) (Nat.le_refl _) (Nat.le_of_ble_eq_true rfl) dX8_card_114 (fun w2 h => ?_)
                obtain ⟨σx18, rfl, hV17, hW19, hF20⟩ := h
                have hW21 := Cor.trans (cor_k hW16) hW19
                refine R_aload_n (pc := 117) dX8_card_117 rfl rfl ?_
                refine g_X8_21 (pc := 118) (v := .ref 12) rfl dX8_card_118 (c_0 _) rfl ?_
                refine R_iload (pc := 121) dX8_card_121 rfl ?_
                refine k_X8_87 (pc := 123) (gk_X3_compareWord _ _ hV17 (show inR (σ.1 110) 0 19 from of_ti (by have q0 := ti_lt b75_13; have q1 := ti_in h1; have q2 := ti_in h3; have q3 := ti_in h5; have q4 := ti_in h7; have q5 := ti_in h9; have q6 := ti_in h11; have q7 := ti_in (iv_110 hI); have z0 : (-1 : Int32).toInt = -1 := (by decide); have z1 : (0 : Int32).toInt = 0 := (by decide); have z2 : (1 : Int32).toInt = 1 := (by decide); have z3 : (110 : Int32).toInt = 110 := (by decide); have z4 : (20 : Int32).toInt = 20 := (by decide); have z5 : (20000 : Int32).toInt = 20000 := (by decide); have z6 : (3 : Int32).toInt = 3 := (by decide); have z7 : (4 : Int32).toInt = 4 := (by decide); have z8 : (99 : Int32).toInt = 99 := (by decide); omega) (by have q0 := ti_lt b75_13; have q1 := ti_in h1; have q2 := ti_in h3; have q3 := ti_in h5; have q4 := ti_in h7; have q5 := ti_in h9; have q6 := ti_in h11; have q7 := ti_in (iv_110 hI); have z0 : (-1 : Int32).toInt = -1 := (by decide); have z1 : (0 : Int32).toInt = 0 := (by decide); have z2 : (1 : Int32).toInt = 1 := (by decide); have z3 : (110 : Int32).toInt = 110 := (by decide); have z4 : (19 : Int32).toInt = 19 := (by decide); have z5 : (20 : Int32).toInt = 20 := (by decide); have z6 : (20000 : Int32).toInt = 20000 := (by decide); have z7 : (3 : Int32).toInt = 3 := (by decide); have z8 : (4 : Int32).toInt = 4 := (by decide); have z9 : (99 : Int32).toInt = 99 := (by decide); omega))) rfl (c_12 _) (by decide) (Nat.le_refl _) (Nat.le_refl _) (Nat.le_of_ble_eq_true rfl) dX8_card_123 (fun w2 h => ?_)
                obtain ⟨σx23, rfl, hV22, hW24, hF25⟩ := h
                have hW26 := Cor.trans hW21 hW24
                refine R_iload (pc := 126) dX8_card_126 rfl ?_
                exact R_iret (pc := 128) dX8_card_128 rfl rfl (Nat.zero_le _) (Nat.zero_le _) ⟨_, rfl, (by first | (simp only [A_card, inB_t h1, inB_t h3, inB_t h5, inB_t h7, inB_t h9, inB_t h11, cond_true, cond_false, Bool.and_true, Bool.true_and, Bool.and_false, Bool.false_and, Bool.or_true, Bool.true_or, Bool.or_false, Bool.false_or, Bool.not_true, Bool.not_false, decide_true, decide_false, if_true, if_false, Bool.true_eq_false, Bool.false_eq_true]; done) | (simp only [A_card, inB_t h1, inB_t h3, inB_t h5, inB_t h7, inB_t h9, inB_t h11, (decide_eq_false (ne_of_lt b75_13)), cond_true, cond_false, Bool.and_true, Bool.true_and, Bool.and_false, Bool.false_and, Bool.or_true, Bool.true_or, Bool.or_false, Bool.false_or, Bool.not_true, Bool.not_false, decide_true, decide_false, if_true, if_false, Bool.true_eq_false, Bool.false_eq_true]; done) | (simp only [A_card, inB_t h1, inB_t h3, inB_t h5, inB_t h7, inB_t h9, inB_t h11, b75_13, (decide_eq_false (ne_of_lt b75_13)), cond_true, cond_false, Bool.and_true, Bool.true_and, Bool.and_false, Bool.false_and, Bool.or_true, Bool.true_or, Bool.or_false, Bool.false_or, Bool.not_true, Bool.not_false, decide_true, decide_false, if_true, if_false, Bool.true_eq_false, Bool.false_eq_true]; done) | (simp [A_card, inB_t h1, inB_t h3, inB_t h5, inB_t h7, inB_t h9, inB_t h11, b75_13, (decide_eq_false (ne_of_lt b75_13))]; done) | (simp only [A_card, inB_t h1, inB_t h3, inB_t h5, inB_t h7, inB_t h9, inB_t h11, cond_true, cond_false, Bool.and_true, Bool.true_and, Bool.and_false, Bool.false_and, Bool.or_true, Bool.true_or, Bool.or_false, Bool.false_or, Bool.not_true, Bool.not_false, decide_true, decide_false, if_true, if_false, Bool.true_eq_false, Bool.false_eq_true] <;> decide)), _, rfl, hV22, (by have e : (K_card a b n k s t (σ.1 110)) = true := (by first | (simp only [K_card, inB_t h1, inB_t h3, inB_t h5, inB_t h7, inB_t h9, inB_t h11, cond_true, cond_false, Bool.and_true, Bool.true_and, Bool.and_false, Bool.false_and, Bool.or_true, Bool.true_or, Bool.or_false, Bool.false_or, Bool.not_true, Bool.not_false, decide_true, decide_false, if_true, if_false, Bool.true_eq_false, Bool.false_eq_true]; done) | (simp only [K_card, inB_t h1, inB_t h3, inB_t h5, inB_t h7, inB_t h9, inB_t h11, (decide_eq_false (ne_of_lt b75_13)), cond_true, cond_false, Bool.and_true, Bool.true_and, Bool.and_false, Bool.false_and, Bool.or_true, Bool.true_or, Bool.or_false, Bool.false_or, Bool.not_true, Bool.not_false, decide_true, decide_false, if_true, if_false, Bool.true_eq_false, Bool.false_eq_true]; done) | (simp only [K_card, inB_t h1, inB_t h3, inB_t h5, inB_t h7, inB_t h9, inB_t h11, b75_13, (decide_eq_false (ne_of_lt b75_13)), cond_true, cond_false, Bool.and_true, Bool.true_and, Bool.and_false, Bool.false_and, Bool.or_true, Bool.true_or, Bool.or_false, Bool.false_or, Bool.not_true, Bool.not_false, decide_true, decide_false, if_true, if_false, Bool.true_eq_false, Bool.false_eq_true]; done) | (simp [K_card, inB_t h1, inB_t h3, inB_t h5, inB_t h7, inB_t h9, inB_t h11, b75_13, (decide_eq_false (ne_of_lt b75_13))]; done) | (simp only [K_card, inB_t h1, inB_t h3, inB_t h5, inB_t h7, inB_t h9, inB_t h11, cond_true, cond_false, Bool.and_true, Bool.true_and, Bool.and_false, Bool.false_and, Bool.or_true, Bool.true_or, Bool.or_false, Bool.false_or, Bool.not_true, Bool.not_false, decide_true, decide_false, if_true, if_false, Bool.true_eq_false, Bool.false_eq_true] <;> decide)); rw [e]; exact hW26), (chL_card hL (show inR (σ.1 110) 0 19 from of_ti (by have q0 := ti_lt b75_13; have q1 := ti_in h1; have q2 := ti_in h3; have q3 := ti_in h5; have q4 := ti_in h7; have q5 := ti_in h9; have q6 := ti_in h11; have q7 := ti_in (iv_110 hI); have z0 : (-1 : Int32).toInt = -1 := (by decide); have z1 : (0 : Int32).toInt = 0 := (by decide); have z2 : (1 : Int32).toInt = 1 := (by decide); have z3 : (110 : Int32).toInt = 110 := (by decide); have z4 : (20 : Int32).toInt = 20 := (by decide); have z5 : (20000 : Int32).toInt = 20000 := (by decide); have z6 : (3 : Int32).toInt = 3 := (by decide); have z7 : (4 : Int32).toInt = 4 := (by decide); have z8 : (99 : Int32).toInt = 99 := (by decide); omega) (by have q0 := ti_lt b75_13; have q1 := ti_in h1; have q2 := ti_in h3; have q3 := ti_in h5; have q4 := ti_in h7; have q5 := ti_in h9; have q6 := ti_in h11; have q7 := ti_in (iv_110 hI); have z0 : (-1 : Int32).toInt = -1 := (by decide); have z1 : (0 : Int32).toInt = 0 := (by decide); have z2 : (1 : Int32).toInt = 1 := (by decide); have z3 : (110 : Int32).toInt = 110 := (by decide); have z4 : (19 : Int32).toInt = 19 := (by decide); have z5 : (20 : Int32).toInt = 20 := (by decide); have z6 : (20000 : Int32).toInt = 20000 := (by decide); have z7 : (3 : Int32).toInt = 3 := (by decide); have z8 : (4 : Int32).toInt = 4 := (by decide); have z9 : (99 : Int32).toInt = 99 := (by decide); omega)) ((hW16.1 110 rfl).trans fr_tell.1) (kp_trans (fun q a b => fr_tell.2.1 q (by omega) (by omega)) (kp_cor (by omega) (by omega) hW16)) ((hW16.2.2.1 11 rfl).trans fr_tell.2.2.1) ((hW16.2.2.2.1 10).trans fr_tell.2.2.2) hW19 hF20.1 hW24 hF25.2), (chD_card hD (show inR (σ.1 110) 0 19 from of_ti (by have q0 := ti_lt b75_13; have q1 := ti_in h1; have q2 := ti_in h3; have q3 := ti_in h5; have q4 := ti_in h7; have q5 := ti_in h9; have q6 := ti_in h11; have q7 := ti_in (iv_110 hI); have z0 : (-1 : Int32).toInt = -1 := (by decide); have z1 : (0 : Int32).toInt = 0 := (by decide); have z2 : (1 : Int32).toInt = 1 := (by decide); have z3 : (110 : Int32).toInt = 110 := (by decide); have z4 : (20 : Int32).toInt = 20 := (by decide); have z5 : (20000 : Int32).toInt = 20000 := (by decide); have z6 : (3 : Int32).toInt = 3 := (by decide); have z7 : (4 : Int32).toInt = 4 := (by decide); have z8 : (99 : Int32).toInt = 99 := (by decide); omega) (by have q0 := ti_lt b75_13; have q1 := ti_in h1; have q2 := ti_in h3; have q3 := ti_in h5; have q4 := ti_in h7; have q5 := ti_in h9; have q6 := ti_in h11; have q7 := ti_in (iv_110 hI); have z0 : (-1 : Int32).toInt = -1 := (by decide); have z1 : (0 : Int32).toInt = 0 := (by decide); have z2 : (1 : Int32).toInt = 1 := (by decide); have z3 : (110 : Int32).toInt = 110 := (by decide); have z4 : (19 : Int32).toInt = 19 := (by decide); have z5 : (20 : Int32).toInt = 20 := (by decide); have z6 : (20000 : Int32).toInt = 20000 := (by decide); have z7 : (3 : Int32).toInt = 3 := (by decide); have z8 : (4 : Int32).toInt = 4 := (by decide); have z9 : (99 : Int32).toInt = 99 := (by decide); omega)) ((hW16.1 110 rfl).trans fr_tell.1) (kp_trans (fun q a b => fr_tell.2.1 q (by omega) (by omega)) (kp_cor (by omega) (by omega) hW16)) (fun d hd => (congrFun (hW16.2.2.1 7 rfl) d).trans (upd_ne _ hd)) (fun d hd => (congrFun (hW16.2.2.2.1 6) d).trans (updL_ne _ hd)) hW19 hF20.2 hW24 hF25.1)⟩
              · skip
                refine R_bipush (pc := 78) (v := (-5)) dX8_card_78 (by decide) ?_
                exact R_iret (pc := 80) dX8_card_80 rfl rfl (Nat.zero_le _) (Nat.zero_le _) ⟨_, rfl, (by first | (simp only [A_card, inB_t h1, inB_t h3, inB_t h5, inB_t h7, inB_t h9, inB_t h11, cond_true, cond_false, Bool.and_true, Bool.true_and, Bool.and_false, Bool.false_and, Bool.or_true, Bool.true_or, Bool.or_false, Bool.false_or, Bool.not_true, Bool.not_false, decide_true, decide_false, if_true, if_false, Bool.true_eq_false, Bool.false_eq_true]; done) | (simp only [A_card, inB_t h1, inB_t h3, inB_t h5, inB_t h7, inB_t h9, inB_t h11, (decide_eq_true (eq_of_nlt (iv_110 hI) b75_13)), cond_true, cond_false, Bool.and_true, Bool.true_and, Bool.and_false, Bool.false_and, Bool.or_true, Bool.true_or, Bool.or_false, Bool.false_or, Bool.not_true, Bool.not_false, decide_true, decide_false, if_true, if_false, Bool.true_eq_false, Bool.false_eq_true]; done) | (simp only [A_card, inB_t h1, inB_t h3, inB_t h5, inB_t h7, inB_t h9, inB_t h11, b75_13, (decide_eq_true (eq_of_nlt (iv_110 hI) b75_13)), cond_true, cond_false, Bool.and_true, Bool.true_and, Bool.and_false, Bool.false_and, Bool.or_true, Bool.true_or, Bool.or_false, Bool.false_or, Bool.not_true, Bool.not_false, decide_true, decide_false, if_true, if_false, Bool.true_eq_false, Bool.false_eq_true]; done) | (simp [A_card, inB_t h1, inB_t h3, inB_t h5, inB_t h7, inB_t h9, inB_t h11, b75_13, (decide_eq_true (eq_of_nlt (iv_110 hI) b75_13))]; done) | (simp only [A_card, inB_t h1, inB_t h3, inB_t h5, inB_t h7, inB_t h9, inB_t h11, cond_true, cond_false, Bool.and_true, Bool.true_and, Bool.and_false, Bool.false_and, Bool.or_true, Bool.true_or, Bool.or_false, Bool.false_or, Bool.not_true, Bool.not_false, decide_true, decide_false, if_true, if_false, Bool.true_eq_false, Bool.false_eq_true] <;> decide)), _, rfl, hI, (by have e : (K_card a b n k s t (σ.1 110)) = false := (by first | (simp only [K_card, inB_t h1, inB_t h3, inB_t h5, inB_t h7, inB_t h9, inB_t h11, cond_true, cond_false, Bool.and_true, Bool.true_and, Bool.and_false, Bool.false_and, Bool.or_true, Bool.true_or, Bool.or_false, Bool.false_or, Bool.not_true, Bool.not_false, decide_true, decide_false, if_true, if_false, Bool.true_eq_false, Bool.false_eq_true]; done) | (simp only [K_card, inB_t h1, inB_t h3, inB_t h5, inB_t h7, inB_t h9, inB_t h11, (decide_eq_true (eq_of_nlt (iv_110 hI) b75_13)), cond_true, cond_false, Bool.and_true, Bool.true_and, Bool.and_false, Bool.false_and, Bool.or_true, Bool.true_or, Bool.or_false, Bool.false_or, Bool.not_true, Bool.not_false, decide_true, decide_false, if_true, if_false, Bool.true_eq_false, Bool.false_eq_true]; done) | (simp only [K_card, inB_t h1, inB_t h3, inB_t h5, inB_t h7, inB_t h9, inB_t h11, b75_13, (decide_eq_true (eq_of_nlt (iv_110 hI) b75_13)), cond_true, cond_false, Bool.and_true, Bool.true_and, Bool.and_false, Bool.false_and, Bool.or_true, Bool.true_or, Bool.or_false, Bool.false_or, Bool.not_true, Bool.not_false, decide_true, decide_false, if_true, if_false, Bool.true_eq_false, Bool.false_eq_true]; done) | (simp [K_card, inB_t h1, inB_t h3, inB_t h5, inB_t h7, inB_t h9, inB_t h11, b75_13, (decide_eq_true (eq_of_nlt (iv_110 hI) b75_13))]; done) | (simp only [K_card, inB_t h1, inB_t h3, inB_t h5, inB_t h7, inB_t h9, inB_t h11, cond_true, cond_false, Bool.and_true, Bool.true_and, Bool.and_false, Bool.false_and, Bool.or_true, Bool.true_or, Bool.or_false, Bool.false_or, Bool.not_true, Bool.not_false, decide_true, decide_false, if_true, if_false, Bool.true_eq_false, Bool.false_eq_true] <;> decide)); rw [e]; exact (show CoK σ σ from Cor.rfl' σ)), hL, hD⟩
            · skip
              refine R_ifne (pc := 60) 66 dX8_card_60 (by decide) (fun h => absurd (by decide) h) (fun _ => ?_)
              refine R_bipush (pc := 63) (v := (-3)) dX8_card_63 (by decide) ?_
              exact R_iret (pc := 65) dX8_card_65 rfl rfl (Nat.zero_le _) (Nat.zero_le _) ⟨_, rfl, (by first | (simp only [A_card, inB_t h1, inB_t h3, inB_t h5, inB_t h7, inB_t h9, inB_f h11, cond_true, cond_false, Bool.and_true, Bool.true_and, Bool.and_false, Bool.false_and, Bool.or_true, Bool.true_or, Bool.or_false, Bool.false_or, Bool.not_true, Bool.not_false, decide_true, decide_false, if_true, if_false, Bool.true_eq_false, Bool.false_eq_true]; done) | (simp [A_card, inB_t h1, inB_t h3, inB_t h5, inB_t h7, inB_t h9, inB_f h11]; done) | (simp only [A_card, inB_t h1, inB_t h3, inB_t h5, inB_t h7, inB_t h9, inB_f h11, cond_true, cond_false, Bool.and_true, Bool.true_and, Bool.and_false, Bool.false_and, Bool.or_true, Bool.true_or, Bool.or_false, Bool.false_or, Bool.not_true, Bool.not_false, decide_true, decide_false, if_true, if_false, Bool.true_eq_false, Bool.false_eq_true] <;> decide)), _, rfl, hI, (by have e : (K_card a b n k s t (σ.1 110)) = false := (by first | (simp only [K_card, inB_t h1, inB_t h3, inB_t h5, inB_t h7, inB_t h9, inB_f h11, cond_true, cond_false, Bool.and_true, Bool.true_and, Bool.and_false, Bool.false_and, Bool.or_true, Bool.true_or, Bool.or_false, Bool.false_or, Bool.not_true, Bool.not_false, decide_true, decide_false, if_true, if_false, Bool.true_eq_false, Bool.false_eq_true]; done) | (simp [K_card, inB_t h1, inB_t h3, inB_t h5, inB_t h7, inB_t h9, inB_f h11]; done) | (simp only [K_card, inB_t h1, inB_t h3, inB_t h5, inB_t h7, inB_t h9, inB_f h11, cond_true, cond_false, Bool.and_true, Bool.true_and, Bool.and_false, Bool.false_and, Bool.or_true, Bool.true_or, Bool.or_false, Bool.false_or, Bool.not_true, Bool.not_false, decide_true, decide_false, if_true, if_false, Bool.true_eq_false, Bool.false_eq_true] <;> decide)); rw [e]; exact (show CoK σ σ from Cor.rfl' σ)), hL, hD⟩
          · skip
            refine R_ifeq (pc := 48) 63 dX8_card_48 (by decide) (fun _ => ?_) (fun h => absurd (by decide) h)
            refine R_bipush (pc := 63) (v := (-3)) dX8_card_63 (by decide) ?_
            exact R_iret (pc := 65) dX8_card_65 rfl rfl (Nat.zero_le _) (Nat.zero_le _) ⟨_, rfl, (by first | (simp only [A_card, inB_t h1, inB_t h3, inB_t h5, inB_t h7, inB_f h9, cond_true, cond_false, Bool.and_true, Bool.true_and, Bool.and_false, Bool.false_and, Bool.or_true, Bool.true_or, Bool.or_false, Bool.false_or, Bool.not_true, Bool.not_false, decide_true, decide_false, if_true, if_false, Bool.true_eq_false, Bool.false_eq_true]; done) | (simp [A_card, inB_t h1, inB_t h3, inB_t h5, inB_t h7, inB_f h9]; done) | (simp only [A_card, inB_t h1, inB_t h3, inB_t h5, inB_t h7, inB_f h9, cond_true, cond_false, Bool.and_true, Bool.true_and, Bool.and_false, Bool.false_and, Bool.or_true, Bool.true_or, Bool.or_false, Bool.false_or, Bool.not_true, Bool.not_false, decide_true, decide_false, if_true, if_false, Bool.true_eq_false, Bool.false_eq_true] <;> decide)), _, rfl, hI, (by have e : (K_card a b n k s t (σ.1 110)) = false := (by first | (simp only [K_card, inB_t h1, inB_t h3, inB_t h5, inB_t h7, inB_f h9, cond_true, cond_false, Bool.and_true, Bool.true_and, Bool.and_false, Bool.false_and, Bool.or_true, Bool.true_or, Bool.or_false, Bool.false_or, Bool.not_true, Bool.not_false, decide_true, decide_false, if_true, if_false, Bool.true_eq_false, Bool.false_eq_true]; done) | (simp [K_card, inB_t h1, inB_t h3, inB_t h5, inB_t h7, inB_f h9]; done) | (simp only [K_card, inB_t h1, inB_t h3, inB_t h5, inB_t h7, inB_f h9, cond_true, cond_false, Bool.and_true, Bool.true_and, Bool.and_false, Bool.false_and, Bool.or_true, Bool.true_or, Bool.or_false, Bool.false_or, Bool.not_true, Bool.not_false, decide_true, decide_false, if_true, if_false, Bool.true_eq_false, Bool.false_eq_true] <;> decide)); rw [e]; exact (show CoK σ σ from Cor.rfl' σ)), hL, hD⟩
        · skip
          refine R_ifeq (pc := 38) 63 dX8_card_38 (by decide) (fun _ => ?_) (fun h => absurd (by decide) h)
          refine R_bipush (pc := 63) (v := (-3)) dX8_card_63 (by decide) ?_
          exact R_iret (pc := 65) dX8_card_65 rfl rfl (Nat.zero_le _) (Nat.zero_le _) ⟨_, rfl, (by first | (simp only [A_card, inB_t h1, inB_t h3, inB_t h5, inB_f h7, cond_true, cond_false, Bool.and_true, Bool.true_and, Bool.and_false, Bool.false_and, Bool.or_true, Bool.true_or, Bool.or_false, Bool.false_or, Bool.not_true, Bool.not_false, decide_true, decide_false, if_true, if_false, Bool.true_eq_false, Bool.false_eq_true]; done) | (simp [A_card, inB_t h1, inB_t h3, inB_t h5, inB_f h7]; done) | (simp only [A_card, inB_t h1, inB_t h3, inB_t h5, inB_f h7, cond_true, cond_false, Bool.and_true, Bool.true_and, Bool.and_false, Bool.false_and, Bool.or_true, Bool.true_or, Bool.or_false, Bool.false_or, Bool.not_true, Bool.not_false, decide_true, decide_false, if_true, if_false, Bool.true_eq_false, Bool.false_eq_true] <;> decide)), _, rfl, hI, (by have e : (K_card a b n k s t (σ.1 110)) = false := (by first | (simp only [K_card, inB_t h1, inB_t h3, inB_t h5, inB_f h7, cond_true, cond_false, Bool.and_true, Bool.true_and, Bool.and_false, Bool.false_and, Bool.or_true, Bool.true_or, Bool.or_false, Bool.false_or, Bool.not_true, Bool.not_false, decide_true, decide_false, if_true, if_false, Bool.true_eq_false, Bool.false_eq_true]; done) | (simp [K_card, inB_t h1, inB_t h3, inB_t h5, inB_f h7]; done) | (simp only [K_card, inB_t h1, inB_t h3, inB_t h5, inB_f h7, cond_true, cond_false, Bool.and_true, Bool.true_and, Bool.and_false, Bool.false_and, Bool.or_true, Bool.true_or, Bool.or_false, Bool.false_or, Bool.not_true, Bool.not_false, decide_true, decide_false, if_true, if_false, Bool.true_eq_false, Bool.false_eq_true] <;> decide)); rw [e]; exact (show CoK σ σ from Cor.rfl' σ)), hL, hD⟩
      · skip
        refine R_ifne (pc := 25) 31 dX8_card_25 (by decide) (fun h => absurd (by decide) h) (fun _ => ?_)
        refine R_bipush (pc := 28) (v := (-2)) dX8_card_28 (by decide) ?_
        exact R_iret (pc := 30) dX8_card_30 rfl rfl (Nat.zero_le _) (Nat.zero_le _) ⟨_, rfl, (by first | (simp only [A_card, inB_t h1, inB_t h3, inB_f h5, cond_true, cond_false, Bool.and_true, Bool.true_and, Bool.and_false, Bool.false_and, Bool.or_true, Bool.true_or, Bool.or_false, Bool.false_or, Bool.not_true, Bool.not_false, decide_true, decide_false, if_true, if_false, Bool.true_eq_false, Bool.false_eq_true]; done) | (simp [A_card, inB_t h1, inB_t h3, inB_f h5]; done) | (simp only [A_card, inB_t h1, inB_t h3, inB_f h5, cond_true, cond_false, Bool.and_true, Bool.true_and, Bool.and_false, Bool.false_and, Bool.or_true, Bool.true_or, Bool.or_false, Bool.false_or, Bool.not_true, Bool.not_false, decide_true, decide_false, if_true, if_false, Bool.true_eq_false, Bool.false_eq_true] <;> decide)), _, rfl, hI, (by have e : (K_card a b n k s t (σ.1 110)) = false := (by first | (simp only [K_card, inB_t h1, inB_t h3, inB_f h5, cond_true, cond_false, Bool.and_true, Bool.true_and, Bool.and_false, Bool.false_and, Bool.or_true, Bool.true_or, Bool.or_false, Bool.false_or, Bool.not_true, Bool.not_false, decide_true, decide_false, if_true, if_false, Bool.true_eq_false, Bool.false_eq_true]; done) | (simp [K_card, inB_t h1, inB_t h3, inB_f h5]; done) | (simp only [K_card, inB_t h1, inB_t h3, inB_f h5, cond_true, cond_false, Bool.and_true, Bool.true_and, Bool.and_false, Bool.false_and, Bool.or_true, Bool.true_or, Bool.or_false, Bool.false_or, Bool.not_true, Bool.not_false, decide_true, decide_false, if_true, if_false, Bool.true_eq_false, Bool.false_eq_true] <;> decide)); rw [e]; exact (show CoK σ σ from Cor.rfl' σ)), hL, hD⟩
    · skip
      refine R_ifeq (pc := 15) 28 dX8_card_15 (by decide) (fun _ => ?_) (fun h => absurd (by decide) h)
      refine R_bipush (pc := 28) (v := (-2)) dX8_card_28 (by decide) ?_
      exact R_iret (pc := 30) dX8_card_30 rfl rfl (Nat.zero_le _) (Nat.zero_le _) ⟨_, rfl, (by first | (simp only [A_card, inB_t h1, inB_f h3, cond_true, cond_false, Bool.and_true, Bool.true_and, Bool.and_false, Bool.false_and, Bool.or_true, Bool.true_or, Bool.or_false, Bool.false_or, Bool.not_true, Bool.not_false, decide_true, decide_false, if_true, if_false, Bool.true_eq_false, Bool.false_eq_true]; done) | (simp [A_card, inB_t h1, inB_f h3]; done) | (simp only [A_card, inB_t h1, inB_f h3, cond_true, cond_false, Bool.and_true, Bool.true_and, Bool.and_false, Bool.false_and, Bool.or_true, Bool.true_or, Bool.or_false, Bool.false_or, Bool.not_true, Bool.not_false, decide_true, decide_false, if_true, if_false, Bool.true_eq_false, Bool.false_eq_true] <;> decide)), _, rfl, hI, (by have e : (K_card a b n k s t (σ.1 110)) = false := (by first | (simp only [K_card, inB_t h1, inB_f h3, cond_true, cond_false, Bool.and_true, Bool.true_and, Bool.and_false, Bool.false_and, Bool.or_true, Bool.true_or, Bool.or_false, Bool.false_or, Bool.not_true, Bool.not_false, decide_true, decide_false, if_true, if_false, Bool.true_eq_false, Bool.false_eq_true]; done) | (simp [K_card, inB_t h1, inB_f h3]; done) | (simp only [K_card, inB_t h1, inB_f h3, cond_true, cond_false, Bool.and_true, Bool.true_and, Bool.and_false, Bool.false_and, Bool.or_true, Bool.true_or, Bool.or_false, Bool.false_or, Bool.not_true, Bool.not_false, decide_true, decide_false, if_true, if_false, Bool.true_eq_false, Bool.false_eq_true] <;> decide)); rw [e]; exact (show CoK σ σ from Cor.rfl' σ)), hL, hD⟩
  · skip
    refine R_ifeq (pc := 6) 28 dX8_card_6 (by decide) (fun _ => ?_) (fun h => absurd (by decide) h)
    refine R_bipush (pc := 28) (v := (-2)) dX8_card_28 (by decide) ?_
    exact R_iret (pc := 30) dX8_card_30 rfl rfl (Nat.zero_le _) (Nat.zero_le _) ⟨_, rfl, (by first | (simp only [A_card, inB_f h1, cond_true, cond_false, Bool.and_true, Bool.true_and, Bool.and_false, Bool.false_and, Bool.or_true, Bool.true_or, Bool.or_false, Bool.false_or, Bool.not_true, Bool.not_false, decide_true, decide_false, if_true, if_false, Bool.true_eq_false, Bool.false_eq_true]; done) | (simp [A_card, inB_f h1]; done) | (simp only [A_card, inB_f h1, cond_true, cond_false, Bool.and_true, Bool.true_and, Bool.and_false, Bool.false_and, Bool.or_true, Bool.true_or, Bool.or_false, Bool.false_or, Bool.not_true, Bool.not_false, decide_true, decide_false, if_true, if_false, Bool.true_eq_false, Bool.false_eq_true] <;> decide)), _, rfl, hI, (by have e : (K_card a b n k s t (σ.1 110)) = false := (by first | (simp only [K_card, inB_f h1, cond_true, cond_false, Bool.and_true, Bool.true_and, Bool.and_false, Bool.false_and, Bool.or_true, Bool.true_or, Bool.or_false, Bool.false_or, Bool.not_true, Bool.not_false, decide_true, decide_false, if_true, if_false, Bool.true_eq_false, Bool.false_eq_true]; done) | (simp [K_card, inB_f h1]; done) | (simp only [K_card, inB_f h1, cond_true, cond_false, Bool.and_true, Bool.true_and, Bool.and_false, Bool.false_and, Bool.or_true, Bool.true_or, Bool.or_false, Bool.false_or, Bool.not_true, Bool.not_false, decide_true, decide_false, if_true, if_false, Bool.true_eq_false, Bool.false_eq_true] <;> decide)); rw [e]; exact (show CoK σ σ from Cor.rfl' σ)), hL, hD⟩
set_option maxRecDepth 100000 in
set_option maxHeartbeats 40000000 in
theorem gk_X8_caption {G : vG} {l : Launch} (σ : Sg) (c : Int32) (p : Int64) (n : Int32) (hI : Inv σ) (hL : ChL σ) (hD : ChD σ) : Sp G l yX8_caption cX8_caption 6 (some .int) 3 0 0 [.ref 0, .int c, .long p, .int n] (WW σ) (QI (fun x w2 => x = A_cap (thC σ c) p n ∧ ∃ σ2, w2 = WW σ2 ∧ Inv σ2 ∧ CoK (bif K_cap (thC σ c) p n then (E_X8_caption σ c p n) else σ) σ2 ∧ ChL σ2 ∧ ChD σ2)) := by
  refine Sp_of_R [(some (.ref 0)), (some (.int c)), (some (.long p)), none, (some (.int n)), none] [none] rfl (by simp) rfl (Nat.le_of_ble_eq_true rfl) ?_
  refine R_aload_n (pc := 0) dX8_caption_0 rfl rfl ?_
  refine g_X8_10 (pc := 1) (v := .ref 1) rfl dX8_caption_1 (c_0 _) rfl ?_
  refine R_iload_n (pc := 4) dX8_caption_4 rfl rfl ?_
  refine k_X8_90 (pc := 5) (ge_X0_isThere _ _ hI) rfl (c_1 _) (by decide) (Nat.le_refl _) (Nat.le_refl _) (Nat.le_of_ble_eq_true rfl) dX8_caption_5 (fun x w2 h => ?_)
  rcases h with ⟨rfl, ⟨h1, rfl⟩ | ⟨h1, rfl⟩⟩
  · skip
    refine R_ifne (pc := 8) 14 dX8_caption_8 (by decide) (fun _ => ?_) (fun h => absurd h (by decide))
    refine R_iload (pc := 14) dX8_caption_14 rfl ?_
    refine R_iconst (pc := 16) (v := 0) dX8_caption_16 (by decide) ?_
    refine R_bipush (pc := 17) (v := 8) dX8_caption_17 (by decide) ?_
    refine k_X8_72 (pc := 19) (sp_X8_isWithin _ _ _ _) rfl (by decide) (Nat.le_refl _) (Nat.le_refl _) (Nat.le_of_ble_eq_true rfl) dX8_caption_19 (fun x w2 h => ?_)
    rcases h with ⟨rfl, ⟨h3, rfl⟩ | ⟨h3, rfl⟩⟩
    · skip
      refine R_ifne (pc := 22) 28 dX8_caption_22 (by decide) (fun _ => ?_) (fun h => absurd h (by decide))
      refine R_iconst (pc := 28) (v := 0) dX8_caption_28 (by decide) ?_
      refine st_6_5_i_i (pc := 29) dX8_caption_29 ?_
      have HL31 : ∀ (q j31 : Nat), j31 + q = 8 → 0 ≤ j31 → allL p j31 = true → nI j31 ≤ n → R G l yX8_caption cX8_caption 6 (some .int) 3 0 0 (QI (fun x w2 => x = A_cap (thC σ c) p n ∧ ∃ σ2, w2 = WW σ2 ∧ Inv σ2 ∧ CoK (bif K_cap (thC σ c) p n then (E_X8_caption σ c p n) else σ) σ2 ∧ ChL σ2 ∧ ChD σ2)) 31 [(some (.ref 0)), (some (.int c)), (some (.long p)), none, (some (.int n)), (some (.int (nI j31)))] [] (WW σ) 0 0 := by
        intro q
        induction q with
        | zero =>
          intro j31 hj hs31 hX31_0 hX31_1
          obtain rfl : j31 = 8 := by omega
          refine R_iload (pc := 31) dX8_caption_31 rfl ?_
          refine R_iload (pc := 33) dX8_caption_33 rfl ?_
          refine R_icge (pc := 35) 59 dX8_caption_35 (by decide) (fun _ => ?_) (fun h => absurd (Int32.not_lt.mp (inR_up h3 (Int32.le_refl _) (by decide)).2) h)
          refine R_aload_n (pc := 59) dX8_caption_59 rfl rfl ?_
          refine g_X8_10 (pc := 60) (v := .ref 1) rfl dX8_caption_60 (c_0 _) rfl ?_
          refine g_X8_101 (pc := 63) (v := .ref 10) rfl dX8_caption_63 (c_1 _) rfl ?_
          refine R_iload_n (pc := 66) dX8_caption_66 rfl rfl ?_
          refine R_lload_n (pc := 67) dX8_caption_67 rfl rfl ?_
          have hx6 : vp_in c 20 := (vp_of_inR (thC_r hI h1) (by decide))
          refine W_lastore (pc := 68) dX8_caption_68 (c_10 _) hx6 (a_10 _ _) ?_
          have hW7 := cor_cb 10 (Int32.toNatClampNeg c) p (show CoK σ σ from Cor.rfl' σ)
          refine R_aload_n (pc := 69) dX8_caption_69 rfl rfl ?_
          refine g_X8_10 (pc := 70) (v := .ref 1) rfl dX8_caption_70 (c_0 _) rfl ?_
          refine g_X8_105 (pc := 73) (v := .ref 11) rfl dX8_caption_73 (c_1 _) rfl ?_
          refine R_iload_n (pc := 76) dX8_caption_76 rfl rfl ?_
          refine R_iload (pc := 77) dX8_caption_77 rfl ?_
          have hx8 : vp_in c 20 := (vp_of_inR (thC_r hI h1) (by decide))
          refine W_iastore (pc := 79) dX8_caption_79 (c_11 _) hx8 (a_11 _ _) ?_
          have hV9 := sa_11 hI (Int32.toNatClampNeg c) h3
          have hW10 := cor_ca 11 (Int32.toNatClampNeg c) n hW7 rfl
          refine R_aload_n (pc := 80) dX8_caption_80 rfl rfl ?_
          refine g_X8_21 (pc := 81) (v := .ref 12) rfl dX8_caption_81 (c_0 _) rfl ?_
          refine R_iload_n (pc := 84) dX8_caption_84 rfl rfl ?_
          refine k_X8_87 (pc := 85) (gk_X3_compareWord _ _ hV9 (thC_r hI h1)) rfl (c_12 _) (by decide) (Nat.le_refl _) (Nat.le_refl _) (Nat.le_of_ble_eq_true rfl) dX8_caption_85 (fun w2 h => ?_)
          obtain ⟨σx12, rfl, hV11, hW13, hF14⟩ := h
          have hW15 := Cor.trans hW10 hW13
          refine R_iconst (pc := 88) (v := 1) dX8_caption_88 (by decide) ?_
          exact R_iret (pc := 89) dX8_caption_89 rfl rfl (Nat.zero_le _) (Nat.zero_le _) ⟨_, rfl, (by first | (simp only [A_cap, h1, inB_t h3, cond_true, cond_false, Bool.and_true, Bool.true_and, Bool.and_false, Bool.false_and, Bool.or_true, Bool.true_or, Bool.or_false, Bool.false_or, Bool.not_true, Bool.not_false, decide_true, decide_false, if_true, if_false, Bool.true_eq_false, Bool.false_eq_true]; done) | (simp only [A_cap, h1, inB_t h3, (allL_end hX31_0 (by first | exact nI_eqe hX31_1 (by assumption) | exact nI_eq8 hX31_1 h3)), cond_true, cond_false, Bool.and_true, Bool.true_and, Bool.and_false, Bool.false_and, Bool.or_true, Bool.true_or, Bool.or_false, Bool.false_or, Bool.not_true, Bool.not_false, decide_true, decide_false, if_true, if_false, Bool.true_eq_false, Bool.false_eq_true]; done) | (simp only [A_cap, h1, inB_t h3, (allL_end hX31_0 (by first | exact nI_eqe hX31_1 (by assumption) | exact nI_eq8 hX31_1 h3)), cond_true, cond_false, Bool.and_true, Bool.true_and, Bool.and_false, Bool.false_and, Bool.or_true, Bool.true_or, Bool.or_false, Bool.false_or, Bool.not_true, Bool.not_false, decide_true, decide_false, if_true, if_false, Bool.true_eq_false, Bool.false_eq_true]; done) | (simp [A_cap, h1, inB_t h3, (allL_end hX31_0 (by first | exact nI_eqe hX31_1 (by assumption) | exact nI_eq8 hX31_1 h3))]; done) | (simp only [A_cap, h1, inB_t h3, cond_true, cond_false, Bool.and_true, Bool.true_and, Bool.and_false, Bool.false_and, Bool.or_true, Bool.true_or, Bool.or_false, Bool.false_or, Bool.not_true, Bool.not_false, decide_true, decide_false, if_true, if_false, Bool.true_eq_false, Bool.false_eq_true] <;> decide)), _, rfl, hV11, (by have e : (K_cap (thC σ c) p n) = true := (by first | (simp only [K_cap, h1, inB_t h3, cond_true, cond_false, Bool.and_true, Bool.true_and, Bool.and_false, Bool.false_and, Bool.or_true, Bool.true_or, Bool.or_false, Bool.false_or, Bool.not_true, Bool.not_false, decide_true, decide_false, if_true, if_false, Bool.true_eq_false, Bool.false_eq_true]; done) | (simp only [K_cap, h1, inB_t h3, (allL_end hX31_0 (by first | exact nI_eqe hX31_1 (by assumption) | exact nI_eq8 hX31_1 h3)), cond_true, cond_false, Bool.and_true, Bool.true_and, Bool.and_false, Bool.false_and, Bool.or_true, Bool.true_or, Bool.or_false, Bool.false_or, Bool.not_true, Bool.not_false, decide_true, decide_false, if_true, if_false, Bool.true_eq_false, Bool.false_eq_true]; done) | (simp only [K_cap, h1, inB_t h3, (allL_end hX31_0 (by first | exact nI_eqe hX31_1 (by assumption) | exact nI_eq8 hX31_1 h3)), cond_true, cond_false, Bool.and_true, Bool.true_and, Bool.and_false, Bool.false_and, Bool.or_true, Bool.true_or, Bool.or_false, Bool.false_or, Bool.not_true, Bool.not_false, decide_true, decide_false, if_true, if_false, Bool.true_eq_false, Bool.false_eq_true]; done) | (simp [K_cap, h1, inB_t h3, (allL_end hX31_0 (by first | exact nI_eqe hX31_1 (by assumption) | exact nI_eq8 hX31_1 h3))]; done) | (simp only [K_cap, h1, inB_t h3, cond_true, cond_false, Bool.and_true, Bool.true_and, Bool.and_false, Bool.false_and, Bool.or_true, Bool.true_or, Bool.or_false, Bool.false_or, Bool.not_true, Bool.not_false, decide_true, decide_false, if_true, if_false, Bool.true_eq_false, Bool.false_eq_true] <;> decide)); rw [e]; exact hW15), (chL_cap (τ := (uA (uB σ 10 (vp_updL (σ.2.2.2.1 10) (Int32.toNatClampNeg c) p)) 11 (upd ((uB σ 10 (vp_updL (σ.2.2.2.1 10) (Int32.toNatClampNeg c) p)).2.2.1 11) (Int32.toNatClampNeg c) n))) hL rfl (fun q a b => (show va_up σ.2.2.1 11 _ q = _ from up_ne _ (by omega))) (fun d hd => (show upd (σ.2.2.1 11) (Int32.toNatClampNeg c) n d = _ from upd_ne _ hd)) (fun d hd => (show vp_updL (σ.2.2.2.1 10) (Int32.toNatClampNeg c) p d = _ from updL_ne _ hd)) hW13 hF14.2), (chD_cap (τ := (uA (uB σ 10 (vp_updL (σ.2.2.2.1 10) (Int32.toNatClampNeg c) p)) 11 (upd ((uB σ 10 (vp_updL (σ.2.2.2.1 10) (Int32.toNatClampNeg c) p)).2.2.1 11) (Int32.toNatClampNeg c) n))) hD rfl (fun q a b => (show va_up σ.2.2.1 11 _ q = _ from up_ne _ (by omega))) rfl rfl hW13 hF14.1)⟩
        | succ q ih31 =>
          intro j31 hj hs31 hX31_0 hX31_1
          have hrg31 : inR (nI j31) 0 7 := inR_ix hs31 (show j31 < 8 by omega) (by decide) (by decide) (by decide)
          have hlt31 : j31 < 8 := by omega
          refine R_iload (pc := 31) dX8_caption_31 rfl ?_
          refine R_iload (pc := 33) dX8_caption_33 rfl ?_
          refine R_icge (pc := 35) 59 dX8_caption_35 (by decide) (fun b35_16 => ?_) (fun b35_16 => ?_)
          · skip
            refine R_aload_n (pc := 59) dX8_caption_59 rfl rfl ?_
            refine g_X8_10 (pc := 60) (v := .ref 1) rfl dX8_caption_60 (c_0 _) rfl ?_
            refine g_X8_101 (pc := 63) (v := .ref 10) rfl dX8_caption_63 (c_1 _) rfl ?_
            refine R_iload_n (pc := 66) dX8_caption_66 rfl rfl ?_
            refine R_lload_n (pc := 67) dX8_caption_67 rfl rfl ?_
            have hx17 : vp_in c 20 := (vp_of_inR (thC_r hI h1) (by decide))
            refine W_lastore (pc := 68) dX8_caption_68 (c_10 _) hx17 (a_10 _ _) ?_
            have hW18 := cor_cb 10 (Int32.toNatClampNeg c) p (show CoK σ σ from Cor.rfl' σ)
            refine R_aload_n (pc := 69) dX8_caption_69 rfl rfl ?_
            refine g_X8_10 (pc := 70) (v := .ref 1) rfl dX8_caption_70 (c_0 _) rfl ?_
            refine g_X8_105 (pc := 73) (v := .ref 11) rfl dX8_caption_73 (c_1 _) rfl ?_
            refine R_iload_n (pc := 76) dX8_caption_76 rfl rfl ?_
            refine R_iload (pc := 77) dX8_caption_77 rfl ?_
            have hx19 : vp_in c 20 := (vp_of_inR (thC_r hI h1) (by decide))
            refine W_iastore (pc := 79) dX8_caption_79 (c_11 _) hx19 (a_11 _ _) ?_
            have hV20 := sa_11 hI (Int32.toNatClampNeg c) h3
            have hW21 := cor_ca 11 (Int32.toNatClampNeg c) n hW18 rfl
            refine R_aload_n (pc := 80) dX8_caption_80 rfl rfl ?_
            refine g_X8_21 (pc := 81) (v := .ref 12) rfl dX8_caption_81 (c_0 _) rfl ?_
            refine R_iload_n (pc := 84) dX8_caption_84 rfl rfl ?_
            refine k_X8_87 (pc := 85) (gk_X3_compareWord _ _ hV20 (thC_r hI h1)) rfl (c_12 _) (by decide) (Nat.le_refl _) (Nat.le_refl _) (Nat.le_of_ble_eq_true rfl) dX8_caption_85 (fun w2 h => ?_)
            obtain ⟨σx23, rfl, hV22, hW24, hF25⟩ := h
            have hW26 := Cor.trans hW21 hW24
            refine R_iconst (pc := 88) (v := 1) dX8_caption_88 (by decide) ?_
            exact R_iret (pc := 89) dX8_caption_89 rfl rfl (Nat.zero_le _) (Nat.zero_le _) ⟨_, rfl, (by first | (simp only [A_cap, h1, inB_t h3, cond_true, cond_false, Bool.and_true, Bool.true_and, Bool.and_false, Bool.false_and, Bool.or_true, Bool.true_or, Bool.or_false, Bool.false_or, Bool.not_true, Bool.not_false, decide_true, decide_false, if_true, if_false, Bool.true_eq_false, Bool.false_eq_true]; done) | (simp only [A_cap, h1, inB_t h3, (allL_end hX31_0 (by first | exact nI_eqe hX31_1 (by assumption) | exact nI_eq8 hX31_1 h3)), cond_true, cond_false, Bool.and_true, Bool.true_and, Bool.and_false, Bool.false_and, Bool.or_true, Bool.true_or, Bool.or_false, Bool.false_or, Bool.not_true, Bool.not_false, decide_true, decide_false, if_true, if_false, Bool.true_eq_false, Bool.false_eq_true]; done) | (simp only [A_cap, h1, inB_t h3, b35_16, (allL_end hX31_0 (by first | exact nI_eqe hX31_1 (by assumption) | exact nI_eq8 hX31_1 h3)), cond_true, cond_false, Bool.and_true, Bool.true_and, Bool.and_false, Bool.false_and, Bool.or_true, Bool.true_or, Bool.or_false, Bool.false_or, Bool.not_true, Bool.not_false, decide_true, decide_false, if_true, if_false, Bool.true_eq_false, Bool.false_eq_true]; done) | (simp [A_cap, h1, inB_t h3, b35_16, (allL_end hX31_0 (by first | exact nI_eqe hX31_1 (by assumption) | exact nI_eq8 hX31_1 h3))]; done) | (simp only [A_cap, h1, inB_t h3, cond_true, cond_false, Bool.and_true, Bool.true_and, Bool.and_false, Bool.false_and, Bool.or_true, Bool.true_or, Bool.or_false, Bool.false_or, Bool.not_true, Bool.not_false, decide_true, decide_false, if_true, if_false, Bool.true_eq_false, Bool.false_eq_true] <;> decide)), _, rfl, hV22, (by have e : (K_cap (thC σ c) p n) = true := (by first | (simp only [K_cap, h1, inB_t h3, cond_true, cond_false, Bool.and_true, Bool.true_and, Bool.and_false, Bool.false_and, Bool.or_true, Bool.true_or, Bool.or_false, Bool.false_or, Bool.not_true, Bool.not_false, decide_true, decide_false, if_true, if_false, Bool.true_eq_false, Bool.false_eq_true]; done) | (simp only [K_cap, h1, inB_t h3, (allL_end hX31_0 (by first | exact nI_eqe hX31_1 (by assumption) | exact nI_eq8 hX31_1 h3)), cond_true, cond_false, Bool.and_true, Bool.true_and, Bool.and_false, Bool.false_and, Bool.or_true, Bool.true_or, Bool.or_false, Bool.false_or, Bool.not_true, Bool.not_false, decide_true, decide_false, if_true, if_false, Bool.true_eq_false, Bool.false_eq_true]; done) | (simp only [K_cap, h1, inB_t h3, b35_16, (allL_end hX31_0 (by first | exact nI_eqe hX31_1 (by assumption) | exact nI_eq8 hX31_1 h3)), cond_true, cond_false, Bool.and_true, Bool.true_and, Bool.and_false, Bool.false_and, Bool.or_true, Bool.true_or, Bool.or_false, Bool.false_or, Bool.not_true, Bool.not_false, decide_true, decide_false, if_true, if_false, Bool.true_eq_false, Bool.false_eq_true]; done) | (simp [K_cap, h1, inB_t h3, b35_16, (allL_end hX31_0 (by first | exact nI_eqe hX31_1 (by assumption) | exact nI_eq8 hX31_1 h3))]; done) | (simp only [K_cap, h1, inB_t h3, cond_true, cond_false, Bool.and_true, Bool.true_and, Bool.and_false, Bool.false_and, Bool.or_true, Bool.true_or, Bool.or_false, Bool.false_or, Bool.not_true, Bool.not_false, decide_true, decide_false, if_true, if_false, Bool.true_eq_false, Bool.false_eq_true] <;> decide)); rw [e]; exact hW26), (chL_cap (τ := (uA (uB σ 10 (vp_updL (σ.2.2.2.1 10) (Int32.toNatClampNeg c) p)) 11 (upd ((uB σ 10 (vp_updL (σ.2.2.2.1 10) (Int32.toNatClampNeg c) p)).2.2.1 11) (Int32.toNatClampNeg c) n))) hL rfl (fun q a b => (show va_up σ.2.2.1 11 _ q = _ from up_ne _ (by omega))) (fun d hd => (show upd (σ.2.2.1 11) (Int32.toNatClampNeg c) n d = _ from upd_ne _ hd)) (fun d hd => (show vp_updL (σ.2.2.2.1 10) (Int32.toNatClampNeg c) p d = _ from updL_ne _ hd)) hW24 hF25.2), (chD_cap (τ := (uA (uB σ 10 (vp_updL (σ.2.2.2.1 10) (Int32.toNatClampNeg c) p)) 11 (upd ((uB σ 10 (vp_updL (σ.2.2.2.1 10) (Int32.toNatClampNeg c) p)).2.2.1 11) (Int32.toNatClampNeg c) n))) hD rfl (fun q a b => (show va_up σ.2.2.1 11 _ q = _ from up_ne _ (by omega))) rfl rfl hW24 hF25.1)⟩
          · skip
            refine R_lload_n (pc := 38) dX8_caption_38 rfl rfl ?_
            refine R_iload (pc := 39) dX8_caption_39 rfl ?_
            refine k_X8_94 (pc := 41) (sp_X8_byteOf _ _ _) rfl (by decide) (Nat.le_refl _) (Nat.le_refl _) (Nat.le_of_ble_eq_true rfl) dX8_caption_41 (fun x w2 h => ?_)
            obtain ⟨rfl, rfl⟩ := h
            refine R_cv (byI p (nI j31)) rfl ?_
            refine k_X8_98 (pc := 44) (sp_X8_isLetter _ _) rfl (by decide) (Nat.le_refl _) (Nat.le_refl _) (Nat.le_of_ble_eq_true rfl) dX8_caption_44 (fun x w2 h => ?_)
            rcases h with ⟨rfl, ⟨h27, rfl⟩ | ⟨h27, rfl⟩⟩
            · skip
              refine R_ifne (pc := 47) 53 dX8_caption_47 (by decide) (fun _ => ?_) (fun h => absurd h (by decide))
              refine inc_6_5_1_i (pc := 53) dX8_caption_53 ?_
              have r29 : inR ((nI j31) + 1) 1 8 := inR_add (show inR (nI j31) 0 7 from hrg31) (show inR 1 1 1 from (inR_self _)) (by decide) (by decide)
              have e30 := ti_add (l := 1) (h := 8) (show inR (nI j31) 0 7 from hrg31) (show inR 1 1 1 from (inR_self _)) (by decide) (by decide)
              refine R_goto (pc := 56) 31 dX8_caption_56 (by decide) ?_
              rw [nI_1]
              exact ih31 (j31 + 1) (by omega) (by omega) (allL_s hX31_0 h27) (nI_sle (by omega) b35_16)
            · skip
              refine R_ifne (pc := 47) 53 dX8_caption_47 (by decide) (fun h => absurd (by decide) h) (fun _ => ?_)
              refine R_bipush (pc := 50) (v := (-3)) dX8_caption_50 (by decide) ?_
              exact R_iret (pc := 52) dX8_caption_52 rfl rfl (Nat.zero_le _) (Nat.zero_le _) ⟨_, rfl, (by first | (simp only [A_cap, h1, inB_t h3, cond_true, cond_false, Bool.and_true, Bool.true_and, Bool.and_false, Bool.false_and, Bool.or_true, Bool.true_or, Bool.or_false, Bool.false_or, Bool.not_true, Bool.not_false, decide_true, decide_false, if_true, if_false, Bool.true_eq_false, Bool.false_eq_true]; done) | (simp only [A_cap, h1, inB_t h3, (allL_mono (allL_f h27) _ (nI_slt (by omega) b35_16)), cond_true, cond_false, Bool.and_true, Bool.true_and, Bool.and_false, Bool.false_and, Bool.or_true, Bool.true_or, Bool.or_false, Bool.false_or, Bool.not_true, Bool.not_false, decide_true, decide_false, if_true, if_false, Bool.true_eq_false, Bool.false_eq_true]; done) | (simp only [A_cap, h1, inB_t h3, b35_16, (allL_mono (allL_f h27) _ (nI_slt (by omega) b35_16)), cond_true, cond_false, Bool.and_true, Bool.true_and, Bool.and_false, Bool.false_and, Bool.or_true, Bool.true_or, Bool.or_false, Bool.false_or, Bool.not_true, Bool.not_false, decide_true, decide_false, if_true, if_false, Bool.true_eq_false, Bool.false_eq_true]; done) | (simp [A_cap, h1, inB_t h3, b35_16, (allL_mono (allL_f h27) _ (nI_slt (by omega) b35_16))]; done) | (simp only [A_cap, h1, inB_t h3, cond_true, cond_false, Bool.and_true, Bool.true_and, Bool.and_false, Bool.false_and, Bool.or_true, Bool.true_or, Bool.or_false, Bool.false_or, Bool.not_true, Bool.not_false, decide_true, decide_false, if_true, if_false, Bool.true_eq_false, Bool.false_eq_true] <;> decide)), _, rfl, hI, (by have e : (K_cap (thC σ c) p n) = false := (by first | (simp only [K_cap, h1, inB_t h3, cond_true, cond_false, Bool.and_true, Bool.true_and, Bool.and_false, Bool.false_and, Bool.or_true, Bool.true_or, Bool.or_false, Bool.false_or, Bool.not_true, Bool.not_false, decide_true, decide_false, if_true, if_false, Bool.true_eq_false, Bool.false_eq_true]; done) | (simp only [K_cap, h1, inB_t h3, (allL_mono (allL_f h27) _ (nI_slt (by omega) b35_16)), cond_true, cond_false, Bool.and_true, Bool.true_and, Bool.and_false, Bool.false_and, Bool.or_true, Bool.true_or, Bool.or_false, Bool.false_or, Bool.not_true, Bool.not_false, decide_true, decide_false, if_true, if_false, Bool.true_eq_false, Bool.false_eq_true]; done) | (simp only [K_cap, h1, inB_t h3, b35_16, (allL_mono (allL_f h27) _ (nI_slt (by omega) b35_16)), cond_true, cond_false, Bool.and_true, Bool.true_and, Bool.and_false, Bool.false_and, Bool.or_true, Bool.true_or, Bool.or_false, Bool.false_or, Bool.not_true, Bool.not_false, decide_true, decide_false, if_true, if_false, Bool.true_eq_false, Bool.false_eq_true]; done) | (simp [K_cap, h1, inB_t h3, b35_16, (allL_mono (allL_f h27) _ (nI_slt (by omega) b35_16))]; done) | (simp only [K_cap, h1, inB_t h3, cond_true, cond_false, Bool.and_true, Bool.true_and, Bool.and_false, Bool.false_and, Bool.or_true, Bool.true_or, Bool.or_false, Bool.false_or, Bool.not_true, Bool.not_false, decide_true, decide_false, if_true, if_false, Bool.true_eq_false, Bool.false_eq_true] <;> decide)); rw [e]; exact (show CoK σ σ from Cor.rfl' σ)), hL, hD⟩
      exact HL31 8 0 (by omega) (by omega) rfl (show (0 : Int32) ≤ n from Int32.not_lt.mp h3.1)
    · skip
      refine R_ifne (pc := 22) 28 dX8_caption_22 (by decide) (fun h => absurd (by decide) h) (fun _ => ?_)
      refine R_bipush (pc := 25) (v := (-3)) dX8_caption_25 (by decide) ?_
      exact R_iret (pc := 27) dX8_caption_27 rfl rfl (Nat.zero_le _) (Nat.zero_le _) ⟨_, rfl, (by first | (simp only [A_cap, h1, inB_f h3, cond_true, cond_false, Bool.and_true, Bool.true_and, Bool.and_false, Bool.false_and, Bool.or_true, Bool.true_or, Bool.or_false, Bool.false_or, Bool.not_true, Bool.not_false, decide_true, decide_false, if_true, if_false, Bool.true_eq_false, Bool.false_eq_true]; done) | (simp [A_cap, h1, inB_f h3]; done) | (simp only [A_cap, h1, inB_f h3, cond_true, cond_false, Bool.and_true, Bool.true_and, Bool.and_false, Bool.false_and, Bool.or_true, Bool.true_or, Bool.or_false, Bool.false_or, Bool.not_true, Bool.not_false, decide_true, decide_false, if_true, if_false, Bool.true_eq_false, Bool.false_eq_true] <;> decide)), _, rfl, hI, (by have e : (K_cap (thC σ c) p n) = false := (by first | (simp only [K_cap, h1, inB_f h3, cond_true, cond_false, Bool.and_true, Bool.true_and, Bool.and_false, Bool.false_and, Bool.or_true, Bool.true_or, Bool.or_false, Bool.false_or, Bool.not_true, Bool.not_false, decide_true, decide_false, if_true, if_false, Bool.true_eq_false, Bool.false_eq_true]; done) | (simp [K_cap, h1, inB_f h3]; done) | (simp only [K_cap, h1, inB_f h3, cond_true, cond_false, Bool.and_true, Bool.true_and, Bool.and_false, Bool.false_and, Bool.or_true, Bool.true_or, Bool.or_false, Bool.false_or, Bool.not_true, Bool.not_false, decide_true, decide_false, if_true, if_false, Bool.true_eq_false, Bool.false_eq_true] <;> decide)); rw [e]; exact (show CoK σ σ from Cor.rfl' σ)), hL, hD⟩
  · skip
    refine R_ifne (pc := 8) 14 dX8_caption_8 (by decide) (fun h => absurd (by decide) h) (fun _ => ?_)
    refine R_bipush (pc := 11) (v := (-2)) dX8_caption_11 (by decide) ?_
    exact R_iret (pc := 13) dX8_caption_13 rfl rfl (Nat.zero_le _) (Nat.zero_le _) ⟨_, rfl, (by first | (simp only [A_cap, h1, cond_true, cond_false, Bool.and_true, Bool.true_and, Bool.and_false, Bool.false_and, Bool.or_true, Bool.true_or, Bool.or_false, Bool.false_or, Bool.not_true, Bool.not_false, decide_true, decide_false, if_true, if_false, Bool.true_eq_false, Bool.false_eq_true]; done) | (simp [A_cap, h1]; done) | (simp only [A_cap, h1, cond_true, cond_false, Bool.and_true, Bool.true_and, Bool.and_false, Bool.false_and, Bool.or_true, Bool.true_or, Bool.or_false, Bool.false_or, Bool.not_true, Bool.not_false, decide_true, decide_false, if_true, if_false, Bool.true_eq_false, Bool.false_eq_true] <;> decide)), _, rfl, hI, (by have e : (K_cap (thC σ c) p n) = false := (by first | (simp only [K_cap, h1, cond_true, cond_false, Bool.and_true, Bool.true_and, Bool.and_false, Bool.false_and, Bool.or_true, Bool.true_or, Bool.or_false, Bool.false_or, Bool.not_true, Bool.not_false, decide_true, decide_false, if_true, if_false, Bool.true_eq_false, Bool.false_eq_true]; done) | (simp [K_cap, h1]; done) | (simp only [K_cap, h1, cond_true, cond_false, Bool.and_true, Bool.true_and, Bool.and_false, Bool.false_and, Bool.or_true, Bool.true_or, Bool.or_false, Bool.false_or, Bool.not_true, Bool.not_false, decide_true, decide_false, if_true, if_false, Bool.true_eq_false, Bool.false_eq_true] <;> decide)); rw [e]; exact (show CoK σ σ from Cor.rfl' σ)), hL, hD⟩
