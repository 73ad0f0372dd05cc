/-! breaks -/
/-! breaks: what the answer says -/
def ouX (X : Xs) (lo hi : Int32) (c : Nat) : Bool := decide (hi.toInt < yf X c) || decide (yt X c < lo.toInt)
theorem ou_f {X : Xs} {lo hi : Int32} {c : Nat} (h1 : yf X c ≤ hi.toInt) (h2 : lo.toInt ≤ yt X c) : ouX X lo hi c = false := by
  unfold ouX
  rw [decide_eq_false (by omega), decide_eq_false (by omega)]; rfl
theorem ou_t {X : Xs} {lo hi : Int32} {c : Nat} (h : hi.toInt < yf X c ∨ yt X c < lo.toInt) : ouX X lo hi c = true := by
  unfold ouX
  rcases h with h | h
  · rw [decide_eq_true h]; rfl
  · rw [decide_eq_true h, Bool.or_true]
theorem nd_t {a : Int32} (h : ¬ a = 0) : (!decide (a = 0)) = true := by rw [decide_eq_false h]; rfl
theorem nd_f {a : Int32} (h : a = 0) : (!decide (a = 0)) = false := by rw [decide_eq_true h]; rfl
theorem ne_t {a b : Int32} (h : ¬ a = b) : (!decide (a = b)) = true := by rw [decide_eq_false h]; rfl
theorem ne_f {a b : Int32} (h : a = b) : (!decide (a = b)) = false := by rw [decide_eq_true h]; rfl
theorem an_1 {A F G : Bool} (h : A = false) : (A && (F && G)) = false := by rw [h]; rfl
theorem an_2 {A F G : Bool} (h : F = false) : (A && (F && G)) = false := by rw [h]; cases A <;> rfl
theorem an_3 {A F G : Bool} (h : G = false) : (A && (F && G)) = false := by rw [h]; cases A <;> cases F <;> rfl
theorem an_t {A F G : Bool} (h1 : A = true) (h2 : F = true) (h3 : G = true) : (A && (F && G)) = true := by rw [h1, h2, h3]; rfl
theorem bs_o {K : Nat → Bool} {g : Int32} {j : Nat} (h : g = bsI K j) (hk : K j = false) : g ||| 0 = bsI K (j + 1) := by
  refine Eq.trans ?_ (bs_f h hk)
  apply Int32.toBitVec_inj.mp
  rw [Int32.toBitVec_or]
  simp
def BrA (D : Dt) (A : Nat → Bool) (t od : Bool) (F G : Nat → Bool) (lo hi x : Int32) (B : Prop) : Prop := (t = false ∧ x = -2) ∨ (t = true ∧ od = false ∧ x = bsI (fun c => A c && (F c && G c)) 20) ∨ (t = true ∧ od = true ∧ B ∧ x = -4) ∨ (t = true ∧ od = true ∧ ∃ X, Good D X ∧ x = bsI (fun c => A c && (F c && ouX X lo hi c)) 20)
def bfC (p : Nat) (σ : Sg) (I c : Nat) : Bool := decide (σ.2.2.1 (p + 1) I = σ.2.2.1 3 c) && inB (σ.2.2.1 4 c) (σ.2.2.1 (p + 2) I) (σ.2.2.1 (p + 3) I)
def bfM (σ : Sg) (I c : Nat) : Bool := decide (σ.2.2.1 172 (6 * I) = σ.2.2.1 142 c) && inB (σ.2.2.1 143 c) (σ.2.2.1 172 (6 * I + 1)) (σ.2.2.1 172 (6 * I + 2))
def BrP (p : Nat) (σ : Sg) (D : Dt) (i x : Int32) : Prop := BrA D (tb (thI σ)) (inB i 0 (σ.1 (100 * p + 6) - 1)) (!decide (σ.2.2.1 (p + 4) i.toNatClampNeg = 0)) (bfC p σ i.toNatClampNeg) (fun c => !decide (σ.2.2.1 5 c = σ.2.2.1 (p + 5) i.toNatClampNeg)) (σ.2.2.1 (p + 5) i.toNatClampNeg) (σ.2.2.1 (p + 6) i.toNatClampNeg) x (BL D)
def BrN (σ : Sg) (D : Dt) (k : Nat) (i x : Int32) : Prop := BrA D (fun c => decide (c < TMn σ)) (inB i 0 (σ.1 14047 - 1)) (decide (σ.2.2.1 172 (6 * k + 3) = 1)) (fun c => decide (σ.2.2.1 172 (6 * k) = σ.2.2.1 142 c) && inB (σ.2.2.1 143 c) (σ.2.2.1 172 (6 * k + 1)) (σ.2.2.1 172 (6 * k + 2))) (fun c => !decide (σ.2.2.1 144 c = σ.2.2.1 172 (6 * k + 4))) (σ.2.2.1 172 (6 * k + 4)) (σ.2.2.1 172 (6 * k + 5)) x (Bad D)
def BrM (σ : Sg) (D : Dt) (i x : Int32) : Prop := BrN σ D i.toNatClampNeg i x
theorem brM_of {σ : Sg} {D : Dt} {k : Nat} {x : Int32} (hk : k ≤ 7) (h : BrN σ D k (nI k) x) : BrM σ D (nI k) x := by
  unfold BrM
  rw [nI_clamp (by omega)]; exact h
theorem bfC_cor {p : Nat} {σ τ : Sg} (hp : p = 126 ∨ p = 133) (k : Cor σ τ) (I c : Nat) : bfC p τ I c = bfC p σ I c := by
  have e : ∀ q : Nat, 119 ≤ q → q ≤ 139 → τ.2.2.1 q = σ.2.2.1 q := fun q h1 h2 => k.2.2.1 q (by unfold scA; simp; omega)
  unfold bfC
  rw [k.2.2.1 3 rfl, k.2.2.1 4 rfl, e (p + 1) (by omega) (by omega), e (p + 2) (by omega) (by omega), e (p + 3) (by omega) (by omega)]
theorem bfM_cor {σ τ : Sg} (k : Cor σ τ) (I c : Nat) : bfM τ I c = bfM σ I c := by
  unfold bfM
  rw [k.2.2.1 172 rfl, k.2.2.1 142 rfl, k.2.2.1 143 rfl]
theorem idx_lt {i n : Int32} (hn : inR n 0 8) (h : inB i 0 (n - 1) = true) : i.toNatClampNeg < n.toNatClampNeg := by
  have a := ti_in (inB_r h)
  have b := ti_sub (l := -1) (h := 7) hn (inR_self 1) (by decide) (by decide)
  have z0 : (0 : Int32).toInt = 0 := by decide
  have z1 : (1 : Int32).toInt = 1 := by decide
  show i.toInt.toNat < n.toInt.toNat
  omega
/-- the answers are alike -/
theorem br_eq {p : Nat} {σ σ2 : Sg} {D : Dt} {i x y : Int32} (hI : Inv σ) (hT : Tie σ) (hp : p = 126 ∨ p = 133) (hL : LnT p σ) (k : Cor σ σ2) (h20 : ∀ c, dA D c = true → c < 20) (hA : ∀ c, tb (thI σ) c = true → dA D c = true) (h : BrP p σ D i x) (m : BrM σ2 D i y) : x = y := by
  have z : σ2.1 14047 = σ.1 (100 * p + 6) := (k.1 14047 rfl).trans hL.1
  have AM : ∀ c, decide (c < TMn σ2) = tb (thI σ) c := fun c => (thI_AM hI hT k c).symm
  have hn : inR (σ.1 (100 * p + 6)) 0 8 := by
    rcases hp with rfl | rfl
    · exact iv_12606 hI
    · exact iv_13306 hI
  unfold BrP at h
  unfold BrM BrN at m
  rw [z, k.2.2.1 172 rfl, k.2.2.1 142 rfl, k.2.2.1 143 rfl, k.2.2.1 144 rfl, t_publ hT, t_numb hT, t_back hT] at m
  cases ht : inB i 0 (σ.1 (100 * p + 6) - 1)
  · rw [ht] at h m
    rcases h with ⟨-, rfl⟩ | ⟨e, -⟩ | ⟨e, -⟩ | ⟨e, -⟩
    · rcases m with ⟨-, rfl⟩ | ⟨e, -⟩ | ⟨e, -⟩ | ⟨e, -⟩
      · rfl
      · cases e
      · cases e
      · cases e
    · cases e
    · cases e
    · cases e
  · obtain ⟨e1, e2, e3, e4⟩ := hL.2.2 _ (idx_lt hn ht)
    rw [ht] at h m
    rw [e1, e2, e3] at m
    rcases e4 with ⟨a, b, c1, d⟩ | ⟨a, b, c1⟩
    · rw [c1, d, decide_eq_true b] at m
      rw [nd_t a] at h
      rcases h with ⟨q, -⟩ | ⟨-, q, -⟩ | ⟨-, -, hB, rfl⟩ | ⟨-, -, X, hX, rfl⟩
      · cases q
      · cases q
      · rcases m with ⟨q, -⟩ | ⟨-, q, -⟩ | ⟨-, -, -, rfl⟩ | ⟨-, -, Y, hY, -⟩
        · cases q
        · cases q
        · rfl
        · exact (bl_no h20 hY hB).elim
      · rcases m with ⟨q, -⟩ | ⟨-, q, -⟩ | ⟨-, -, hB, -⟩ | ⟨-, -, Y, hY, rfl⟩
        · cases q
        · cases q
        · exact (good_bad hX hB).elim
        · refine bs_congr 20 (fun c _ => ?_)
          show (tb (thI σ) c && (bfC p σ i.toNatClampNeg c && ouX X _ _ c)) = (decide (c < TMn σ2) && (bfC p σ i.toNatClampNeg c && ouX Y _ _ c))
          rw [AM c]
          cases q : tb (thI σ) c
          · rfl
          · have g := good_eq hX hY (hA c q)
            unfold ouX
            rw [g.2.2.1, g.2.2.2]
    · rw [c1, decide_eq_false b] at m
      rw [nd_f a] at h
      rcases h with ⟨q, -⟩ | ⟨-, -, rfl⟩ | ⟨-, q, -⟩ | ⟨-, q, -⟩
      · cases q
      · rcases m with ⟨q, -⟩ | ⟨-, -, rfl⟩ | ⟨-, q, -⟩ | ⟨-, q, -⟩
        · cases q
        · refine bs_congr 20 (fun c _ => ?_)
          show (tb (thI σ) c && _) = (decide (c < TMn σ2) && _)
          rw [AM c]
          all_goals rfl
        · cases q
        · cases q
      · cases q
      · cases q
/-! no lines at all -/
def Nol (σ : Sg) : Prop := σ.1 11906 = 0
theorem lnr_no {σ : Sg} (h : Nol σ) : LnR 119 σ := fun i hi => by
  rw [show σ.1 (100 * 119 + 6) = 0 from h] at hi
  exact absurd (show i < 0 from hi) (Nat.not_lt_zero i)
theorem im_no {σ σ2 : Sg} (hT : Tie σ) (hN : Nol σ) (k : Cor σ σ2) {c : Nat} (v : Int) : (IsI 119 σ c (σ.1 (100 * 119 + 6)).toNatClampNeg v ↔ ImI 0 σ2 c (σ2.1 14047).toNatClampNeg v) ∧ (IsJ 119 σ c (σ.1 (100 * 119 + 6)).toNatClampNeg v ↔ ImJ 0 σ2 c (σ2.1 14047).toNatClampNeg v) := by
  have e1 := (im_cor (b := 0) (c := c) (j := (σ2.1 14047).toNatClampNeg) k v)
  rw [e1.1, e1.2, show σ.1 (100 * 119 + 6) = 0 from hN]
  unfold IsI ImI IsJ ImJ
  rw [t_bfr hT, t_bto hT, t_back hT, t_post hT]
  constructor
  · constructor
    · rintro (q | ⟨i, h1, -⟩)
      · exact Or.inl q
      · exact absurd (show i < 0 from h1) (Nat.not_lt_zero i)
    · rintro (q | ⟨i, h1, -⟩)
      · exact Or.inl q
      · exact absurd rfl h1
  · constructor
    · rintro (q | q | ⟨i, h1, -⟩)
      · exact Or.inl q
      · exact Or.inr (Or.inl q)
      · exact absurd (show i < 0 from h1) (Nat.not_lt_zero i)
    · rintro (q | q | ⟨i, h1, -⟩)
      · exact Or.inl q
      · exact Or.inr (Or.inl q)
      · exact absurd rfl h1
theorem dtM_no {σ σ2 : Sg} (hI : Inv σ) (hT : Tie σ) (hD : ChD σ) (hR : DtR σ) (hN : Nol σ) (k : Cor σ σ2) : DtM (DC σ (thI σ) 119) (-1) 0 σ2 := by
  have hb := thI_in σ
  have C := dtC_DC (p := 119) hI hb hR (lnr_no hN)
  have A : ∀ c, tb (thI σ) c = (decide (c < TMn σ2) && !decide (nI c = -1)) := fun c => (thI_AM hI hT k c).trans (AM_of (Cor.rfl' σ2) c).symm
  refine ⟨A, fun c hc => ?_, fun c f hc hf => ?_, fun f hf => ?_, fun a b ha hb2 => ?_, fun c v hc => im_no hT hN k v, C.2.2.2.2.2.2⟩
  · exact (lab_lk hI hT hD k hc).trans (lab_congr (fun i => (AM_of (Cor.rfl' σ2) i).symm) ((thI_AM hI hT k c).symm.trans hc) (fun _ _ _ _ _ => rfl))
  · have t := thI_t hc
    have s := thC_s hI t.2
    rw [nI_clamp (by omega)] at s
    rw [k.2.2.1 158 rfl, t_shown hT c f t.1 s hf]
    exact ⟨Iff.rfl, Iff.rfl⟩
  · have q := C.2.2.2.1 f hf
    rw [k.2.2.1 156 rfl, k.2.2.1 157 rfl, t_ffr hT, t_fto hT]
    exact q
  · rw [k.1 14025 rfl, k.2.2.1 161 rfl, k.2.2.1 162 rfl, t_laters hT, t_late hT, t_earl hT]
    exact Iff.rfl
def FNo (σ τ : Sg) : Prop := τ.1 11906 = σ.1 11906
theorem fno_0 (σ : Sg) : FNo σ σ := rfl
theorem fno_t {σ τ υ : Sg} (h : FNo σ τ) (k : FNo τ υ) : FNo σ υ := Eq.trans k h
theorem fno_i {σ τ : Sg} (n : Nat) (v : Int32) (h : FNo σ τ) (hn : ¬ n = 11906) : FNo σ (uI τ n v) := (show va_up τ.1 n v 11906 = τ.1 11906 from up_ne _ (fun e => hn e.symm)).trans h
theorem fno_j {σ τ : Sg} (n : Nat) (v : Int64) (h : FNo σ τ) : FNo σ (uJ τ n v) := h
theorem fno_b {σ τ : Sg} (p : Nat) (f : Nat → Int64) (h : FNo σ τ) : FNo σ (uB τ p f) := h
theorem fno_a {σ τ : Sg} (p : Nat) (f : Nat → Int32) (h : FNo σ τ) : FNo σ (uA τ p f) := h
theorem fno_n {σ τ : Sg} (a b : Nat) (h : FNo σ τ) : FNo σ (uN τ a b) := h
theorem fno_cor {σ τ : Sg} (h : Cor σ τ) : FNo σ τ := h.1 11906 rfl
theorem fno_cok {σ τ : Sg} (h : CoK σ τ) : FNo σ τ := h.1 11906 rfl
theorem fno_cow {σ τ : Sg} (h : CoW σ τ) : FNo σ τ := h.1 11906 rfl
theorem fno_bif {σ ρ τ : Sg} {K : Bool} (hE : FNo σ ρ) (h : Cor (bif K then ρ else σ) τ) : FNo σ τ := by
  cases K
  · exact fno_cor h
  · exact fno_t hE (fno_cor h)
theorem fno_bik {σ ρ τ : Sg} {K : Bool} (hE : FNo σ ρ) (h : CoK (bif K then ρ else σ) τ) : FNo σ τ := by
  cases K
  · exact fno_cok h
  · exact fno_t hE (fno_cok h)
theorem nol_f {σ τ : Sg} (h : Nol σ) (k : FNo σ τ) : Nol τ := Eq.trans k h
