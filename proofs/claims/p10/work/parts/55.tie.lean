/-! the ties between the two sides -/
def Tie (σ : Sg) : Prop := σ.1 14000 = σ.1 110 ∧ σ.1 14011 = σ.1 111 ∧ σ.1 14013 = σ.1 112 ∧ σ.1 14012 = σ.1 1204 ∧ σ.1 14014 = σ.1 9 ∧ σ.1 14025 = σ.1 5809 ∧ σ.1 14037 = σ.1 11701 ∧ σ.2.2.1 141 = σ.2.2.1 2 ∧ σ.2.2.1 142 = σ.2.2.1 3 ∧ σ.2.2.1 143 = σ.2.2.1 4 ∧ σ.2.2.1 144 = σ.2.2.1 5 ∧ σ.2.2.1 146 = σ.2.2.1 7 ∧ σ.2.2.1 147 = σ.2.2.1 8 ∧ σ.2.2.1 148 = σ.2.2.1 9 ∧ σ.2.2.1 149 = σ.2.2.1 11 ∧ σ.2.2.1 156 = σ.2.2.1 59 ∧ σ.2.2.1 157 = σ.2.2.1 60 ∧ σ.2.2.1 159 = σ.2.2.1 61 ∧ σ.2.2.1 160 = σ.2.2.1 62 ∧ σ.2.2.1 161 = σ.2.2.1 84 ∧ σ.2.2.1 162 = σ.2.2.1 85 ∧ σ.2.2.1 167 = σ.2.2.1 94 ∧ σ.2.2.1 168 = σ.2.2.1 116 ∧ σ.2.2.1 170 = σ.2.2.1 118 ∧ σ.2.2.2.1 145 = σ.2.2.2.1 6 ∧ σ.2.1 14034 = σ.2.1 9301 ∧ (∀ c f : Nat, c < 20 → nI c < σ.1 110 → f < 8 → σ.2.2.1 158 (8 * c + f) = σ.2.2.1 (64 + c) f) ∧ (∀ c f : Nat, c < 20 → ¬ nI c < σ.1 110 → f < 8 → σ.2.2.1 (64 + c) f = 2) ∧ (∀ c k : Nat, c < 20 → k < (σ.2.2.1 116 c).toNatClampNeg → σ.2.2.1 169 (5 * c + k) = σ.2.2.1 (96 + c) k) ∧ (∀ i j : Nat, i ≤ j → j < 20 → nI j < σ.1 110 → σ.2.2.1 9 i ≤ σ.2.2.1 9 j) ∧ (∀ j : Nat, j < 20 → nI j < σ.1 110 → σ.2.2.1 9 j ≤ σ.1 111) ∧ inR (σ.1 111) 0 999 ∧ (∀ l : Nat, l < 8 → inR (σ.2.2.1 94 l) 0 64) ∧ (∀ i : Nat, i < 20 → inR (σ.2.2.1 3 i) 0 4) ∧ (∀ c i : Nat, c < 20 → i < (σ.2.2.1 11 c).toNatClampNeg → σ.2.2.1 150 (8 * c + i) = byI (σ.2.2.2.1 10 c) (nI i))
theorem t_size {σ : Sg} (hT : Tie σ) : σ.1 14000 = σ.1 110 := hT.1
theorem t_day {σ : Sg} (hT : Tie σ) : σ.1 14011 = σ.1 111 := hT.2.1
theorem t_asof {σ : Sg} (hT : Tie σ) : σ.1 14013 = σ.1 112 := hT.2.2.1
theorem t_slack {σ : Sg} (hT : Tie σ) : σ.1 14012 = σ.1 1204 := hT.2.2.2.1
theorem t_base {σ : Sg} (hT : Tie σ) : σ.1 14014 = σ.1 9 := hT.2.2.2.2.1
theorem t_laters {σ : Sg} (hT : Tie σ) : σ.1 14025 = σ.1 5809 := hT.2.2.2.2.2.1
theorem t_bytes {σ : Sg} (hT : Tie σ) : σ.1 14037 = σ.1 11701 := hT.2.2.2.2.2.2.1
theorem t_list {σ : Sg} (hT : Tie σ) : σ.2.2.1 141 = σ.2.2.1 2 := hT.2.2.2.2.2.2.2.1
theorem t_publ {σ : Sg} (hT : Tie σ) : σ.2.2.1 142 = σ.2.2.1 3 := hT.2.2.2.2.2.2.2.2.1
theorem t_numb {σ : Sg} (hT : Tie σ) : σ.2.2.1 143 = σ.2.2.1 4 := hT.2.2.2.2.2.2.2.2.2.1
theorem t_back {σ : Sg} (hT : Tie σ) : σ.2.2.1 144 = σ.2.2.1 5 := hT.2.2.2.2.2.2.2.2.2.2.1
theorem t_sky {σ : Sg} (hT : Tie σ) : σ.2.2.1 146 = σ.2.2.1 7 := hT.2.2.2.2.2.2.2.2.2.2.2.1
theorem t_post {σ : Sg} (hT : Tie σ) : σ.2.2.1 147 = σ.2.2.1 8 := hT.2.2.2.2.2.2.2.2.2.2.2.2.1
theorem t_told {σ : Sg} (hT : Tie σ) : σ.2.2.1 148 = σ.2.2.1 9 := hT.2.2.2.2.2.2.2.2.2.2.2.2.2.1
theorem t_lett {σ : Sg} (hT : Tie σ) : σ.2.2.1 149 = σ.2.2.1 11 := hT.2.2.2.2.2.2.2.2.2.2.2.2.2.2.1
theorem t_ffr {σ : Sg} (hT : Tie σ) : σ.2.2.1 156 = σ.2.2.1 59 := hT.2.2.2.2.2.2.2.2.2.2.2.2.2.2.2.1
theorem t_fto {σ : Sg} (hT : Tie σ) : σ.2.2.1 157 = σ.2.2.1 60 := hT.2.2.2.2.2.2.2.2.2.2.2.2.2.2.2.2.1
theorem t_bfr {σ : Sg} (hT : Tie σ) : σ.2.2.1 159 = σ.2.2.1 61 := hT.2.2.2.2.2.2.2.2.2.2.2.2.2.2.2.2.2.1
theorem t_bto {σ : Sg} (hT : Tie σ) : σ.2.2.1 160 = σ.2.2.1 62 := hT.2.2.2.2.2.2.2.2.2.2.2.2.2.2.2.2.2.2.1
theorem t_late {σ : Sg} (hT : Tie σ) : σ.2.2.1 161 = σ.2.2.1 84 := hT.2.2.2.2.2.2.2.2.2.2.2.2.2.2.2.2.2.2.2.1
theorem t_earl {σ : Sg} (hT : Tie σ) : σ.2.2.1 162 = σ.2.2.1 85 := hT.2.2.2.2.2.2.2.2.2.2.2.2.2.2.2.2.2.2.2.2.1
theorem t_cell {σ : Sg} (hT : Tie σ) : σ.2.2.1 167 = σ.2.2.1 94 := hT.2.2.2.2.2.2.2.2.2.2.2.2.2.2.2.2.2.2.2.2.2.1
theorem t_views {σ : Sg} (hT : Tie σ) : σ.2.2.1 168 = σ.2.2.1 116 := hT.2.2.2.2.2.2.2.2.2.2.2.2.2.2.2.2.2.2.2.2.2.2.1
theorem t_text {σ : Sg} (hT : Tie σ) : σ.2.2.1 170 = σ.2.2.1 118 := hT.2.2.2.2.2.2.2.2.2.2.2.2.2.2.2.2.2.2.2.2.2.2.2.1
theorem t_pict {σ : Sg} (hT : Tie σ) : σ.2.2.2.1 145 = σ.2.2.2.1 6 := hT.2.2.2.2.2.2.2.2.2.2.2.2.2.2.2.2.2.2.2.2.2.2.2.2.1
theorem t_wall {σ : Sg} (hT : Tie σ) : σ.2.1 14034 = σ.2.1 9301 := hT.2.2.2.2.2.2.2.2.2.2.2.2.2.2.2.2.2.2.2.2.2.2.2.2.2.1
theorem t_shown {σ : Sg} (hT : Tie σ) : (∀ c f : Nat, c < 20 → nI c < σ.1 110 → f < 8 → σ.2.2.1 158 (8 * c + f) = σ.2.2.1 (64 + c) f) := hT.2.2.2.2.2.2.2.2.2.2.2.2.2.2.2.2.2.2.2.2.2.2.2.2.2.2.1
theorem t_hid {σ : Sg} (hT : Tie σ) : (∀ c f : Nat, c < 20 → ¬ nI c < σ.1 110 → f < 8 → σ.2.2.1 (64 + c) f = 2) := hT.2.2.2.2.2.2.2.2.2.2.2.2.2.2.2.2.2.2.2.2.2.2.2.2.2.2.2.1
theorem t_seen {σ : Sg} (hT : Tie σ) : (∀ c k : Nat, c < 20 → k < (σ.2.2.1 116 c).toNatClampNeg → σ.2.2.1 169 (5 * c + k) = σ.2.2.1 (96 + c) k) := hT.2.2.2.2.2.2.2.2.2.2.2.2.2.2.2.2.2.2.2.2.2.2.2.2.2.2.2.2.1
theorem t_mono {σ : Sg} (hT : Tie σ) : (∀ i j : Nat, i ≤ j → j < 20 → nI j < σ.1 110 → σ.2.2.1 9 i ≤ σ.2.2.1 9 j) := hT.2.2.2.2.2.2.2.2.2.2.2.2.2.2.2.2.2.2.2.2.2.2.2.2.2.2.2.2.2.1
theorem t_last {σ : Sg} (hT : Tie σ) : (∀ j : Nat, j < 20 → nI j < σ.1 110 → σ.2.2.1 9 j ≤ σ.1 111) := hT.2.2.2.2.2.2.2.2.2.2.2.2.2.2.2.2.2.2.2.2.2.2.2.2.2.2.2.2.2.2.1
theorem t_dayr {σ : Sg} (hT : Tie σ) : inR (σ.1 111) 0 999 := hT.2.2.2.2.2.2.2.2.2.2.2.2.2.2.2.2.2.2.2.2.2.2.2.2.2.2.2.2.2.2.2.1
theorem t_cellr {σ : Sg} (hT : Tie σ) : (∀ l : Nat, l < 8 → inR (σ.2.2.1 94 l) 0 64) := hT.2.2.2.2.2.2.2.2.2.2.2.2.2.2.2.2.2.2.2.2.2.2.2.2.2.2.2.2.2.2.2.2.1
theorem t_pubr {σ : Sg} (hT : Tie σ) : (∀ i : Nat, i < 20 → inR (σ.2.2.1 3 i) 0 4) := hT.2.2.2.2.2.2.2.2.2.2.2.2.2.2.2.2.2.2.2.2.2.2.2.2.2.2.2.2.2.2.2.2.2.1
theorem t_capt {σ : Sg} (hT : Tie σ) : (∀ c i : Nat, c < 20 → i < (σ.2.2.1 11 c).toNatClampNeg → σ.2.2.1 150 (8 * c + i) = byI (σ.2.2.2.1 10 c) (nI i)) := hT.2.2.2.2.2.2.2.2.2.2.2.2.2.2.2.2.2.2.2.2.2.2.2.2.2.2.2.2.2.2.2.2.2.2
theorem tie_w {σ σ2 : Sg} (hT : Tie σ) (h : CoW σ σ2) : Tie σ2 := by
  refine ⟨(h.1 14000 rfl).trans ((t_size hT).trans (h.1 110 rfl).symm), (h.1 14011 rfl).trans ((t_day hT).trans (h.1 111 rfl).symm), (h.1 14013 rfl).trans ((t_asof hT).trans (h.1 112 rfl).symm), (h.1 14012 rfl).trans ((t_slack hT).trans (h.1 1204 rfl).symm), (h.1 14014 rfl).trans ((t_base hT).trans (h.1 9 rfl).symm), (h.1 14025 rfl).trans ((t_laters hT).trans (h.1 5809 rfl).symm), (h.1 14037 rfl).trans ((t_bytes hT).trans (h.1 11701 rfl).symm), (h.2.2.1 141 rfl).trans ((t_list hT).trans (h.2.2.1 2 rfl).symm), (h.2.2.1 142 rfl).trans ((t_publ hT).trans (h.2.2.1 3 rfl).symm), (h.2.2.1 143 rfl).trans ((t_numb hT).trans (h.2.2.1 4 rfl).symm), (h.2.2.1 144 rfl).trans ((t_back hT).trans (h.2.2.1 5 rfl).symm), (h.2.2.1 146 rfl).trans ((t_sky hT).trans (h.2.2.1 7 rfl).symm), (h.2.2.1 147 rfl).trans ((t_post hT).trans (h.2.2.1 8 rfl).symm), (h.2.2.1 148 rfl).trans ((t_told hT).trans (h.2.2.1 9 rfl).symm), (h.2.2.1 149 rfl).trans ((t_lett hT).trans (h.2.2.1 11 rfl).symm), (h.2.2.1 156 rfl).trans ((t_ffr hT).trans (h.2.2.1 59 rfl).symm), (h.2.2.1 157 rfl).trans ((t_fto hT).trans (h.2.2.1 60 rfl).symm), (h.2.2.1 159 rfl).trans ((t_bfr hT).trans (h.2.2.1 61 rfl).symm), (h.2.2.1 160 rfl).trans ((t_bto hT).trans (h.2.2.1 62 rfl).symm), (h.2.2.1 161 rfl).trans ((t_late hT).trans (h.2.2.1 84 rfl).symm), (h.2.2.1 162 rfl).trans ((t_earl hT).trans (h.2.2.1 85 rfl).symm), (h.2.2.1 167 rfl).trans ((t_cell hT).trans (h.2.2.1 94 rfl).symm), (h.2.2.1 168 rfl).trans ((t_views hT).trans (h.2.2.1 116 rfl).symm), (h.2.2.1 170 rfl).trans ((t_text hT).trans (h.2.2.1 118 rfl).symm), (h.2.2.2.1 145).trans ((t_pict hT).trans (h.2.2.2.1 6).symm), (h.2.1 14034 rfl).trans ((t_wall hT).trans (h.2.1 9301 rfl).symm), (fun c f hc hs hf => by rw [h.1 110 rfl] at hs; rw [h.2.2.1 158 rfl, h.2.2.1 (64 + c) (swA_64 hc)]; exact t_shown hT c f hc hs hf), (fun c f hc hs hf => by rw [h.1 110 rfl] at hs; rw [h.2.2.1 (64 + c) (swA_64 hc)]; exact t_hid hT c f hc hs hf), (fun c k hc hk => by rw [h.2.2.1 116 rfl] at hk; rw [h.2.2.1 169 rfl, h.2.2.1 (96 + c) (swA_96 hc)]; exact t_seen hT c k hc hk), (fun i j hij hj hs => by rw [h.1 110 rfl] at hs; rw [h.2.2.1 9 rfl]; exact t_mono hT i j hij hj hs), (fun j hj hs => by rw [h.1 110 rfl] at hs; rw [h.2.2.1 9 rfl, h.1 111 rfl]; exact t_last hT j hj hs), (by rw [h.1 111 rfl]; exact t_dayr hT), (fun l hl => by rw [h.2.2.1 94 rfl]; exact t_cellr hT l hl), (fun i hi => by rw [h.2.2.1 3 rfl]; exact t_pubr hT i hi), (fun c i hc hi => by rw [h.2.2.1 11 rfl] at hi; rw [h.2.2.1 150 rfl, h.2.2.2.1 10]; exact t_capt hT c i hc hi)⟩
theorem tie_cor {σ σ2 : Sg} (hT : Tie σ) (h : Cor σ σ2) : Tie σ2 := tie_w hT (cor_w h)
theorem tmr_lo {n a : Int32} {f : Nat → Int32} : ∀ q j0 : Nat, j0 ≤ tmr n a f q j0 := by
  intro q
  induction q with
  | zero => intro j0; exact Nat.le_refl _
  | succ q ih =>
    intro j0
    unfold tmr
    split
    · have := ih (j0 + 1); omega
    · exact Nat.le_refl _
theorem tmr_all {n a : Int32} {f : Nat → Int32} : ∀ (q j0 k : Nat), j0 ≤ k → k < tmr n a f q j0 → nI k < n ∧ f k ≤ a := by
  intro q
  induction q with
  | zero => intro j0 k h1 h2; unfold tmr at h2; omega
  | succ q ih =>
    intro j0 k h1 h2
    unfold tmr at h2
    split at h2
    · by_cases e : k = j0
      · subst e; assumption
      · exact ih (j0 + 1) k (by omega) h2
    · omega
theorem tmr_ge {n a : Int32} {f : Nat → Int32} : ∀ (q j0 m : Nat), j0 ≤ m → m ≤ j0 + q → (∀ k, j0 ≤ k → k < m → nI k < n ∧ f k ≤ a) → m ≤ tmr n a f q j0 := by
  intro q
  induction q with
  | zero => intro j0 m h0 h1 h2; unfold tmr; omega
  | succ q ih =>
    intro j0 m h0 h1 h2
    by_cases e : m = j0
    · subst e; exact tmr_lo _ _
    · unfold tmr
      rw [if_pos (h2 j0 (Nat.le_refl _) (by omega))]
      exact ih (j0 + 1) m (by omega) (by omega) (fun k hk hm => h2 k (by omega) hm)
theorem tm_iff {n a : Int32} {f : Nat → Int32} (hm : ∀ i j : Nat, i ≤ j → j < 20 → nI j < n → f i ≤ f j) {j : Nat} (hj : j < 20) : j < tm n a f ↔ nI j < n ∧ f j ≤ a := by
  constructor
  · intro h; exact tmr_all 20 0 j (Nat.zero_le _) h
  · rintro ⟨h1, h2⟩
    have := tmr_ge (n := n) (a := a) (f := f) 20 0 (j + 1) (by omega) (by omega) (fun k _ hk => ⟨by
      have e1 := ti_lt h1
      rw [nI_toInt (by omega)] at e1
      exact Int32.lt_iff_toInt_lt.mpr (by rw [nI_toInt (by omega)]; omega), Int32.le_trans (hm k j (by omega) hj h1) h2⟩)
    exact this
theorem th_eq {σ : Sg} (hI : Inv σ) (hT : Tie σ) (c : Int32) : thM σ c = thC σ c := by
  have hs := ti_in (iv_110 hI)
  have z20 : (20 : Int32).toInt = 20 := by decide
  have z0 : (0 : Int32).toInt = 0 := by decide
  rw [Bool.eq_iff_iff]
  constructor
  · intro h
    have hr := thM_r h
    have hl := thM_l h
    have hc := clamp19 hr
    rw [t_size hT, t_asof hT, t_told hT] at hl
    obtain ⟨h1, h2⟩ := (tm_iff (fun i j a b d => t_mono hT i j a b d) hc).mp hl
    rw [nI_of_in hr] at h1
    unfold thC
    rw [decide_eq_false hr.1, decide_eq_false (Int32.not_le.mpr h1), decide_eq_false (Int32.not_lt.mpr h2)]
    rfl
  · intro h
    have hr := thC_r hI h
    have hc := clamp19 hr
    unfold thC at h
    simp only [Bool.and_eq_true, Bool.not_eq_true', decide_eq_false_iff_not] at h
    obtain ⟨-, h2, h3⟩ := h
    have hl : c.toNatClampNeg < tm (σ.1 14000) (σ.1 14013) (σ.2.2.1 148) := by
      rw [t_size hT, t_asof hT, t_told hT]
      exact (tm_iff (fun i j a b d => t_mono hT i j a b d) hc).mpr ⟨by rw [nI_of_in hr]; exact Int32.not_le.mp h2, Int32.not_lt.mp h3⟩
    unfold thM
    have ht := tm_le (σ.1 14000) (σ.1 14013) (σ.2.2.1 148)
    refine inB_t (of_ti ?_ ?_)
    · exact (ti_in hr).1
    · rw [tm_dec ht]
      have q : c.toInt.toNat < tm (σ.1 14000) (σ.1 14013) (σ.2.2.1 148) := hl
      omega
theorem thM_at {σ σ2 : Sg} (e1 : σ2.1 14000 = σ.1 14000) (e2 : σ2.1 14013 = σ.1 14013) (e3 : σ2.2.2.1 148 = σ.2.2.1 148) (c : Int32) : thM σ2 c = thM σ c := by
  unfold thM; rw [e1, e2, e3]
theorem thC_s {σ : Sg} {c : Int32} (hI : Inv σ) (h : thC σ c = true) : nI c.toNatClampNeg < σ.1 110 := by
  have hr := thC_r hI h
  rw [nI_of_in hr]
  unfold thC at h
  simp only [Bool.and_eq_true, Bool.not_eq_true', decide_eq_false_iff_not] at h
  exact Int32.not_le.mp h.2.1
theorem day_add {d a : Int32} (hd : inR d 0 999) (h : K_days d a = true) : inR (d + a) 0 999 ∧ d ≤ d + a := by
  unfold K_days at h
  simp only [Bool.and_eq_true, decide_eq_true_eq] at h
  obtain ⟨h1, h2⟩ := h
  have ha := inB_r h1
  have e := ti_add (l := 1) (h := 1098) hd ha (by decide) (by decide)
  have q1 := ti_in hd
  have q2 := ti_in ha
  have z0 : (0 : Int32).toInt = 0 := by decide
  have z1 : (1 : Int32).toInt = 1 := by decide
  exact ⟨⟨fun q => by have := ti_lt q; omega, Int32.not_lt.mpr h2⟩, Int32.le_iff_toInt_le.mpr (by omega)⟩
theorem idx8 {c f : Int32} (hc : inR c 0 19) (hf : inR f 0 7) : (8 * c + f).toNatClampNeg = 8 * c.toNatClampNeg + f.toNatClampNeg := by
  obtain ⟨i, hi, rfl⟩ := nI_inR (M := 19) hc (by decide)
  obtain ⟨j, hj, rfl⟩ := nI_inR (M := 7) hf (by decide)
  rw [nI_clamp (by omega), nI_clamp (by omega), show (8 : Int32) * nI i = nI (8 * i) from (Int32.ofNat_mul 8 i).symm, nI_add, nI_clamp (by omega)]
theorem idx5 {c f : Int32} (hc : inR c 0 19) (hf : inR f 0 4) : (5 * c + f).toNatClampNeg = 5 * c.toNatClampNeg + f.toNatClampNeg := by
  obtain ⟨i, hi, rfl⟩ := nI_inR (M := 19) hc (by decide)
  obtain ⟨j, hj, rfl⟩ := nI_inR (M := 4) hf (by decide)
  rw [nI_clamp (by omega), nI_clamp (by omega), show (5 : Int32) * nI i = nI (5 * i) from (Int32.ofNat_mul 5 i).symm, nI_add, nI_clamp (by omega)]
theorem clampM {c : Int32} {M : Nat} (h : inR c 0 (nI M)) (hM : M < 2 ^ 31) : c.toNatClampNeg ≤ M := by
  obtain ⟨j, hj, rfl⟩ := nI_inR h hM
  rw [nI_clamp (by omega)]
  exact hj
theorem clamp7 {c : Int32} (h : inR c 0 7) : c.toNatClampNeg < 8 := Nat.lt_succ_of_le (clampM (M := 7) h (by decide))
theorem clamp8 {c : Int32} (h : inR c 0 8) : c.toNatClampNeg ≤ 8 := clampM (M := 8) h (by decide)
theorem clamp5 {c : Int32} (h : inR c 0 5) : c.toNatClampNeg ≤ 5 := clampM (M := 5) h (by decide)
theorem clamp4 {c : Int32} (h : inR c 0 4) : c.toNatClampNeg ≤ 4 := clampM (M := 4) h (by decide)
theorem clamp_s {c : Int32} (h : inR c 0 4) : (c + 1).toNatClampNeg = c.toNatClampNeg + 1 := by
  obtain ⟨j, hj, rfl⟩ := nI_inR (M := 4) h (by decide)
  rw [nI_1, nI_clamp (by omega), nI_clamp (by omega)]
theorem updL_at (f : Nat → Int64) (i : Nat) (v : Int64) : vp_updL f i v i = v := by unfold vp_updL; rw [if_pos rfl]
theorem updL_ne {f : Nat → Int64} {i j : Nat} (v : Int64) (h : ¬ j = i) : vp_updL f i v j = f j := by unfold vp_updL; rw [if_neg h]
theorem idx8n {c : Int32} (hc : inR c 0 19) {k : Nat} (hk : k < 8) : (8 * c + nI k).toNatClampNeg = 8 * c.toNatClampNeg + k := by
  have h := idx8 hc (f := nI k) (inR_nI (M := 7) (by omega) (by decide))
  rw [h, nI_clamp (by omega)]
theorem cpT_ne {f : Nat → Int32} {c : Int32} {p : Int64} (hc : inR c 0 19) {x : Nat} : ∀ {n : Nat}, n ≤ 8 → (∀ k, k < n → ¬ x = 8 * c.toNatClampNeg + k) → cpT f c p n x = f x := by
  intro n
  induction n with
  | zero => intro _ _; rfl
  | succ n ih =>
    intro hn h
    show upd (cpT f c p n) ((8 * c + nI n).toNatClampNeg) _ x = _
    rw [idx8n hc (by omega), upd_ne _ (h n (by omega))]
    exact ih (by omega) (fun k hk => h k (by omega))
theorem cpT_at {f : Nat → Int32} {c : Int32} {p : Int64} (hc : inR c 0 19) {i : Nat} : ∀ {n : Nat}, n ≤ 8 → i < n → cpT f c p n (8 * c.toNatClampNeg + i) = byI p (nI i) := by
  intro n
  induction n with
  | zero => intro _ h; omega
  | succ n ih =>
    intro hn h
    show upd (cpT f c p n) ((8 * c + nI n).toNatClampNeg) _ _ = _
    rw [idx8n hc (by omega)]
    by_cases e : i = n
    · subst e; rw [upd_at]
    · rw [upd_ne _ (by omega)]; exact ih (by omega) (by omega)
theorem shT_ne {f : Nat → Int32} {c : Int32} (hc : inR c 0 19) {x : Nat} (h : ∀ k, k < 8 → ¬ x = 8 * c.toNatClampNeg + k) : shT f c 8 x = f x := by
  have : ∀ n : Nat, n ≤ 8 → shT f c n x = f x := by
    intro n
    induction n with
    | zero => intro _; rfl
    | succ n ih =>
      intro hn
      show upd (shT f c n) ((8 * c + nI n).toNatClampNeg) _ x = _
      rw [idx8n hc (by omega), upd_ne _ (h n (by omega))]
      exact ih (by omega)
  exact this 8 (Nat.le_refl _)
theorem shT_at {f : Nat → Int32} {c : Int32} (hc : inR c 0 19) {i : Nat} (hi : i < 8) : shT f c 8 (8 * c.toNatClampNeg + i) = 2 := by
  have : ∀ n : Nat, n ≤ 8 → i < n → shT f c n (8 * c.toNatClampNeg + i) = 2 := by
    intro n
    induction n with
    | zero => intro _ h; omega
    | succ n ih =>
      intro hn h
      show upd (shT f c n) ((8 * c + nI n).toNatClampNeg) _ _ = _
      rw [idx8n hc (by omega)]
      by_cases e : i = n
      · subst e; rw [upd_at]
      · rw [upd_ne _ (by omega)]; exact ih (by omega) (by omega)
  exact this 8 (Nat.le_refl _) hi
/-! the cards there are one more -/
theorem size_ti {z : Int32} (h : inR z 0 19) : (z + 1).toInt = z.toInt + 1 := ti_add (l := 1) (h := 20) h (inR_self 1) (by decide) (by decide)
theorem size_s {z : Int32} (h : inR z 0 19) {d : Nat} (hd : d < 20) (hs : nI d < z + 1) : d ≤ z.toNatClampNeg := by
  have h1 := ti_lt hs
  rw [size_ti h, nI_toInt (by omega)] at h1
  show d ≤ z.toInt.toNat
  omega
theorem size_l {z : Int32} (h : inR z 0 19) {d : Nat} (hd : d < 20) (hs : d < z.toNatClampNeg) : nI d < z := by
  have hs2 : d < z.toInt.toNat := hs
  exact Int32.lt_iff_toInt_lt.mpr (by rw [nI_toInt (by omega)]; omega)
theorem size_up {z : Int32} (h : inR z 0 19) {d : Nat} (hs : nI d < z) : nI d < z + 1 := by
  have h1 := ti_lt hs
  exact Int32.lt_iff_toInt_lt.mpr (by rw [size_ti h]; omega)
theorem ev_116 {σ : Sg} {c l9 : Int32} (hc : inR c 0 19) : (E_X8_view σ c l9).2.2.1 116 = upd (σ.2.2.1 116) (Int32.toNatClampNeg c) ((σ.2.2.1 116 (Int32.toNatClampNeg c)) + 1) := by
  have h := clamp19 hc
  show upd (va_up σ.2.2.1 (96 + (Int32.toNatClampNeg c)) _ 116) _ _ = _
  rw [up_ne _ (by omega)]
theorem lm_kr {a b : Int32} (h : K_landmark a b = true) : inR b 0 64 := by
  unfold K_landmark at h
  simp only [Bool.and_eq_true] at h
  exact inB_r h.2
set_option maxRecDepth 100000 in
theorem kr_X8_card_64 (σ : Sg) (a b n k : Int32) (p : Int64) (s t : Int32) : ∀ r : Nat, r < 20 → (E_X8_card σ a b n k p s t).2.2.1 (64 + r) = σ.2.2.1 (64 + r)
  | 0, _ => rfl
  | 1, _ => rfl
  | 2, _ => rfl
  | 3, _ => rfl
  | 4, _ => rfl
  | 5, _ => rfl
  | 6, _ => rfl
  | 7, _ => rfl
  | 8, _ => rfl
  | 9, _ => rfl
  | 10, _ => rfl
  | 11, _ => rfl
  | 12, _ => rfl
  | 13, _ => rfl
  | 14, _ => rfl
  | 15, _ => rfl
  | 16, _ => rfl
  | 17, _ => rfl
  | 18, _ => rfl
  | 19, _ => rfl
  | r + 20, h => absurd h (by omega)
set_option maxRecDepth 100000 in
theorem kr_X8_card_96 (σ : Sg) (a b n k : Int32) (p : Int64) (s t : Int32) : ∀ r : Nat, r < 20 → (E_X8_card σ a b n k p s t).2.2.1 (96 + r) = σ.2.2.1 (96 + r)
  | 0, _ => rfl
  | 1, _ => rfl
  | 2, _ => rfl
  | 3, _ => rfl
  | 4, _ => rfl
  | 5, _ => rfl
  | 6, _ => rfl
  | 7, _ => rfl
  | 8, _ => rfl
  | 9, _ => rfl
  | 10, _ => rfl
  | 11, _ => rfl
  | 12, _ => rfl
  | 13, _ => rfl
  | 14, _ => rfl
  | 15, _ => rfl
  | 16, _ => rfl
  | 17, _ => rfl
  | 18, _ => rfl
  | 19, _ => rfl
  | r + 20, h => absurd h (by omega)
set_option maxRecDepth 100000 in
theorem kr_X8_caption_64 (σ : Sg) (c : Int32) (p : Int64) (n : Int32) : ∀ r : Nat, r < 20 → (E_X8_caption σ c p n).2.2.1 (64 + r) = σ.2.2.1 (64 + r)
  | 0, _ => rfl
  | 1, _ => rfl
  | 2, _ => rfl
  | 3, _ => rfl
  | 4, _ => rfl
  | 5, _ => rfl
  | 6, _ => rfl
  | 7, _ => rfl
  | 8, _ => rfl
  | 9, _ => rfl
  | 10, _ => rfl
  | 11, _ => rfl
  | 12, _ => rfl
  | 13, _ => rfl
  | 14, _ => rfl
  | 15, _ => rfl
  | 16, _ => rfl
  | 17, _ => rfl
  | 18, _ => rfl
  | 19, _ => rfl
  | r + 20, h => absurd h (by omega)
set_option maxRecDepth 100000 in
theorem kr_X8_caption_96 (σ : Sg) (c : Int32) (p : Int64) (n : Int32) : ∀ r : Nat, r < 20 → (E_X8_caption σ c p n).2.2.1 (96 + r) = σ.2.2.1 (96 + r)
  | 0, _ => rfl
  | 1, _ => rfl
  | 2, _ => rfl
  | 3, _ => rfl
  | 4, _ => rfl
  | 5, _ => rfl
  | 6, _ => rfl
  | 7, _ => rfl
  | 8, _ => rfl
  | 9, _ => rfl
  | 10, _ => rfl
  | 11, _ => rfl
  | 12, _ => rfl
  | 13, _ => rfl
  | 14, _ => rfl
  | 15, _ => rfl
  | 16, _ => rfl
  | 17, _ => rfl
  | 18, _ => rfl
  | 19, _ => rfl
  | r + 20, h => absurd h (by omega)
set_option maxRecDepth 100000 in
theorem kr_X8_days_64 (σ : Sg) (a : Int32) : ∀ r : Nat, r < 20 → (E_X8_days σ a).2.2.1 (64 + r) = σ.2.2.1 (64 + r)
  | 0, _ => rfl
  | 1, _ => rfl
  | 2, _ => rfl
  | 3, _ => rfl
  | 4, _ => rfl
  | 5, _ => rfl
  | 6, _ => rfl
  | 7, _ => rfl
  | 8, _ => rfl
  | 9, _ => rfl
  | 10, _ => rfl
  | 11, _ => rfl
  | 12, _ => rfl
  | 13, _ => rfl
  | 14, _ => rfl
  | 15, _ => rfl
  | 16, _ => rfl
  | 17, _ => rfl
  | 18, _ => rfl
  | 19, _ => rfl
  | r + 20, h => absurd h (by omega)
set_option maxRecDepth 100000 in
theorem kr_X8_days_96 (σ : Sg) (a : Int32) : ∀ r : Nat, r < 20 → (E_X8_days σ a).2.2.1 (96 + r) = σ.2.2.1 (96 + r)
  | 0, _ => rfl
  | 1, _ => rfl
  | 2, _ => rfl
  | 3, _ => rfl
  | 4, _ => rfl
  | 5, _ => rfl
  | 6, _ => rfl
  | 7, _ => rfl
  | 8, _ => rfl
  | 9, _ => rfl
  | 10, _ => rfl
  | 11, _ => rfl
  | 12, _ => rfl
  | 13, _ => rfl
  | 14, _ => rfl
  | 15, _ => rfl
  | 16, _ => rfl
  | 17, _ => rfl
  | 18, _ => rfl
  | 19, _ => rfl
  | r + 20, h => absurd h (by omega)
set_option maxRecDepth 100000 in
theorem kr_X8_feature_64 (σ : Sg) (f a b : Int32) : ∀ r : Nat, r < 20 → (E_X8_feature σ f a b).2.2.1 (64 + r) = σ.2.2.1 (64 + r)
  | 0, _ => rfl
  | 1, _ => rfl
  | 2, _ => rfl
  | 3, _ => rfl
  | 4, _ => rfl
  | 5, _ => rfl
  | 6, _ => rfl
  | 7, _ => rfl
  | 8, _ => rfl
  | 9, _ => rfl
  | 10, _ => rfl
  | 11, _ => rfl
  | 12, _ => rfl
  | 13, _ => rfl
  | 14, _ => rfl
  | 15, _ => rfl
  | 16, _ => rfl
  | 17, _ => rfl
  | 18, _ => rfl
  | 19, _ => rfl
  | r + 20, h => absurd h (by omega)
set_option maxRecDepth 100000 in
theorem kr_X8_feature_96 (σ : Sg) (f a b : Int32) : ∀ r : Nat, r < 20 → (E_X8_feature σ f a b).2.2.1 (96 + r) = σ.2.2.1 (96 + r)
  | 0, _ => rfl
  | 1, _ => rfl
  | 2, _ => rfl
  | 3, _ => rfl
  | 4, _ => rfl
  | 5, _ => rfl
  | 6, _ => rfl
  | 7, _ => rfl
  | 8, _ => rfl
  | 9, _ => rfl
  | 10, _ => rfl
  | 11, _ => rfl
  | 12, _ => rfl
  | 13, _ => rfl
  | 14, _ => rfl
  | 15, _ => rfl
  | 16, _ => rfl
  | 17, _ => rfl
  | 18, _ => rfl
  | 19, _ => rfl
  | r + 20, h => absurd h (by omega)
set_option maxRecDepth 100000 in
theorem kr_X8_back_64 (σ : Sg) (f a b : Int32) : ∀ r : Nat, r < 20 → (E_X8_back σ f a b).2.2.1 (64 + r) = σ.2.2.1 (64 + r)
  | 0, _ => rfl
  | 1, _ => rfl
  | 2, _ => rfl
  | 3, _ => rfl
  | 4, _ => rfl
  | 5, _ => rfl
  | 6, _ => rfl
  | 7, _ => rfl
  | 8, _ => rfl
  | 9, _ => rfl
  | 10, _ => rfl
  | 11, _ => rfl
  | 12, _ => rfl
  | 13, _ => rfl
  | 14, _ => rfl
  | 15, _ => rfl
  | 16, _ => rfl
  | 17, _ => rfl
  | 18, _ => rfl
  | 19, _ => rfl
  | r + 20, h => absurd h (by omega)
set_option maxRecDepth 100000 in
theorem kr_X8_back_96 (σ : Sg) (f a b : Int32) : ∀ r : Nat, r < 20 → (E_X8_back σ f a b).2.2.1 (96 + r) = σ.2.2.1 (96 + r)
  | 0, _ => rfl
  | 1, _ => rfl
  | 2, _ => rfl
  | 3, _ => rfl
  | 4, _ => rfl
  | 5, _ => rfl
  | 6, _ => rfl
  | 7, _ => rfl
  | 8, _ => rfl
  | 9, _ => rfl
  | 10, _ => rfl
  | 11, _ => rfl
  | 12, _ => rfl
  | 13, _ => rfl
  | 14, _ => rfl
  | 15, _ => rfl
  | 16, _ => rfl
  | 17, _ => rfl
  | 18, _ => rfl
  | 19, _ => rfl
  | r + 20, h => absurd h (by omega)
set_option maxRecDepth 100000 in
theorem kr_X8_landmark_64 (σ : Sg) (a b : Int32) : ∀ r : Nat, r < 20 → (E_X8_landmark σ a b).2.2.1 (64 + r) = σ.2.2.1 (64 + r)
  | 0, _ => rfl
  | 1, _ => rfl
  | 2, _ => rfl
  | 3, _ => rfl
  | 4, _ => rfl
  | 5, _ => rfl
  | 6, _ => rfl
  | 7, _ => rfl
  | 8, _ => rfl
  | 9, _ => rfl
  | 10, _ => rfl
  | 11, _ => rfl
  | 12, _ => rfl
  | 13, _ => rfl
  | 14, _ => rfl
  | 15, _ => rfl
  | 16, _ => rfl
  | 17, _ => rfl
  | 18, _ => rfl
  | 19, _ => rfl
  | r + 20, h => absurd h (by omega)
set_option maxRecDepth 100000 in
theorem kr_X8_landmark_96 (σ : Sg) (a b : Int32) : ∀ r : Nat, r < 20 → (E_X8_landmark σ a b).2.2.1 (96 + r) = σ.2.2.1 (96 + r)
  | 0, _ => rfl
  | 1, _ => rfl
  | 2, _ => rfl
  | 3, _ => rfl
  | 4, _ => rfl
  | 5, _ => rfl
  | 6, _ => rfl
  | 7, _ => rfl
  | 8, _ => rfl
  | 9, _ => rfl
  | 10, _ => rfl
  | 11, _ => rfl
  | 12, _ => rfl
  | 13, _ => rfl
  | 14, _ => rfl
  | 15, _ => rfl
  | 16, _ => rfl
  | 17, _ => rfl
  | 18, _ => rfl
  | 19, _ => rfl
  | r + 20, h => absurd h (by omega)
set_option maxRecDepth 100000 in
theorem kr_X8_walls_64 (σ : Sg) (a : Int64) : ∀ r : Nat, r < 20 → (E_X8_walls σ a).2.2.1 (64 + r) = σ.2.2.1 (64 + r)
  | 0, _ => rfl
  | 1, _ => rfl
  | 2, _ => rfl
  | 3, _ => rfl
  | 4, _ => rfl
  | 5, _ => rfl
  | 6, _ => rfl
  | 7, _ => rfl
  | 8, _ => rfl
  | 9, _ => rfl
  | 10, _ => rfl
  | 11, _ => rfl
  | 12, _ => rfl
  | 13, _ => rfl
  | 14, _ => rfl
  | 15, _ => rfl
  | 16, _ => rfl
  | 17, _ => rfl
  | 18, _ => rfl
  | 19, _ => rfl
  | r + 20, h => absurd h (by omega)
set_option maxRecDepth 100000 in
theorem kr_X8_walls_96 (σ : Sg) (a : Int64) : ∀ r : Nat, r < 20 → (E_X8_walls σ a).2.2.1 (96 + r) = σ.2.2.1 (96 + r)
  | 0, _ => rfl
  | 1, _ => rfl
  | 2, _ => rfl
  | 3, _ => rfl
  | 4, _ => rfl
  | 5, _ => rfl
  | 6, _ => rfl
  | 7, _ => rfl
  | 8, _ => rfl
  | 9, _ => rfl
  | 10, _ => rfl
  | 11, _ => rfl
  | 12, _ => rfl
  | 13, _ => rfl
  | 14, _ => rfl
  | 15, _ => rfl
  | 16, _ => rfl
  | 17, _ => rfl
  | 18, _ => rfl
  | 19, _ => rfl
  | r + 20, h => absurd h (by omega)
theorem kr_X8_shows_96 (σ : Sg) (c f v : Int32) (hc : inR c 0 19) : ∀ r : Nat, r < 20 → (E_X8_shows σ c f v).2.2.1 (96 + r) = σ.2.2.1 (96 + r) := by
  intro r hr
  have h9 := clamp19 hc
  unfold E_X8_shows
  show va_up σ.2.2.1 (64 + (Int32.toNatClampNeg c)) _ (96 + r) = _
  rw [up_ne _ (by omega)]
set_option maxRecDepth 100000 in
theorem kr_X8_later_64 (σ : Sg) (a b : Int32) : ∀ r : Nat, r < 20 → (E_X8_later σ a b).2.2.1 (64 + r) = σ.2.2.1 (64 + r)
  | 0, _ => rfl
  | 1, _ => rfl
  | 2, _ => rfl
  | 3, _ => rfl
  | 4, _ => rfl
  | 5, _ => rfl
  | 6, _ => rfl
  | 7, _ => rfl
  | 8, _ => rfl
  | 9, _ => rfl
  | 10, _ => rfl
  | 11, _ => rfl
  | 12, _ => rfl
  | 13, _ => rfl
  | 14, _ => rfl
  | 15, _ => rfl
  | 16, _ => rfl
  | 17, _ => rfl
  | 18, _ => rfl
  | 19, _ => rfl
  | r + 20, h => absurd h (by omega)
set_option maxRecDepth 100000 in
theorem kr_X8_later_96 (σ : Sg) (a b : Int32) : ∀ r : Nat, r < 20 → (E_X8_later σ a b).2.2.1 (96 + r) = σ.2.2.1 (96 + r)
  | 0, _ => rfl
  | 1, _ => rfl
  | 2, _ => rfl
  | 3, _ => rfl
  | 4, _ => rfl
  | 5, _ => rfl
  | 6, _ => rfl
  | 7, _ => rfl
  | 8, _ => rfl
  | 9, _ => rfl
  | 10, _ => rfl
  | 11, _ => rfl
  | 12, _ => rfl
  | 13, _ => rfl
  | 14, _ => rfl
  | 15, _ => rfl
  | 16, _ => rfl
  | 17, _ => rfl
  | 18, _ => rfl
  | 19, _ => rfl
  | r + 20, h => absurd h (by omega)
set_option maxRecDepth 100000 in
theorem kr_X8_unview_64 (σ : Sg) (c : Int32) : ∀ r : Nat, r < 20 → (E_X8_unview σ c).2.2.1 (64 + r) = σ.2.2.1 (64 + r)
  | 0, _ => rfl
  | 1, _ => rfl
  | 2, _ => rfl
  | 3, _ => rfl
  | 4, _ => rfl
  | 5, _ => rfl
  | 6, _ => rfl
  | 7, _ => rfl
  | 8, _ => rfl
  | 9, _ => rfl
  | 10, _ => rfl
  | 11, _ => rfl
  | 12, _ => rfl
  | 13, _ => rfl
  | 14, _ => rfl
  | 15, _ => rfl
  | 16, _ => rfl
  | 17, _ => rfl
  | 18, _ => rfl
  | 19, _ => rfl
  | r + 20, h => absurd h (by omega)
set_option maxRecDepth 100000 in
theorem kr_X8_unview_96 (σ : Sg) (c : Int32) : ∀ r : Nat, r < 20 → (E_X8_unview σ c).2.2.1 (96 + r) = σ.2.2.1 (96 + r)
  | 0, _ => rfl
  | 1, _ => rfl
  | 2, _ => rfl
  | 3, _ => rfl
  | 4, _ => rfl
  | 5, _ => rfl
  | 6, _ => rfl
  | 7, _ => rfl
  | 8, _ => rfl
  | 9, _ => rfl
  | 10, _ => rfl
  | 11, _ => rfl
  | 12, _ => rfl
  | 13, _ => rfl
  | 14, _ => rfl
  | 15, _ => rfl
  | 16, _ => rfl
  | 17, _ => rfl
  | 18, _ => rfl
  | 19, _ => rfl
  | r + 20, h => absurd h (by omega)
theorem kr_X8_view_64 (σ : Sg) (c l9 : Int32) (hc : inR c 0 19) : ∀ r : Nat, r < 20 → (E_X8_view σ c l9).2.2.1 (64 + r) = σ.2.2.1 (64 + r) := by
  intro r hr
  have h9 := clamp19 hc
  unfold E_X8_view
  show va_up (va_up σ.2.2.1 (96 + (Int32.toNatClampNeg c)) _) 116 _ (64 + r) = _
  rw [up_ne _ (by omega), up_ne _ (by omega)]
set_option maxRecDepth 100000 in
theorem kr_X8_write_64 (σ : Sg) (p : Int64) (n : Int32) : ∀ r : Nat, r < 20 → (E_X8_write σ p n).2.2.1 (64 + r) = σ.2.2.1 (64 + r)
  | 0, _ => rfl
  | 1, _ => rfl
  | 2, _ => rfl
  | 3, _ => rfl
  | 4, _ => rfl
  | 5, _ => rfl
  | 6, _ => rfl
  | 7, _ => rfl
  | 8, _ => rfl
  | 9, _ => rfl
  | 10, _ => rfl
  | 11, _ => rfl
  | 12, _ => rfl
  | 13, _ => rfl
  | 14, _ => rfl
  | 15, _ => rfl
  | 16, _ => rfl
  | 17, _ => rfl
  | 18, _ => rfl
  | 19, _ => rfl
  | r + 20, h => absurd h (by omega)
set_option maxRecDepth 100000 in
theorem kr_X8_write_96 (σ : Sg) (p : Int64) (n : Int32) : ∀ r : Nat, r < 20 → (E_X8_write σ p n).2.2.1 (96 + r) = σ.2.2.1 (96 + r)
  | 0, _ => rfl
  | 1, _ => rfl
  | 2, _ => rfl
  | 3, _ => rfl
  | 4, _ => rfl
  | 5, _ => rfl
  | 6, _ => rfl
  | 7, _ => rfl
  | 8, _ => rfl
  | 9, _ => rfl
  | 10, _ => rfl
  | 11, _ => rfl
  | 12, _ => rfl
  | 13, _ => rfl
  | 14, _ => rfl
  | 15, _ => rfl
  | 16, _ => rfl
  | 17, _ => rfl
  | 18, _ => rfl
  | 19, _ => rfl
  | r + 20, h => absurd h (by omega)
set_option maxRecDepth 100000 in
theorem kr_X8_erase_64 (σ : Sg)  : ∀ r : Nat, r < 20 → (E_X8_erase σ).2.2.1 (64 + r) = σ.2.2.1 (64 + r)
  | 0, _ => rfl
  | 1, _ => rfl
  | 2, _ => rfl
  | 3, _ => rfl
  | 4, _ => rfl
  | 5, _ => rfl
  | 6, _ => rfl
  | 7, _ => rfl
  | 8, _ => rfl
  | 9, _ => rfl
  | 10, _ => rfl
  | 11, _ => rfl
  | 12, _ => rfl
  | 13, _ => rfl
  | 14, _ => rfl
  | 15, _ => rfl
  | 16, _ => rfl
  | 17, _ => rfl
  | 18, _ => rfl
  | 19, _ => rfl
  | r + 20, h => absurd h (by omega)
set_option maxRecDepth 100000 in
theorem kr_X8_erase_96 (σ : Sg)  : ∀ r : Nat, r < 20 → (E_X8_erase σ).2.2.1 (96 + r) = σ.2.2.1 (96 + r)
  | 0, _ => rfl
  | 1, _ => rfl
  | 2, _ => rfl
  | 3, _ => rfl
  | 4, _ => rfl
  | 5, _ => rfl
  | 6, _ => rfl
  | 7, _ => rfl
  | 8, _ => rfl
  | 9, _ => rfl
  | 10, _ => rfl
  | 11, _ => rfl
  | 12, _ => rfl
  | 13, _ => rfl
  | 14, _ => rfl
  | 15, _ => rfl
  | 16, _ => rfl
  | 17, _ => rfl
  | 18, _ => rfl
  | 19, _ => rfl
  | r + 20, h => absurd h (by omega)
set_option maxRecDepth 100000 in
theorem kr_X9_card_64 (σ : Sg) (a b n k : Int32) (p : Int64) (s t : Int32) : ∀ r : Nat, r < 20 → (E_X9_card σ a b n k p s t).2.2.1 (64 + r) = σ.2.2.1 (64 + r)
  | 0, _ => rfl
  | 1, _ => rfl
  | 2, _ => rfl
  | 3, _ => rfl
  | 4, _ => rfl
  | 5, _ => rfl
  | 6, _ => rfl
  | 7, _ => rfl
  | 8, _ => rfl
  | 9, _ => rfl
  | 10, _ => rfl
  | 11, _ => rfl
  | 12, _ => rfl
  | 13, _ => rfl
  | 14, _ => rfl
  | 15, _ => rfl
  | 16, _ => rfl
  | 17, _ => rfl
  | 18, _ => rfl
  | 19, _ => rfl
  | r + 20, h => absurd h (by omega)
set_option maxRecDepth 100000 in
theorem kr_X9_card_96 (σ : Sg) (a b n k : Int32) (p : Int64) (s t : Int32) : ∀ r : Nat, r < 20 → (E_X9_card σ a b n k p s t).2.2.1 (96 + r) = σ.2.2.1 (96 + r)
  | 0, _ => rfl
  | 1, _ => rfl
  | 2, _ => rfl
  | 3, _ => rfl
  | 4, _ => rfl
  | 5, _ => rfl
  | 6, _ => rfl
  | 7, _ => rfl
  | 8, _ => rfl
  | 9, _ => rfl
  | 10, _ => rfl
  | 11, _ => rfl
  | 12, _ => rfl
  | 13, _ => rfl
  | 14, _ => rfl
  | 15, _ => rfl
  | 16, _ => rfl
  | 17, _ => rfl
  | 18, _ => rfl
  | 19, _ => rfl
  | r + 20, h => absurd h (by omega)
set_option maxRecDepth 100000 in
theorem kr_X9_caption_64 (σ : Sg) (c : Int32) (p : Int64) (n : Int32) : ∀ r : Nat, r < 20 → (E_X9_caption σ c p n).2.2.1 (64 + r) = σ.2.2.1 (64 + r)
  | 0, _ => rfl
  | 1, _ => rfl
  | 2, _ => rfl
  | 3, _ => rfl
  | 4, _ => rfl
  | 5, _ => rfl
  | 6, _ => rfl
  | 7, _ => rfl
  | 8, _ => rfl
  | 9, _ => rfl
  | 10, _ => rfl
  | 11, _ => rfl
  | 12, _ => rfl
  | 13, _ => rfl
  | 14, _ => rfl
  | 15, _ => rfl
  | 16, _ => rfl
  | 17, _ => rfl
  | 18, _ => rfl
  | 19, _ => rfl
  | r + 20, h => absurd h (by omega)
set_option maxRecDepth 100000 in
theorem kr_X9_caption_96 (σ : Sg) (c : Int32) (p : Int64) (n : Int32) : ∀ r : Nat, r < 20 → (E_X9_caption σ c p n).2.2.1 (96 + r) = σ.2.2.1 (96 + r)
  | 0, _ => rfl
  | 1, _ => rfl
  | 2, _ => rfl
  | 3, _ => rfl
  | 4, _ => rfl
  | 5, _ => rfl
  | 6, _ => rfl
  | 7, _ => rfl
  | 8, _ => rfl
  | 9, _ => rfl
  | 10, _ => rfl
  | 11, _ => rfl
  | 12, _ => rfl
  | 13, _ => rfl
  | 14, _ => rfl
  | 15, _ => rfl
  | 16, _ => rfl
  | 17, _ => rfl
  | 18, _ => rfl
  | 19, _ => rfl
  | r + 20, h => absurd h (by omega)
set_option maxRecDepth 100000 in
theorem kr_X9_days_64 (σ : Sg) (a : Int32) : ∀ r : Nat, r < 20 → (E_X9_days σ a).2.2.1 (64 + r) = σ.2.2.1 (64 + r)
  | 0, _ => rfl
  | 1, _ => rfl
  | 2, _ => rfl
  | 3, _ => rfl
  | 4, _ => rfl
  | 5, _ => rfl
  | 6, _ => rfl
  | 7, _ => rfl
  | 8, _ => rfl
  | 9, _ => rfl
  | 10, _ => rfl
  | 11, _ => rfl
  | 12, _ => rfl
  | 13, _ => rfl
  | 14, _ => rfl
  | 15, _ => rfl
  | 16, _ => rfl
  | 17, _ => rfl
  | 18, _ => rfl
  | 19, _ => rfl
  | r + 20, h => absurd h (by omega)
set_option maxRecDepth 100000 in
theorem kr_X9_days_96 (σ : Sg) (a : Int32) : ∀ r : Nat, r < 20 → (E_X9_days σ a).2.2.1 (96 + r) = σ.2.2.1 (96 + r)
  | 0, _ => rfl
  | 1, _ => rfl
  | 2, _ => rfl
  | 3, _ => rfl
  | 4, _ => rfl
  | 5, _ => rfl
  | 6, _ => rfl
  | 7, _ => rfl
  | 8, _ => rfl
  | 9, _ => rfl
  | 10, _ => rfl
  | 11, _ => rfl
  | 12, _ => rfl
  | 13, _ => rfl
  | 14, _ => rfl
  | 15, _ => rfl
  | 16, _ => rfl
  | 17, _ => rfl
  | 18, _ => rfl
  | 19, _ => rfl
  | r + 20, h => absurd h (by omega)
set_option maxRecDepth 100000 in
theorem kr_X9_feature_64 (σ : Sg) (f a b : Int32) : ∀ r : Nat, r < 20 → (E_X9_feature σ f a b).2.2.1 (64 + r) = σ.2.2.1 (64 + r)
  | 0, _ => rfl
  | 1, _ => rfl
  | 2, _ => rfl
  | 3, _ => rfl
  | 4, _ => rfl
  | 5, _ => rfl
  | 6, _ => rfl
  | 7, _ => rfl
  | 8, _ => rfl
  | 9, _ => rfl
  | 10, _ => rfl
  | 11, _ => rfl
  | 12, _ => rfl
  | 13, _ => rfl
  | 14, _ => rfl
  | 15, _ => rfl
  | 16, _ => rfl
  | 17, _ => rfl
  | 18, _ => rfl
  | 19, _ => rfl
  | r + 20, h => absurd h (by omega)
set_option maxRecDepth 100000 in
theorem kr_X9_feature_96 (σ : Sg) (f a b : Int32) : ∀ r : Nat, r < 20 → (E_X9_feature σ f a b).2.2.1 (96 + r) = σ.2.2.1 (96 + r)
  | 0, _ => rfl
  | 1, _ => rfl
  | 2, _ => rfl
  | 3, _ => rfl
  | 4, _ => rfl
  | 5, _ => rfl
  | 6, _ => rfl
  | 7, _ => rfl
  | 8, _ => rfl
  | 9, _ => rfl
  | 10, _ => rfl
  | 11, _ => rfl
  | 12, _ => rfl
  | 13, _ => rfl
  | 14, _ => rfl
  | 15, _ => rfl
  | 16, _ => rfl
  | 17, _ => rfl
  | 18, _ => rfl
  | 19, _ => rfl
  | r + 20, h => absurd h (by omega)
set_option maxRecDepth 100000 in
theorem kr_X9_back_64 (σ : Sg) (f a b : Int32) : ∀ r : Nat, r < 20 → (E_X9_back σ f a b).2.2.1 (64 + r) = σ.2.2.1 (64 + r)
  | 0, _ => rfl
  | 1, _ => rfl
  | 2, _ => rfl
  | 3, _ => rfl
  | 4, _ => rfl
  | 5, _ => rfl
  | 6, _ => rfl
  | 7, _ => rfl
  | 8, _ => rfl
  | 9, _ => rfl
  | 10, _ => rfl
  | 11, _ => rfl
  | 12, _ => rfl
  | 13, _ => rfl
  | 14, _ => rfl
  | 15, _ => rfl
  | 16, _ => rfl
  | 17, _ => rfl
  | 18, _ => rfl
  | 19, _ => rfl
  | r + 20, h => absurd h (by omega)
set_option maxRecDepth 100000 in
theorem kr_X9_back_96 (σ : Sg) (f a b : Int32) : ∀ r : Nat, r < 20 → (E_X9_back σ f a b).2.2.1 (96 + r) = σ.2.2.1 (96 + r)
  | 0, _ => rfl
  | 1, _ => rfl
  | 2, _ => rfl
  | 3, _ => rfl
  | 4, _ => rfl
  | 5, _ => rfl
  | 6, _ => rfl
  | 7, _ => rfl
  | 8, _ => rfl
  | 9, _ => rfl
  | 10, _ => rfl
  | 11, _ => rfl
  | 12, _ => rfl
  | 13, _ => rfl
  | 14, _ => rfl
  | 15, _ => rfl
  | 16, _ => rfl
  | 17, _ => rfl
  | 18, _ => rfl
  | 19, _ => rfl
  | r + 20, h => absurd h (by omega)
set_option maxRecDepth 100000 in
theorem kr_X9_landmark_64 (σ : Sg) (a b : Int32) : ∀ r : Nat, r < 20 → (E_X9_landmark σ a b).2.2.1 (64 + r) = σ.2.2.1 (64 + r)
  | 0, _ => rfl
  | 1, _ => rfl
  | 2, _ => rfl
  | 3, _ => rfl
  | 4, _ => rfl
  | 5, _ => rfl
  | 6, _ => rfl
  | 7, _ => rfl
  | 8, _ => rfl
  | 9, _ => rfl
  | 10, _ => rfl
  | 11, _ => rfl
  | 12, _ => rfl
  | 13, _ => rfl
  | 14, _ => rfl
  | 15, _ => rfl
  | 16, _ => rfl
  | 17, _ => rfl
  | 18, _ => rfl
  | 19, _ => rfl
  | r + 20, h => absurd h (by omega)
set_option maxRecDepth 100000 in
theorem kr_X9_landmark_96 (σ : Sg) (a b : Int32) : ∀ r : Nat, r < 20 → (E_X9_landmark σ a b).2.2.1 (96 + r) = σ.2.2.1 (96 + r)
  | 0, _ => rfl
  | 1, _ => rfl
  | 2, _ => rfl
  | 3, _ => rfl
  | 4, _ => rfl
  | 5, _ => rfl
  | 6, _ => rfl
  | 7, _ => rfl
  | 8, _ => rfl
  | 9, _ => rfl
  | 10, _ => rfl
  | 11, _ => rfl
  | 12, _ => rfl
  | 13, _ => rfl
  | 14, _ => rfl
  | 15, _ => rfl
  | 16, _ => rfl
  | 17, _ => rfl
  | 18, _ => rfl
  | 19, _ => rfl
  | r + 20, h => absurd h (by omega)
set_option maxRecDepth 100000 in
theorem kr_X9_walls_64 (σ : Sg) (a : Int64) : ∀ r : Nat, r < 20 → (E_X9_walls σ a).2.2.1 (64 + r) = σ.2.2.1 (64 + r)
  | 0, _ => rfl
  | 1, _ => rfl
  | 2, _ => rfl
  | 3, _ => rfl
  | 4, _ => rfl
  | 5, _ => rfl
  | 6, _ => rfl
  | 7, _ => rfl
  | 8, _ => rfl
  | 9, _ => rfl
  | 10, _ => rfl
  | 11, _ => rfl
  | 12, _ => rfl
  | 13, _ => rfl
  | 14, _ => rfl
  | 15, _ => rfl
  | 16, _ => rfl
  | 17, _ => rfl
  | 18, _ => rfl
  | 19, _ => rfl
  | r + 20, h => absurd h (by omega)
set_option maxRecDepth 100000 in
theorem kr_X9_walls_96 (σ : Sg) (a : Int64) : ∀ r : Nat, r < 20 → (E_X9_walls σ a).2.2.1 (96 + r) = σ.2.2.1 (96 + r)
  | 0, _ => rfl
  | 1, _ => rfl
  | 2, _ => rfl
  | 3, _ => rfl
  | 4, _ => rfl
  | 5, _ => rfl
  | 6, _ => rfl
  | 7, _ => rfl
  | 8, _ => rfl
  | 9, _ => rfl
  | 10, _ => rfl
  | 11, _ => rfl
  | 12, _ => rfl
  | 13, _ => rfl
  | 14, _ => rfl
  | 15, _ => rfl
  | 16, _ => rfl
  | 17, _ => rfl
  | 18, _ => rfl
  | 19, _ => rfl
  | r + 20, h => absurd h (by omega)
set_option maxRecDepth 100000 in
theorem kr_X9_shows_64 (σ : Sg) (c f v : Int32) : ∀ r : Nat, r < 20 → (E_X9_shows σ c f v).2.2.1 (64 + r) = σ.2.2.1 (64 + r)
  | 0, _ => rfl
  | 1, _ => rfl
  | 2, _ => rfl
  | 3, _ => rfl
  | 4, _ => rfl
  | 5, _ => rfl
  | 6, _ => rfl
  | 7, _ => rfl
  | 8, _ => rfl
  | 9, _ => rfl
  | 10, _ => rfl
  | 11, _ => rfl
  | 12, _ => rfl
  | 13, _ => rfl
  | 14, _ => rfl
  | 15, _ => rfl
  | 16, _ => rfl
  | 17, _ => rfl
  | 18, _ => rfl
  | 19, _ => rfl
  | r + 20, h => absurd h (by omega)
set_option maxRecDepth 100000 in
theorem kr_X9_shows_96 (σ : Sg) (c f v : Int32) : ∀ r : Nat, r < 20 → (E_X9_shows σ c f v).2.2.1 (96 + r) = σ.2.2.1 (96 + r)
  | 0, _ => rfl
  | 1, _ => rfl
  | 2, _ => rfl
  | 3, _ => rfl
  | 4, _ => rfl
  | 5, _ => rfl
  | 6, _ => rfl
  | 7, _ => rfl
  | 8, _ => rfl
  | 9, _ => rfl
  | 10, _ => rfl
  | 11, _ => rfl
  | 12, _ => rfl
  | 13, _ => rfl
  | 14, _ => rfl
  | 15, _ => rfl
  | 16, _ => rfl
  | 17, _ => rfl
  | 18, _ => rfl
  | 19, _ => rfl
  | r + 20, h => absurd h (by omega)
set_option maxRecDepth 100000 in
theorem kr_X9_later_64 (σ : Sg) (a b : Int32) : ∀ r : Nat, r < 20 → (E_X9_later σ a b).2.2.1 (64 + r) = σ.2.2.1 (64 + r)
  | 0, _ => rfl
  | 1, _ => rfl
  | 2, _ => rfl
  | 3, _ => rfl
  | 4, _ => rfl
  | 5, _ => rfl
  | 6, _ => rfl
  | 7, _ => rfl
  | 8, _ => rfl
  | 9, _ => rfl
  | 10, _ => rfl
  | 11, _ => rfl
  | 12, _ => rfl
  | 13, _ => rfl
  | 14, _ => rfl
  | 15, _ => rfl
  | 16, _ => rfl
  | 17, _ => rfl
  | 18, _ => rfl
  | 19, _ => rfl
  | r + 20, h => absurd h (by omega)
set_option maxRecDepth 100000 in
theorem kr_X9_later_96 (σ : Sg) (a b : Int32) : ∀ r : Nat, r < 20 → (E_X9_later σ a b).2.2.1 (96 + r) = σ.2.2.1 (96 + r)
  | 0, _ => rfl
  | 1, _ => rfl
  | 2, _ => rfl
  | 3, _ => rfl
  | 4, _ => rfl
  | 5, _ => rfl
  | 6, _ => rfl
  | 7, _ => rfl
  | 8, _ => rfl
  | 9, _ => rfl
  | 10, _ => rfl
  | 11, _ => rfl
  | 12, _ => rfl
  | 13, _ => rfl
  | 14, _ => rfl
  | 15, _ => rfl
  | 16, _ => rfl
  | 17, _ => rfl
  | 18, _ => rfl
  | 19, _ => rfl
  | r + 20, h => absurd h (by omega)
set_option maxRecDepth 100000 in
theorem kr_X9_unview_64 (σ : Sg) (c : Int32) : ∀ r : Nat, r < 20 → (E_X9_unview σ c).2.2.1 (64 + r) = σ.2.2.1 (64 + r)
  | 0, _ => rfl
  | 1, _ => rfl
  | 2, _ => rfl
  | 3, _ => rfl
  | 4, _ => rfl
  | 5, _ => rfl
  | 6, _ => rfl
  | 7, _ => rfl
  | 8, _ => rfl
  | 9, _ => rfl
  | 10, _ => rfl
  | 11, _ => rfl
  | 12, _ => rfl
  | 13, _ => rfl
  | 14, _ => rfl
  | 15, _ => rfl
  | 16, _ => rfl
  | 17, _ => rfl
  | 18, _ => rfl
  | 19, _ => rfl
  | r + 20, h => absurd h (by omega)
set_option maxRecDepth 100000 in
theorem kr_X9_unview_96 (σ : Sg) (c : Int32) : ∀ r : Nat, r < 20 → (E_X9_unview σ c).2.2.1 (96 + r) = σ.2.2.1 (96 + r)
  | 0, _ => rfl
  | 1, _ => rfl
  | 2, _ => rfl
  | 3, _ => rfl
  | 4, _ => rfl
  | 5, _ => rfl
  | 6, _ => rfl
  | 7, _ => rfl
  | 8, _ => rfl
  | 9, _ => rfl
  | 10, _ => rfl
  | 11, _ => rfl
  | 12, _ => rfl
  | 13, _ => rfl
  | 14, _ => rfl
  | 15, _ => rfl
  | 16, _ => rfl
  | 17, _ => rfl
  | 18, _ => rfl
  | 19, _ => rfl
  | r + 20, h => absurd h (by omega)
set_option maxRecDepth 100000 in
theorem kr_X9_view_64 (σ : Sg) (c l9 : Int32) : ∀ r : Nat, r < 20 → (E_X9_view σ c l9).2.2.1 (64 + r) = σ.2.2.1 (64 + r)
  | 0, _ => rfl
  | 1, _ => rfl
  | 2, _ => rfl
  | 3, _ => rfl
  | 4, _ => rfl
  | 5, _ => rfl
  | 6, _ => rfl
  | 7, _ => rfl
  | 8, _ => rfl
  | 9, _ => rfl
  | 10, _ => rfl
  | 11, _ => rfl
  | 12, _ => rfl
  | 13, _ => rfl
  | 14, _ => rfl
  | 15, _ => rfl
  | 16, _ => rfl
  | 17, _ => rfl
  | 18, _ => rfl
  | 19, _ => rfl
  | r + 20, h => absurd h (by omega)
set_option maxRecDepth 100000 in
theorem kr_X9_view_96 (σ : Sg) (c l9 : Int32) : ∀ r : Nat, r < 20 → (E_X9_view σ c l9).2.2.1 (96 + r) = σ.2.2.1 (96 + r)
  | 0, _ => rfl
  | 1, _ => rfl
  | 2, _ => rfl
  | 3, _ => rfl
  | 4, _ => rfl
  | 5, _ => rfl
  | 6, _ => rfl
  | 7, _ => rfl
  | 8, _ => rfl
  | 9, _ => rfl
  | 10, _ => rfl
  | 11, _ => rfl
  | 12, _ => rfl
  | 13, _ => rfl
  | 14, _ => rfl
  | 15, _ => rfl
  | 16, _ => rfl
  | 17, _ => rfl
  | 18, _ => rfl
  | 19, _ => rfl
  | r + 20, h => absurd h (by omega)
set_option maxRecDepth 100000 in
theorem kr_X9_write_64 (σ : Sg) (p : Int64) (n : Int32) : ∀ r : Nat, r < 20 → (E_X9_write σ p n).2.2.1 (64 + r) = σ.2.2.1 (64 + r)
  | 0, _ => rfl
  | 1, _ => rfl
  | 2, _ => rfl
  | 3, _ => rfl
  | 4, _ => rfl
  | 5, _ => rfl
  | 6, _ => rfl
  | 7, _ => rfl
  | 8, _ => rfl
  | 9, _ => rfl
  | 10, _ => rfl
  | 11, _ => rfl
  | 12, _ => rfl
  | 13, _ => rfl
  | 14, _ => rfl
  | 15, _ => rfl
  | 16, _ => rfl
  | 17, _ => rfl
  | 18, _ => rfl
  | 19, _ => rfl
  | r + 20, h => absurd h (by omega)
set_option maxRecDepth 100000 in
theorem kr_X9_write_96 (σ : Sg) (p : Int64) (n : Int32) : ∀ r : Nat, r < 20 → (E_X9_write σ p n).2.2.1 (96 + r) = σ.2.2.1 (96 + r)
  | 0, _ => rfl
  | 1, _ => rfl
  | 2, _ => rfl
  | 3, _ => rfl
  | 4, _ => rfl
  | 5, _ => rfl
  | 6, _ => rfl
  | 7, _ => rfl
  | 8, _ => rfl
  | 9, _ => rfl
  | 10, _ => rfl
  | 11, _ => rfl
  | 12, _ => rfl
  | 13, _ => rfl
  | 14, _ => rfl
  | 15, _ => rfl
  | 16, _ => rfl
  | 17, _ => rfl
  | 18, _ => rfl
  | 19, _ => rfl
  | r + 20, h => absurd h (by omega)
set_option maxRecDepth 100000 in
theorem kr_X9_erase_64 (σ : Sg)  : ∀ r : Nat, r < 20 → (E_X9_erase σ).2.2.1 (64 + r) = σ.2.2.1 (64 + r)
  | 0, _ => rfl
  | 1, _ => rfl
  | 2, _ => rfl
  | 3, _ => rfl
  | 4, _ => rfl
  | 5, _ => rfl
  | 6, _ => rfl
  | 7, _ => rfl
  | 8, _ => rfl
  | 9, _ => rfl
  | 10, _ => rfl
  | 11, _ => rfl
  | 12, _ => rfl
  | 13, _ => rfl
  | 14, _ => rfl
  | 15, _ => rfl
  | 16, _ => rfl
  | 17, _ => rfl
  | 18, _ => rfl
  | 19, _ => rfl
  | r + 20, h => absurd h (by omega)
set_option maxRecDepth 100000 in
theorem kr_X9_erase_96 (σ : Sg)  : ∀ r : Nat, r < 20 → (E_X9_erase σ).2.2.1 (96 + r) = σ.2.2.1 (96 + r)
  | 0, _ => rfl
  | 1, _ => rfl
  | 2, _ => rfl
  | 3, _ => rfl
  | 4, _ => rfl
  | 5, _ => rfl
  | 6, _ => rfl
  | 7, _ => rfl
  | 8, _ => rfl
  | 9, _ => rfl
  | 10, _ => rfl
  | 11, _ => rfl
  | 12, _ => rfl
  | 13, _ => rfl
  | 14, _ => rfl
  | 15, _ => rfl
  | 16, _ => rfl
  | 17, _ => rfl
  | 18, _ => rfl
  | 19, _ => rfl
  | r + 20, h => absurd h (by omega)
set_option maxRecDepth 100000 in
theorem tie_feature {σ σ2 σ3 : Sg} (f a b : Int32) (hT : Tie σ) (hI : Inv σ) (h1 : Cor (E_X8_feature σ f a b) σ2) (h2 : Cor (E_X9_feature σ2 f a b) σ3) : Tie σ3 := by
  refine ⟨((h2.1 14000 rfl).trans ((h1.1 14000 rfl).trans ((t_size hT).trans (((h2.1 110 rfl).trans (h1.1 110 rfl)).symm)))),
    ((h2.1 14011 rfl).trans ((h1.1 14011 rfl).trans ((t_day hT).trans (((h2.1 111 rfl).trans (h1.1 111 rfl)).symm)))),
    ((h2.1 14013 rfl).trans ((h1.1 14013 rfl).trans ((t_asof hT).trans (((h2.1 112 rfl).trans (h1.1 112 rfl)).symm)))),
    ((h2.1 14012 rfl).trans ((h1.1 14012 rfl).trans ((t_slack hT).trans (((h2.1 1204 rfl).trans (h1.1 1204 rfl)).symm)))),
    ((h2.1 14014 rfl).trans ((h1.1 14014 rfl).trans ((t_base hT).trans (((h2.1 9 rfl).trans (h1.1 9 rfl)).symm)))),
    ((h2.1 14025 rfl).trans ((h1.1 14025 rfl).trans ((t_laters hT).trans (((h2.1 5809 rfl).trans (h1.1 5809 rfl)).symm)))),
    ((h2.1 14037 rfl).trans ((h1.1 14037 rfl).trans ((t_bytes hT).trans (((h2.1 11701 rfl).trans (h1.1 11701 rfl)).symm)))),
    ((h2.2.2.1 141 rfl).trans ((h1.2.2.1 141 rfl).trans ((t_list hT).trans (((h2.2.2.1 2 rfl).trans (h1.2.2.1 2 rfl)).symm)))),
    ((h2.2.2.1 142 rfl).trans ((h1.2.2.1 142 rfl).trans ((t_publ hT).trans (((h2.2.2.1 3 rfl).trans (h1.2.2.1 3 rfl)).symm)))),
    ((h2.2.2.1 143 rfl).trans ((h1.2.2.1 143 rfl).trans ((t_numb hT).trans (((h2.2.2.1 4 rfl).trans (h1.2.2.1 4 rfl)).symm)))),
    ((h2.2.2.1 144 rfl).trans ((h1.2.2.1 144 rfl).trans ((t_back hT).trans (((h2.2.2.1 5 rfl).trans (h1.2.2.1 5 rfl)).symm)))),
    ((h2.2.2.1 146 rfl).trans ((h1.2.2.1 146 rfl).trans ((t_sky hT).trans (((h2.2.2.1 7 rfl).trans (h1.2.2.1 7 rfl)).symm)))),
    ((h2.2.2.1 147 rfl).trans ((h1.2.2.1 147 rfl).trans ((t_post hT).trans (((h2.2.2.1 8 rfl).trans (h1.2.2.1 8 rfl)).symm)))),
    ((h2.2.2.1 148 rfl).trans ((h1.2.2.1 148 rfl).trans ((t_told hT).trans (((h2.2.2.1 9 rfl).trans (h1.2.2.1 9 rfl)).symm)))),
    ((h2.2.2.1 149 rfl).trans ((h1.2.2.1 149 rfl).trans ((t_lett hT).trans (((h2.2.2.1 11 rfl).trans (h1.2.2.1 11 rfl)).symm)))),
    (by rw [h2.2.2.1 156 rfl, h2.2.2.1 59 rfl]; show (upd (σ2.2.2.1 156) (Int32.toNatClampNeg f) a) = σ2.2.2.1 59; rw [h1.2.2.1 156 rfl, h1.2.2.1 59 rfl]; show (upd (σ.2.2.1 156) (Int32.toNatClampNeg f) a) = (upd (σ.2.2.1 59) (Int32.toNatClampNeg f) a); rw [t_ffr hT]),
    (by rw [h2.2.2.1 157 rfl, h2.2.2.1 60 rfl]; show (upd (σ2.2.2.1 157) (Int32.toNatClampNeg f) b) = σ2.2.2.1 60; rw [h1.2.2.1 157 rfl, h1.2.2.1 60 rfl]; show (upd (σ.2.2.1 157) (Int32.toNatClampNeg f) b) = (upd (σ.2.2.1 60) (Int32.toNatClampNeg f) b); rw [t_fto hT]),
    ((h2.2.2.1 159 rfl).trans ((h1.2.2.1 159 rfl).trans ((t_bfr hT).trans (((h2.2.2.1 61 rfl).trans (h1.2.2.1 61 rfl)).symm)))),
    ((h2.2.2.1 160 rfl).trans ((h1.2.2.1 160 rfl).trans ((t_bto hT).trans (((h2.2.2.1 62 rfl).trans (h1.2.2.1 62 rfl)).symm)))),
    ((h2.2.2.1 161 rfl).trans ((h1.2.2.1 161 rfl).trans ((t_late hT).trans (((h2.2.2.1 84 rfl).trans (h1.2.2.1 84 rfl)).symm)))),
    ((h2.2.2.1 162 rfl).trans ((h1.2.2.1 162 rfl).trans ((t_earl hT).trans (((h2.2.2.1 85 rfl).trans (h1.2.2.1 85 rfl)).symm)))),
    ((h2.2.2.1 167 rfl).trans ((h1.2.2.1 167 rfl).trans ((t_cell hT).trans (((h2.2.2.1 94 rfl).trans (h1.2.2.1 94 rfl)).symm)))),
    ((h2.2.2.1 168 rfl).trans ((h1.2.2.1 168 rfl).trans ((t_views hT).trans (((h2.2.2.1 116 rfl).trans (h1.2.2.1 116 rfl)).symm)))),
    ((h2.2.2.1 170 rfl).trans ((h1.2.2.1 170 rfl).trans ((t_text hT).trans (((h2.2.2.1 118 rfl).trans (h1.2.2.1 118 rfl)).symm)))),
    ((h2.2.2.2.1 145).trans ((h1.2.2.2.1 145).trans ((t_pict hT).trans (((h2.2.2.2.1 6).trans (h1.2.2.2.1 6)).symm)))),
    ((h2.2.1 14034 rfl).trans ((h1.2.1 14034 rfl).trans ((t_wall hT).trans (((h2.2.1 9301 rfl).trans (h1.2.1 9301 rfl)).symm)))),
    (fun c f hc hs hf => by rw [((h2.1 110 rfl).trans (h1.1 110 rfl))] at hs; rw [((h2.2.2.1 158 rfl).trans (h1.2.2.1 158 rfl)), (((h2.2.2.1 (64 + c) (scA_64 hc)).trans (kr_X9_feature_64 _ _ _ _ c hc)).trans ((h1.2.2.1 (64 + c) (scA_64 hc)).trans (kr_X8_feature_64 _ _ _ _ c hc)))]; exact t_shown hT c f hc hs hf),
    (fun c f hc hs hf => by rw [((h2.1 110 rfl).trans (h1.1 110 rfl))] at hs; rw [(((h2.2.2.1 (64 + c) (scA_64 hc)).trans (kr_X9_feature_64 _ _ _ _ c hc)).trans ((h1.2.2.1 (64 + c) (scA_64 hc)).trans (kr_X8_feature_64 _ _ _ _ c hc)))]; exact t_hid hT c f hc hs hf),
    (fun c k hc hk => by rw [((h2.2.2.1 116 rfl).trans (h1.2.2.1 116 rfl))] at hk; rw [((h2.2.2.1 169 rfl).trans (h1.2.2.1 169 rfl)), (((h2.2.2.1 (96 + c) (scA_96 hc)).trans (kr_X9_feature_96 _ _ _ _ c hc)).trans ((h1.2.2.1 (96 + c) (scA_96 hc)).trans (kr_X8_feature_96 _ _ _ _ c hc)))]; exact t_seen hT c k hc hk),
    (fun i j hij hj hs => by rw [((h2.1 110 rfl).trans (h1.1 110 rfl))] at hs; rw [((h2.2.2.1 9 rfl).trans (h1.2.2.1 9 rfl))]; exact t_mono hT i j hij hj hs),
    (fun j hj hs => by rw [((h2.1 110 rfl).trans (h1.1 110 rfl))] at hs; rw [((h2.2.2.1 9 rfl).trans (h1.2.2.1 9 rfl)), ((h2.1 111 rfl).trans (h1.1 111 rfl))]; exact t_last hT j hj hs),
    (by rw [((h2.1 111 rfl).trans (h1.1 111 rfl))]; exact (show inR (σ.1 111) 0 999 from t_dayr hT)),
    (fun l hl => by rw [((h2.2.2.1 94 rfl).trans (h1.2.2.1 94 rfl))]; exact (show inR (σ.2.2.1 94 l) 0 64 from t_cellr hT l hl)),
    (fun i hi => by rw [((h2.2.2.1 3 rfl).trans (h1.2.2.1 3 rfl))]; exact (show inR (σ.2.2.1 3 i) 0 4 from t_pubr hT i hi)),
    (fun c i hc hi => by rw [((h2.2.2.1 11 rfl).trans (h1.2.2.1 11 rfl))] at hi; rw [((h2.2.2.1 150 rfl).trans (h1.2.2.1 150 rfl)), ((h2.2.2.2.1 10).trans (h1.2.2.2.1 10))]; exact t_capt hT c i hc hi)⟩
set_option maxRecDepth 100000 in
theorem tie_back {σ σ2 σ3 : Sg} (f a b : Int32) (hT : Tie σ) (hI : Inv σ) (h1 : Cor (E_X8_back σ f a b) σ2) (h2 : Cor (E_X9_back σ2 f a b) σ3) : Tie σ3 := by
  refine ⟨((h2.1 14000 rfl).trans ((h1.1 14000 rfl).trans ((t_size hT).trans (((h2.1 110 rfl).trans (h1.1 110 rfl)).symm)))),
    ((h2.1 14011 rfl).trans ((h1.1 14011 rfl).trans ((t_day hT).trans (((h2.1 111 rfl).trans (h1.1 111 rfl)).symm)))),
    ((h2.1 14013 rfl).trans ((h1.1 14013 rfl).trans ((t_asof hT).trans (((h2.1 112 rfl).trans (h1.1 112 rfl)).symm)))),
    ((h2.1 14012 rfl).trans ((h1.1 14012 rfl).trans ((t_slack hT).trans (((h2.1 1204 rfl).trans (h1.1 1204 rfl)).symm)))),
    ((h2.1 14014 rfl).trans ((h1.1 14014 rfl).trans ((t_base hT).trans (((h2.1 9 rfl).trans (h1.1 9 rfl)).symm)))),
    ((h2.1 14025 rfl).trans ((h1.1 14025 rfl).trans ((t_laters hT).trans (((h2.1 5809 rfl).trans (h1.1 5809 rfl)).symm)))),
    ((h2.1 14037 rfl).trans ((h1.1 14037 rfl).trans ((t_bytes hT).trans (((h2.1 11701 rfl).trans (h1.1 11701 rfl)).symm)))),
    ((h2.2.2.1 141 rfl).trans ((h1.2.2.1 141 rfl).trans ((t_list hT).trans (((h2.2.2.1 2 rfl).trans (h1.2.2.1 2 rfl)).symm)))),
    ((h2.2.2.1 142 rfl).trans ((h1.2.2.1 142 rfl).trans ((t_publ hT).trans (((h2.2.2.1 3 rfl).trans (h1.2.2.1 3 rfl)).symm)))),
    ((h2.2.2.1 143 rfl).trans ((h1.2.2.1 143 rfl).trans ((t_numb hT).trans (((h2.2.2.1 4 rfl).trans (h1.2.2.1 4 rfl)).symm)))),
    ((h2.2.2.1 144 rfl).trans ((h1.2.2.1 144 rfl).trans ((t_back hT).trans (((h2.2.2.1 5 rfl).trans (h1.2.2.1 5 rfl)).symm)))),
    ((h2.2.2.1 146 rfl).trans ((h1.2.2.1 146 rfl).trans ((t_sky hT).trans (((h2.2.2.1 7 rfl).trans (h1.2.2.1 7 rfl)).symm)))),
    ((h2.2.2.1 147 rfl).trans ((h1.2.2.1 147 rfl).trans ((t_post hT).trans (((h2.2.2.1 8 rfl).trans (h1.2.2.1 8 rfl)).symm)))),
    ((h2.2.2.1 148 rfl).trans ((h1.2.2.1 148 rfl).trans ((t_told hT).trans (((h2.2.2.1 9 rfl).trans (h1.2.2.1 9 rfl)).symm)))),
    ((h2.2.2.1 149 rfl).trans ((h1.2.2.1 149 rfl).trans ((t_lett hT).trans (((h2.2.2.1 11 rfl).trans (h1.2.2.1 11 rfl)).symm)))),
    ((h2.2.2.1 156 rfl).trans ((h1.2.2.1 156 rfl).trans ((t_ffr hT).trans (((h2.2.2.1 59 rfl).trans (h1.2.2.1 59 rfl)).symm)))),
    ((h2.2.2.1 157 rfl).trans ((h1.2.2.1 157 rfl).trans ((t_fto hT).trans (((h2.2.2.1 60 rfl).trans (h1.2.2.1 60 rfl)).symm)))),
    (by rw [h2.2.2.1 159 rfl, h2.2.2.1 61 rfl]; show (upd (σ2.2.2.1 159) (Int32.toNatClampNeg f) a) = σ2.2.2.1 61; rw [h1.2.2.1 159 rfl, h1.2.2.1 61 rfl]; show (upd (σ.2.2.1 159) (Int32.toNatClampNeg f) a) = (upd (σ.2.2.1 61) (Int32.toNatClampNeg f) a); rw [t_bfr hT]),
    (by rw [h2.2.2.1 160 rfl, h2.2.2.1 62 rfl]; show (upd (σ2.2.2.1 160) (Int32.toNatClampNeg f) b) = σ2.2.2.1 62; rw [h1.2.2.1 160 rfl, h1.2.2.1 62 rfl]; show (upd (σ.2.2.1 160) (Int32.toNatClampNeg f) b) = (upd (σ.2.2.1 62) (Int32.toNatClampNeg f) b); rw [t_bto hT]),
    ((h2.2.2.1 161 rfl).trans ((h1.2.2.1 161 rfl).trans ((t_late hT).trans (((h2.2.2.1 84 rfl).trans (h1.2.2.1 84 rfl)).symm)))),
    ((h2.2.2.1 162 rfl).trans ((h1.2.2.1 162 rfl).trans ((t_earl hT).trans (((h2.2.2.1 85 rfl).trans (h1.2.2.1 85 rfl)).symm)))),
    ((h2.2.2.1 167 rfl).trans ((h1.2.2.1 167 rfl).trans ((t_cell hT).trans (((h2.2.2.1 94 rfl).trans (h1.2.2.1 94 rfl)).symm)))),
    ((h2.2.2.1 168 rfl).trans ((h1.2.2.1 168 rfl).trans ((t_views hT).trans (((h2.2.2.1 116 rfl).trans (h1.2.2.1 116 rfl)).symm)))),
    ((h2.2.2.1 170 rfl).trans ((h1.2.2.1 170 rfl).trans ((t_text hT).trans (((h2.2.2.1 118 rfl).trans (h1.2.2.1 118 rfl)).symm)))),
    ((h2.2.2.2.1 145).trans ((h1.2.2.2.1 145).trans ((t_pict hT).trans (((h2.2.2.2.1 6).trans (h1.2.2.2.1 6)).symm)))),
    ((h2.2.1 14034 rfl).trans ((h1.2.1 14034 rfl).trans ((t_wall hT).trans (((h2.2.1 9301 rfl).trans (h1.2.1 9301 rfl)).symm)))),
    (fun c f hc hs hf => by rw [((h2.1 110 rfl).trans (h1.1 110 rfl))] at hs; rw [((h2.2.2.1 158 rfl).trans (h1.2.2.1 158 rfl)), (((h2.2.2.1 (64 + c) (scA_64 hc)).trans (kr_X9_back_64 _ _ _ _ c hc)).trans ((h1.2.2.1 (64 + c) (scA_64 hc)).trans (kr_X8_back_64 _ _ _ _ c hc)))]; exact t_shown hT c f hc hs hf),
    (fun c f hc hs hf => by rw [((h2.1 110 rfl).trans (h1.1 110 rfl))] at hs; rw [(((h2.2.2.1 (64 + c) (scA_64 hc)).trans (kr_X9_back_64 _ _ _ _ c hc)).trans ((h1.2.2.1 (64 + c) (scA_64 hc)).trans (kr_X8_back_64 _ _ _ _ c hc)))]; exact t_hid hT c f hc hs hf),
    (fun c k hc hk => by rw [((h2.2.2.1 116 rfl).trans (h1.2.2.1 116 rfl))] at hk; rw [((h2.2.2.1 169 rfl).trans (h1.2.2.1 169 rfl)), (((h2.2.2.1 (96 + c) (scA_96 hc)).trans (kr_X9_back_96 _ _ _ _ c hc)).trans ((h1.2.2.1 (96 + c) (scA_96 hc)).trans (kr_X8_back_96 _ _ _ _ c hc)))]; exact t_seen hT c k hc hk),
    (fun i j hij hj hs => by rw [((h2.1 110 rfl).trans (h1.1 110 rfl))] at hs; rw [((h2.2.2.1 9 rfl).trans (h1.2.2.1 9 rfl))]; exact t_mono hT i j hij hj hs),
    (fun j hj hs => by rw [((h2.1 110 rfl).trans (h1.1 110 rfl))] at hs; rw [((h2.2.2.1 9 rfl).trans (h1.2.2.1 9 rfl)), ((h2.1 111 rfl).trans (h1.1 111 rfl))]; exact t_last hT j hj hs),
    (by rw [((h2.1 111 rfl).trans (h1.1 111 rfl))]; exact (show inR (σ.1 111) 0 999 from t_dayr hT)),
    (fun l hl => by rw [((h2.2.2.1 94 rfl).trans (h1.2.2.1 94 rfl))]; exact (show inR (σ.2.2.1 94 l) 0 64 from t_cellr hT l hl)),
    (fun i hi => by rw [((h2.2.2.1 3 rfl).trans (h1.2.2.1 3 rfl))]; exact (show inR (σ.2.2.1 3 i) 0 4 from t_pubr hT i hi)),
    (fun c i hc hi => by rw [((h2.2.2.1 11 rfl).trans (h1.2.2.1 11 rfl))] at hi; rw [((h2.2.2.1 150 rfl).trans (h1.2.2.1 150 rfl)), ((h2.2.2.2.1 10).trans (h1.2.2.2.1 10))]; exact t_capt hT c i hc hi)⟩
set_option maxRecDepth 100000 in
theorem tie_walls {σ σ2 σ3 : Sg} (a : Int64) (hT : Tie σ) (hI : Inv σ) (h1 : Cor (E_X8_walls σ a) σ2) (h2 : Cor (E_X9_walls σ2 a) σ3) : Tie σ3 := by
  refine ⟨((h2.1 14000 rfl).trans ((h1.1 14000 rfl).trans ((t_size hT).trans (((h2.1 110 rfl).trans (h1.1 110 rfl)).symm)))),
    ((h2.1 14011 rfl).trans ((h1.1 14011 rfl).trans ((t_day hT).trans (((h2.1 111 rfl).trans (h1.1 111 rfl)).symm)))),
    ((h2.1 14013 rfl).trans ((h1.1 14013 rfl).trans ((t_asof hT).trans (((h2.1 112 rfl).trans (h1.1 112 rfl)).symm)))),
    ((h2.1 14012 rfl).trans ((h1.1 14012 rfl).trans ((t_slack hT).trans (((h2.1 1204 rfl).trans (h1.1 1204 rfl)).symm)))),
    ((h2.1 14014 rfl).trans ((h1.1 14014 rfl).trans ((t_base hT).trans (((h2.1 9 rfl).trans (h1.1 9 rfl)).symm)))),
    ((h2.1 14025 rfl).trans ((h1.1 14025 rfl).trans ((t_laters hT).trans (((h2.1 5809 rfl).trans (h1.1 5809 rfl)).symm)))),
    ((h2.1 14037 rfl).trans ((h1.1 14037 rfl).trans ((t_bytes hT).trans (((h2.1 11701 rfl).trans (h1.1 11701 rfl)).symm)))),
    ((h2.2.2.1 141 rfl).trans ((h1.2.2.1 141 rfl).trans ((t_list hT).trans (((h2.2.2.1 2 rfl).trans (h1.2.2.1 2 rfl)).symm)))),
    ((h2.2.2.1 142 rfl).trans ((h1.2.2.1 142 rfl).trans ((t_publ hT).trans (((h2.2.2.1 3 rfl).trans (h1.2.2.1 3 rfl)).symm)))),
    ((h2.2.2.1 143 rfl).trans ((h1.2.2.1 143 rfl).trans ((t_numb hT).trans (((h2.2.2.1 4 rfl).trans (h1.2.2.1 4 rfl)).symm)))),
    ((h2.2.2.1 144 rfl).trans ((h1.2.2.1 144 rfl).trans ((t_back hT).trans (((h2.2.2.1 5 rfl).trans (h1.2.2.1 5 rfl)).symm)))),
    ((h2.2.2.1 146 rfl).trans ((h1.2.2.1 146 rfl).trans ((t_sky hT).trans (((h2.2.2.1 7 rfl).trans (h1.2.2.1 7 rfl)).symm)))),
    ((h2.2.2.1 147 rfl).trans ((h1.2.2.1 147 rfl).trans ((t_post hT).trans (((h2.2.2.1 8 rfl).trans (h1.2.2.1 8 rfl)).symm)))),
    ((h2.2.2.1 148 rfl).trans ((h1.2.2.1 148 rfl).trans ((t_told hT).trans (((h2.2.2.1 9 rfl).trans (h1.2.2.1 9 rfl)).symm)))),
    ((h2.2.2.1 149 rfl).trans ((h1.2.2.1 149 rfl).trans ((t_lett hT).trans (((h2.2.2.1 11 rfl).trans (h1.2.2.1 11 rfl)).symm)))),
    ((h2.2.2.1 156 rfl).trans ((h1.2.2.1 156 rfl).trans ((t_ffr hT).trans (((h2.2.2.1 59 rfl).trans (h1.2.2.1 59 rfl)).symm)))),
    ((h2.2.2.1 157 rfl).trans ((h1.2.2.1 157 rfl).trans ((t_fto hT).trans (((h2.2.2.1 60 rfl).trans (h1.2.2.1 60 rfl)).symm)))),
    ((h2.2.2.1 159 rfl).trans ((h1.2.2.1 159 rfl).trans ((t_bfr hT).trans (((h2.2.2.1 61 rfl).trans (h1.2.2.1 61 rfl)).symm)))),
    ((h2.2.2.1 160 rfl).trans ((h1.2.2.1 160 rfl).trans ((t_bto hT).trans (((h2.2.2.1 62 rfl).trans (h1.2.2.1 62 rfl)).symm)))),
    ((h2.2.2.1 161 rfl).trans ((h1.2.2.1 161 rfl).trans ((t_late hT).trans (((h2.2.2.1 84 rfl).trans (h1.2.2.1 84 rfl)).symm)))),
    ((h2.2.2.1 162 rfl).trans ((h1.2.2.1 162 rfl).trans ((t_earl hT).trans (((h2.2.2.1 85 rfl).trans (h1.2.2.1 85 rfl)).symm)))),
    ((h2.2.2.1 167 rfl).trans ((h1.2.2.1 167 rfl).trans ((t_cell hT).trans (((h2.2.2.1 94 rfl).trans (h1.2.2.1 94 rfl)).symm)))),
    ((h2.2.2.1 168 rfl).trans ((h1.2.2.1 168 rfl).trans ((t_views hT).trans (((h2.2.2.1 116 rfl).trans (h1.2.2.1 116 rfl)).symm)))),
    ((h2.2.2.1 170 rfl).trans ((h1.2.2.1 170 rfl).trans ((t_text hT).trans (((h2.2.2.1 118 rfl).trans (h1.2.2.1 118 rfl)).symm)))),
    ((h2.2.2.2.1 145).trans ((h1.2.2.2.1 145).trans ((t_pict hT).trans (((h2.2.2.2.1 6).trans (h1.2.2.2.1 6)).symm)))),
    (by rw [h2.2.1 14034 rfl, h2.2.1 9301 rfl]; show a = σ2.2.1 9301; rw [h1.2.1 9301 rfl]; show a = a; rw []),
    (fun c f hc hs hf => by rw [((h2.1 110 rfl).trans (h1.1 110 rfl))] at hs; rw [((h2.2.2.1 158 rfl).trans (h1.2.2.1 158 rfl)), (((h2.2.2.1 (64 + c) (scA_64 hc)).trans (kr_X9_walls_64 _ _ c hc)).trans ((h1.2.2.1 (64 + c) (scA_64 hc)).trans (kr_X8_walls_64 _ _ c hc)))]; exact t_shown hT c f hc hs hf),
    (fun c f hc hs hf => by rw [((h2.1 110 rfl).trans (h1.1 110 rfl))] at hs; rw [(((h2.2.2.1 (64 + c) (scA_64 hc)).trans (kr_X9_walls_64 _ _ c hc)).trans ((h1.2.2.1 (64 + c) (scA_64 hc)).trans (kr_X8_walls_64 _ _ c hc)))]; exact t_hid hT c f hc hs hf),
    (fun c k hc hk => by rw [((h2.2.2.1 116 rfl).trans (h1.2.2.1 116 rfl))] at hk; rw [((h2.2.2.1 169 rfl).trans (h1.2.2.1 169 rfl)), (((h2.2.2.1 (96 + c) (scA_96 hc)).trans (kr_X9_walls_96 _ _ c hc)).trans ((h1.2.2.1 (96 + c) (scA_96 hc)).trans (kr_X8_walls_96 _ _ c hc)))]; exact t_seen hT c k hc hk),
    (fun i j hij hj hs => by rw [((h2.1 110 rfl).trans (h1.1 110 rfl))] at hs; rw [((h2.2.2.1 9 rfl).trans (h1.2.2.1 9 rfl))]; exact t_mono hT i j hij hj hs),
    (fun j hj hs => by rw [((h2.1 110 rfl).trans (h1.1 110 rfl))] at hs; rw [((h2.2.2.1 9 rfl).trans (h1.2.2.1 9 rfl)), ((h2.1 111 rfl).trans (h1.1 111 rfl))]; exact t_last hT j hj hs),
    (by rw [((h2.1 111 rfl).trans (h1.1 111 rfl))]; exact (show inR (σ.1 111) 0 999 from t_dayr hT)),
    (fun l hl => by rw [((h2.2.2.1 94 rfl).trans (h1.2.2.1 94 rfl))]; exact (show inR (σ.2.2.1 94 l) 0 64 from t_cellr hT l hl)),
    (fun i hi => by rw [((h2.2.2.1 3 rfl).trans (h1.2.2.1 3 rfl))]; exact (show inR (σ.2.2.1 3 i) 0 4 from t_pubr hT i hi)),
    (fun c i hc hi => by rw [((h2.2.2.1 11 rfl).trans (h1.2.2.1 11 rfl))] at hi; rw [((h2.2.2.1 150 rfl).trans (h1.2.2.1 150 rfl)), ((h2.2.2.2.1 10).trans (h1.2.2.2.1 10))]; exact t_capt hT c i hc hi)⟩
set_option maxRecDepth 100000 in
theorem tie_later {σ σ2 σ3 : Sg} (a b : Int32) (hT : Tie σ) (hI : Inv σ) (h1 : Cor (E_X8_later σ a b) σ2) (h2 : Cor (E_X9_later σ2 a b) σ3) : Tie σ3 := by
  refine ⟨((h2.1 14000 rfl).trans ((h1.1 14000 rfl).trans ((t_size hT).trans (((h2.1 110 rfl).trans (h1.1 110 rfl)).symm)))),
    ((h2.1 14011 rfl).trans ((h1.1 14011 rfl).trans ((t_day hT).trans (((h2.1 111 rfl).trans (h1.1 111 rfl)).symm)))),
    ((h2.1 14013 rfl).trans ((h1.1 14013 rfl).trans ((t_asof hT).trans (((h2.1 112 rfl).trans (h1.1 112 rfl)).symm)))),
    ((h2.1 14012 rfl).trans ((h1.1 14012 rfl).trans ((t_slack hT).trans (((h2.1 1204 rfl).trans (h1.1 1204 rfl)).symm)))),
    ((h2.1 14014 rfl).trans ((h1.1 14014 rfl).trans ((t_base hT).trans (((h2.1 9 rfl).trans (h1.1 9 rfl)).symm)))),
    (by rw [h2.1 14025 rfl, h2.1 5809 rfl]; show ((σ2.1 14025) + 1) = σ2.1 5809; rw [h1.1 14025 rfl, h1.1 5809 rfl]; show ((σ.1 14025) + 1) = ((σ.1 5809) + 1); rw [t_laters hT]),
    ((h2.1 14037 rfl).trans ((h1.1 14037 rfl).trans ((t_bytes hT).trans (((h2.1 11701 rfl).trans (h1.1 11701 rfl)).symm)))),
    ((h2.2.2.1 141 rfl).trans ((h1.2.2.1 141 rfl).trans ((t_list hT).trans (((h2.2.2.1 2 rfl).trans (h1.2.2.1 2 rfl)).symm)))),
    ((h2.2.2.1 142 rfl).trans ((h1.2.2.1 142 rfl).trans ((t_publ hT).trans (((h2.2.2.1 3 rfl).trans (h1.2.2.1 3 rfl)).symm)))),
    ((h2.2.2.1 143 rfl).trans ((h1.2.2.1 143 rfl).trans ((t_numb hT).trans (((h2.2.2.1 4 rfl).trans (h1.2.2.1 4 rfl)).symm)))),
    ((h2.2.2.1 144 rfl).trans ((h1.2.2.1 144 rfl).trans ((t_back hT).trans (((h2.2.2.1 5 rfl).trans (h1.2.2.1 5 rfl)).symm)))),
    ((h2.2.2.1 146 rfl).trans ((h1.2.2.1 146 rfl).trans ((t_sky hT).trans (((h2.2.2.1 7 rfl).trans (h1.2.2.1 7 rfl)).symm)))),
    ((h2.2.2.1 147 rfl).trans ((h1.2.2.1 147 rfl).trans ((t_post hT).trans (((h2.2.2.1 8 rfl).trans (h1.2.2.1 8 rfl)).symm)))),
    ((h2.2.2.1 148 rfl).trans ((h1.2.2.1 148 rfl).trans ((t_told hT).trans (((h2.2.2.1 9 rfl).trans (h1.2.2.1 9 rfl)).symm)))),
    ((h2.2.2.1 149 rfl).trans ((h1.2.2.1 149 rfl).trans ((t_lett hT).trans (((h2.2.2.1 11 rfl).trans (h1.2.2.1 11 rfl)).symm)))),
    ((h2.2.2.1 156 rfl).trans ((h1.2.2.1 156 rfl).trans ((t_ffr hT).trans (((h2.2.2.1 59 rfl).trans (h1.2.2.1 59 rfl)).symm)))),
    ((h2.2.2.1 157 rfl).trans ((h1.2.2.1 157 rfl).trans ((t_fto hT).trans (((h2.2.2.1 60 rfl).trans (h1.2.2.1 60 rfl)).symm)))),
    ((h2.2.2.1 159 rfl).trans ((h1.2.2.1 159 rfl).trans ((t_bfr hT).trans (((h2.2.2.1 61 rfl).trans (h1.2.2.1 61 rfl)).symm)))),
    ((h2.2.2.1 160 rfl).trans ((h1.2.2.1 160 rfl).trans ((t_bto hT).trans (((h2.2.2.1 62 rfl).trans (h1.2.2.1 62 rfl)).symm)))),
    (by rw [h2.2.2.1 161 rfl, h2.2.2.1 84 rfl]; show (upd (σ2.2.2.1 161) (Int32.toNatClampNeg (σ2.1 14025)) a) = σ2.2.2.1 84; rw [h1.2.2.1 161 rfl, h1.1 14025 rfl, h1.2.2.1 84 rfl]; show (upd (σ.2.2.1 161) (Int32.toNatClampNeg (σ.1 14025)) a) = (upd (σ.2.2.1 84) (Int32.toNatClampNeg (σ.1 5809)) a); rw [t_late hT, t_laters hT]),
    (by rw [h2.2.2.1 162 rfl, h2.2.2.1 85 rfl]; show (upd (σ2.2.2.1 162) (Int32.toNatClampNeg (σ2.1 14025)) b) = σ2.2.2.1 85; rw [h1.2.2.1 162 rfl, h1.1 14025 rfl, h1.2.2.1 85 rfl]; show (upd (σ.2.2.1 162) (Int32.toNatClampNeg (σ.1 14025)) b) = (upd (σ.2.2.1 85) (Int32.toNatClampNeg (σ.1 5809)) b); rw [t_earl hT, t_laters hT]),
    ((h2.2.2.1 167 rfl).trans ((h1.2.2.1 167 rfl).trans ((t_cell hT).trans (((h2.2.2.1 94 rfl).trans (h1.2.2.1 94 rfl)).symm)))),
    ((h2.2.2.1 168 rfl).trans ((h1.2.2.1 168 rfl).trans ((t_views hT).trans (((h2.2.2.1 116 rfl).trans (h1.2.2.1 116 rfl)).symm)))),
    ((h2.2.2.1 170 rfl).trans ((h1.2.2.1 170 rfl).trans ((t_text hT).trans (((h2.2.2.1 118 rfl).trans (h1.2.2.1 118 rfl)).symm)))),
    ((h2.2.2.2.1 145).trans ((h1.2.2.2.1 145).trans ((t_pict hT).trans (((h2.2.2.2.1 6).trans (h1.2.2.2.1 6)).symm)))),
    ((h2.2.1 14034 rfl).trans ((h1.2.1 14034 rfl).trans ((t_wall hT).trans (((h2.2.1 9301 rfl).trans (h1.2.1 9301 rfl)).symm)))),
    (fun c f hc hs hf => by rw [((h2.1 110 rfl).trans (h1.1 110 rfl))] at hs; rw [((h2.2.2.1 158 rfl).trans (h1.2.2.1 158 rfl)), (((h2.2.2.1 (64 + c) (scA_64 hc)).trans (kr_X9_later_64 _ _ _ c hc)).trans ((h1.2.2.1 (64 + c) (scA_64 hc)).trans (kr_X8_later_64 _ _ _ c hc)))]; exact t_shown hT c f hc hs hf),
    (fun c f hc hs hf => by rw [((h2.1 110 rfl).trans (h1.1 110 rfl))] at hs; rw [(((h2.2.2.1 (64 + c) (scA_64 hc)).trans (kr_X9_later_64 _ _ _ c hc)).trans ((h1.2.2.1 (64 + c) (scA_64 hc)).trans (kr_X8_later_64 _ _ _ c hc)))]; exact t_hid hT c f hc hs hf),
    (fun c k hc hk => by rw [((h2.2.2.1 116 rfl).trans (h1.2.2.1 116 rfl))] at hk; rw [((h2.2.2.1 169 rfl).trans (h1.2.2.1 169 rfl)), (((h2.2.2.1 (96 + c) (scA_96 hc)).trans (kr_X9_later_96 _ _ _ c hc)).trans ((h1.2.2.1 (96 + c) (scA_96 hc)).trans (kr_X8_later_96 _ _ _ c hc)))]; exact t_seen hT c k hc hk),
    (fun i j hij hj hs => by rw [((h2.1 110 rfl).trans (h1.1 110 rfl))] at hs; rw [((h2.2.2.1 9 rfl).trans (h1.2.2.1 9 rfl))]; exact t_mono hT i j hij hj hs),
    (fun j hj hs => by rw [((h2.1 110 rfl).trans (h1.1 110 rfl))] at hs; rw [((h2.2.2.1 9 rfl).trans (h1.2.2.1 9 rfl)), ((h2.1 111 rfl).trans (h1.1 111 rfl))]; exact t_last hT j hj hs),
    (by rw [((h2.1 111 rfl).trans (h1.1 111 rfl))]; exact (show inR (σ.1 111) 0 999 from t_dayr hT)),
    (fun l hl => by rw [((h2.2.2.1 94 rfl).trans (h1.2.2.1 94 rfl))]; exact (show inR (σ.2.2.1 94 l) 0 64 from t_cellr hT l hl)),
    (fun i hi => by rw [((h2.2.2.1 3 rfl).trans (h1.2.2.1 3 rfl))]; exact (show inR (σ.2.2.1 3 i) 0 4 from t_pubr hT i hi)),
    (fun c i hc hi => by rw [((h2.2.2.1 11 rfl).trans (h1.2.2.1 11 rfl))] at hi; rw [((h2.2.2.1 150 rfl).trans (h1.2.2.1 150 rfl)), ((h2.2.2.2.1 10).trans (h1.2.2.2.1 10))]; exact t_capt hT c i hc hi)⟩
set_option maxRecDepth 100000 in
theorem tie_write {σ σ2 σ3 : Sg} (p : Int64) (n : Int32) (hT : Tie σ) (hI : Inv σ) (h1 : Cor (E_X8_write σ p n) σ2) (h2 : Cor (E_X9_write σ2 p n) σ3) : Tie σ3 := by
  refine ⟨((h2.1 14000 rfl).trans ((h1.1 14000 rfl).trans ((t_size hT).trans (((h2.1 110 rfl).trans (h1.1 110 rfl)).symm)))),
    ((h2.1 14011 rfl).trans ((h1.1 14011 rfl).trans ((t_day hT).trans (((h2.1 111 rfl).trans (h1.1 111 rfl)).symm)))),
    ((h2.1 14013 rfl).trans ((h1.1 14013 rfl).trans ((t_asof hT).trans (((h2.1 112 rfl).trans (h1.1 112 rfl)).symm)))),
    ((h2.1 14012 rfl).trans ((h1.1 14012 rfl).trans ((t_slack hT).trans (((h2.1 1204 rfl).trans (h1.1 1204 rfl)).symm)))),
    ((h2.1 14014 rfl).trans ((h1.1 14014 rfl).trans ((t_base hT).trans (((h2.1 9 rfl).trans (h1.1 9 rfl)).symm)))),
    ((h2.1 14025 rfl).trans ((h1.1 14025 rfl).trans ((t_laters hT).trans (((h2.1 5809 rfl).trans (h1.1 5809 rfl)).symm)))),
    (by rw [h2.1 14037 rfl, h2.1 11701 rfl]; show ((σ2.1 14037) + n) = σ2.1 11701; rw [h1.1 14037 rfl, h1.1 11701 rfl]; show ((σ.1 14037) + n) = ((σ.1 11701) + n); rw [t_bytes hT]),
    ((h2.2.2.1 141 rfl).trans ((h1.2.2.1 141 rfl).trans ((t_list hT).trans (((h2.2.2.1 2 rfl).trans (h1.2.2.1 2 rfl)).symm)))),
    ((h2.2.2.1 142 rfl).trans ((h1.2.2.1 142 rfl).trans ((t_publ hT).trans (((h2.2.2.1 3 rfl).trans (h1.2.2.1 3 rfl)).symm)))),
    ((h2.2.2.1 143 rfl).trans ((h1.2.2.1 143 rfl).trans ((t_numb hT).trans (((h2.2.2.1 4 rfl).trans (h1.2.2.1 4 rfl)).symm)))),
    ((h2.2.2.1 144 rfl).trans ((h1.2.2.1 144 rfl).trans ((t_back hT).trans (((h2.2.2.1 5 rfl).trans (h1.2.2.1 5 rfl)).symm)))),
    ((h2.2.2.1 146 rfl).trans ((h1.2.2.1 146 rfl).trans ((t_sky hT).trans (((h2.2.2.1 7 rfl).trans (h1.2.2.1 7 rfl)).symm)))),
    ((h2.2.2.1 147 rfl).trans ((h1.2.2.1 147 rfl).trans ((t_post hT).trans (((h2.2.2.1 8 rfl).trans (h1.2.2.1 8 rfl)).symm)))),
    ((h2.2.2.1 148 rfl).trans ((h1.2.2.1 148 rfl).trans ((t_told hT).trans (((h2.2.2.1 9 rfl).trans (h1.2.2.1 9 rfl)).symm)))),
    ((h2.2.2.1 149 rfl).trans ((h1.2.2.1 149 rfl).trans ((t_lett hT).trans (((h2.2.2.1 11 rfl).trans (h1.2.2.1 11 rfl)).symm)))),
    ((h2.2.2.1 156 rfl).trans ((h1.2.2.1 156 rfl).trans ((t_ffr hT).trans (((h2.2.2.1 59 rfl).trans (h1.2.2.1 59 rfl)).symm)))),
    ((h2.2.2.1 157 rfl).trans ((h1.2.2.1 157 rfl).trans ((t_fto hT).trans (((h2.2.2.1 60 rfl).trans (h1.2.2.1 60 rfl)).symm)))),
    ((h2.2.2.1 159 rfl).trans ((h1.2.2.1 159 rfl).trans ((t_bfr hT).trans (((h2.2.2.1 61 rfl).trans (h1.2.2.1 61 rfl)).symm)))),
    ((h2.2.2.1 160 rfl).trans ((h1.2.2.1 160 rfl).trans ((t_bto hT).trans (((h2.2.2.1 62 rfl).trans (h1.2.2.1 62 rfl)).symm)))),
    ((h2.2.2.1 161 rfl).trans ((h1.2.2.1 161 rfl).trans ((t_late hT).trans (((h2.2.2.1 84 rfl).trans (h1.2.2.1 84 rfl)).symm)))),
    ((h2.2.2.1 162 rfl).trans ((h1.2.2.1 162 rfl).trans ((t_earl hT).trans (((h2.2.2.1 85 rfl).trans (h1.2.2.1 85 rfl)).symm)))),
    ((h2.2.2.1 167 rfl).trans ((h1.2.2.1 167 rfl).trans ((t_cell hT).trans (((h2.2.2.1 94 rfl).trans (h1.2.2.1 94 rfl)).symm)))),
    ((h2.2.2.1 168 rfl).trans ((h1.2.2.1 168 rfl).trans ((t_views hT).trans (((h2.2.2.1 116 rfl).trans (h1.2.2.1 116 rfl)).symm)))),
    (by rw [h2.2.2.1 170 rfl, h2.2.2.1 118 rfl]; show (wrT (σ2.2.2.1 170) (σ2.1 14037) p n.toNatClampNeg) = σ2.2.2.1 118; rw [h1.2.2.1 170 rfl, h1.1 14037 rfl, h1.2.2.1 118 rfl]; show (wrT (σ.2.2.1 170) (σ.1 14037) p n.toNatClampNeg) = (wrT (σ.2.2.1 118) (σ.1 11701) p n.toNatClampNeg); rw [t_text hT, t_bytes hT]),
    ((h2.2.2.2.1 145).trans ((h1.2.2.2.1 145).trans ((t_pict hT).trans (((h2.2.2.2.1 6).trans (h1.2.2.2.1 6)).symm)))),
    ((h2.2.1 14034 rfl).trans ((h1.2.1 14034 rfl).trans ((t_wall hT).trans (((h2.2.1 9301 rfl).trans (h1.2.1 9301 rfl)).symm)))),
    (fun c f hc hs hf => by rw [((h2.1 110 rfl).trans (h1.1 110 rfl))] at hs; rw [((h2.2.2.1 158 rfl).trans (h1.2.2.1 158 rfl)), (((h2.2.2.1 (64 + c) (scA_64 hc)).trans (kr_X9_write_64 _ _ _ c hc)).trans ((h1.2.2.1 (64 + c) (scA_64 hc)).trans (kr_X8_write_64 _ _ _ c hc)))]; exact t_shown hT c f hc hs hf),
    (fun c f hc hs hf => by rw [((h2.1 110 rfl).trans (h1.1 110 rfl))] at hs; rw [(((h2.2.2.1 (64 + c) (scA_64 hc)).trans (kr_X9_write_64 _ _ _ c hc)).trans ((h1.2.2.1 (64 + c) (scA_64 hc)).trans (kr_X8_write_64 _ _ _ c hc)))]; exact t_hid hT c f hc hs hf),
    (fun c k hc hk => by rw [((h2.2.2.1 116 rfl).trans (h1.2.2.1 116 rfl))] at hk; rw [((h2.2.2.1 169 rfl).trans (h1.2.2.1 169 rfl)), (((h2.2.2.1 (96 + c) (scA_96 hc)).trans (kr_X9_write_96 _ _ _ c hc)).trans ((h1.2.2.1 (96 + c) (scA_96 hc)).trans (kr_X8_write_96 _ _ _ c hc)))]; exact t_seen hT c k hc hk),
    (fun i j hij hj hs => by rw [((h2.1 110 rfl).trans (h1.1 110 rfl))] at hs; rw [((h2.2.2.1 9 rfl).trans (h1.2.2.1 9 rfl))]; exact t_mono hT i j hij hj hs),
    (fun j hj hs => by rw [((h2.1 110 rfl).trans (h1.1 110 rfl))] at hs; rw [((h2.2.2.1 9 rfl).trans (h1.2.2.1 9 rfl)), ((h2.1 111 rfl).trans (h1.1 111 rfl))]; exact t_last hT j hj hs),
    (by rw [((h2.1 111 rfl).trans (h1.1 111 rfl))]; exact (show inR (σ.1 111) 0 999 from t_dayr hT)),
    (fun l hl => by rw [((h2.2.2.1 94 rfl).trans (h1.2.2.1 94 rfl))]; exact (show inR (σ.2.2.1 94 l) 0 64 from t_cellr hT l hl)),
    (fun i hi => by rw [((h2.2.2.1 3 rfl).trans (h1.2.2.1 3 rfl))]; exact (show inR (σ.2.2.1 3 i) 0 4 from t_pubr hT i hi)),
    (fun c i hc hi => by rw [((h2.2.2.1 11 rfl).trans (h1.2.2.1 11 rfl))] at hi; rw [((h2.2.2.1 150 rfl).trans (h1.2.2.1 150 rfl)), ((h2.2.2.2.1 10).trans (h1.2.2.2.1 10))]; exact t_capt hT c i hc hi)⟩
set_option maxRecDepth 100000 in
theorem tie_erase {σ σ2 σ3 : Sg}  (hT : Tie σ) (hI : Inv σ) (h1 : Cor (E_X8_erase σ) σ2) (h2 : Cor (E_X9_erase σ2) σ3) : Tie σ3 := by
  refine ⟨((h2.1 14000 rfl).trans ((h1.1 14000 rfl).trans ((t_size hT).trans (((h2.1 110 rfl).trans (h1.1 110 rfl)).symm)))),
    ((h2.1 14011 rfl).trans ((h1.1 14011 rfl).trans ((t_day hT).trans (((h2.1 111 rfl).trans (h1.1 111 rfl)).symm)))),
    ((h2.1 14013 rfl).trans ((h1.1 14013 rfl).trans ((t_asof hT).trans (((h2.1 112 rfl).trans (h1.1 112 rfl)).symm)))),
    ((h2.1 14012 rfl).trans ((h1.1 14012 rfl).trans ((t_slack hT).trans (((h2.1 1204 rfl).trans (h1.1 1204 rfl)).symm)))),
    ((h2.1 14014 rfl).trans ((h1.1 14014 rfl).trans ((t_base hT).trans (((h2.1 9 rfl).trans (h1.1 9 rfl)).symm)))),
    ((h2.1 14025 rfl).trans ((h1.1 14025 rfl).trans ((t_laters hT).trans (((h2.1 5809 rfl).trans (h1.1 5809 rfl)).symm)))),
    (by rw [h2.1 14037 rfl, h2.1 11701 rfl]; show 0 = σ2.1 11701; rw [h1.1 11701 rfl]; show 0 = 0; rw []),
    ((h2.2.2.1 141 rfl).trans ((h1.2.2.1 141 rfl).trans ((t_list hT).trans (((h2.2.2.1 2 rfl).trans (h1.2.2.1 2 rfl)).symm)))),
    ((h2.2.2.1 142 rfl).trans ((h1.2.2.1 142 rfl).trans ((t_publ hT).trans (((h2.2.2.1 3 rfl).trans (h1.2.2.1 3 rfl)).symm)))),
    ((h2.2.2.1 143 rfl).trans ((h1.2.2.1 143 rfl).trans ((t_numb hT).trans (((h2.2.2.1 4 rfl).trans (h1.2.2.1 4 rfl)).symm)))),
    ((h2.2.2.1 144 rfl).trans ((h1.2.2.1 144 rfl).trans ((t_back hT).trans (((h2.2.2.1 5 rfl).trans (h1.2.2.1 5 rfl)).symm)))),
    ((h2.2.2.1 146 rfl).trans ((h1.2.2.1 146 rfl).trans ((t_sky hT).trans (((h2.2.2.1 7 rfl).trans (h1.2.2.1 7 rfl)).symm)))),
    ((h2.2.2.1 147 rfl).trans ((h1.2.2.1 147 rfl).trans ((t_post hT).trans (((h2.2.2.1 8 rfl).trans (h1.2.2.1 8 rfl)).symm)))),
    ((h2.2.2.1 148 rfl).trans ((h1.2.2.1 148 rfl).trans ((t_told hT).trans (((h2.2.2.1 9 rfl).trans (h1.2.2.1 9 rfl)).symm)))),
    ((h2.2.2.1 149 rfl).trans ((h1.2.2.1 149 rfl).trans ((t_lett hT).trans (((h2.2.2.1 11 rfl).trans (h1.2.2.1 11 rfl)).symm)))),
    ((h2.2.2.1 156 rfl).trans ((h1.2.2.1 156 rfl).trans ((t_ffr hT).trans (((h2.2.2.1 59 rfl).trans (h1.2.2.1 59 rfl)).symm)))),
    ((h2.2.2.1 157 rfl).trans ((h1.2.2.1 157 rfl).trans ((t_fto hT).trans (((h2.2.2.1 60 rfl).trans (h1.2.2.1 60 rfl)).symm)))),
    ((h2.2.2.1 159 rfl).trans ((h1.2.2.1 159 rfl).trans ((t_bfr hT).trans (((h2.2.2.1 61 rfl).trans (h1.2.2.1 61 rfl)).symm)))),
    ((h2.2.2.1 160 rfl).trans ((h1.2.2.1 160 rfl).trans ((t_bto hT).trans (((h2.2.2.1 62 rfl).trans (h1.2.2.1 62 rfl)).symm)))),
    ((h2.2.2.1 161 rfl).trans ((h1.2.2.1 161 rfl).trans ((t_late hT).trans (((h2.2.2.1 84 rfl).trans (h1.2.2.1 84 rfl)).symm)))),
    ((h2.2.2.1 162 rfl).trans ((h1.2.2.1 162 rfl).trans ((t_earl hT).trans (((h2.2.2.1 85 rfl).trans (h1.2.2.1 85 rfl)).symm)))),
    ((h2.2.2.1 167 rfl).trans ((h1.2.2.1 167 rfl).trans ((t_cell hT).trans (((h2.2.2.1 94 rfl).trans (h1.2.2.1 94 rfl)).symm)))),
    ((h2.2.2.1 168 rfl).trans ((h1.2.2.1 168 rfl).trans ((t_views hT).trans (((h2.2.2.1 116 rfl).trans (h1.2.2.1 116 rfl)).symm)))),
    ((h2.2.2.1 170 rfl).trans ((h1.2.2.1 170 rfl).trans ((t_text hT).trans (((h2.2.2.1 118 rfl).trans (h1.2.2.1 118 rfl)).symm)))),
    ((h2.2.2.2.1 145).trans ((h1.2.2.2.1 145).trans ((t_pict hT).trans (((h2.2.2.2.1 6).trans (h1.2.2.2.1 6)).symm)))),
    ((h2.2.1 14034 rfl).trans ((h1.2.1 14034 rfl).trans ((t_wall hT).trans (((h2.2.1 9301 rfl).trans (h1.2.1 9301 rfl)).symm)))),
    (fun c f hc hs hf => by rw [((h2.1 110 rfl).trans (h1.1 110 rfl))] at hs; rw [((h2.2.2.1 158 rfl).trans (h1.2.2.1 158 rfl)), (((h2.2.2.1 (64 + c) (scA_64 hc)).trans (kr_X9_erase_64 _ c hc)).trans ((h1.2.2.1 (64 + c) (scA_64 hc)).trans (kr_X8_erase_64 _ c hc)))]; exact t_shown hT c f hc hs hf),
    (fun c f hc hs hf => by rw [((h2.1 110 rfl).trans (h1.1 110 rfl))] at hs; rw [(((h2.2.2.1 (64 + c) (scA_64 hc)).trans (kr_X9_erase_64 _ c hc)).trans ((h1.2.2.1 (64 + c) (scA_64 hc)).trans (kr_X8_erase_64 _ c hc)))]; exact t_hid hT c f hc hs hf),
    (fun c k hc hk => by rw [((h2.2.2.1 116 rfl).trans (h1.2.2.1 116 rfl))] at hk; rw [((h2.2.2.1 169 rfl).trans (h1.2.2.1 169 rfl)), (((h2.2.2.1 (96 + c) (scA_96 hc)).trans (kr_X9_erase_96 _ c hc)).trans ((h1.2.2.1 (96 + c) (scA_96 hc)).trans (kr_X8_erase_96 _ c hc)))]; exact t_seen hT c k hc hk),
    (fun i j hij hj hs => by rw [((h2.1 110 rfl).trans (h1.1 110 rfl))] at hs; rw [((h2.2.2.1 9 rfl).trans (h1.2.2.1 9 rfl))]; exact t_mono hT i j hij hj hs),
    (fun j hj hs => by rw [((h2.1 110 rfl).trans (h1.1 110 rfl))] at hs; rw [((h2.2.2.1 9 rfl).trans (h1.2.2.1 9 rfl)), ((h2.1 111 rfl).trans (h1.1 111 rfl))]; exact t_last hT j hj hs),
    (by rw [((h2.1 111 rfl).trans (h1.1 111 rfl))]; exact (show inR (σ.1 111) 0 999 from t_dayr hT)),
    (fun l hl => by rw [((h2.2.2.1 94 rfl).trans (h1.2.2.1 94 rfl))]; exact (show inR (σ.2.2.1 94 l) 0 64 from t_cellr hT l hl)),
    (fun i hi => by rw [((h2.2.2.1 3 rfl).trans (h1.2.2.1 3 rfl))]; exact (show inR (σ.2.2.1 3 i) 0 4 from t_pubr hT i hi)),
    (fun c i hc hi => by rw [((h2.2.2.1 11 rfl).trans (h1.2.2.1 11 rfl))] at hi; rw [((h2.2.2.1 150 rfl).trans (h1.2.2.1 150 rfl)), ((h2.2.2.2.1 10).trans (h1.2.2.2.1 10))]; exact t_capt hT c i hc hi)⟩
set_option maxRecDepth 100000 in
theorem tie_landmark {σ σ2 σ3 : Sg} (a b : Int32) (hT : Tie σ) (hI : Inv σ) (hk : K_landmark a b = true) (h1 : Cor (E_X8_landmark σ a b) σ2) (h2 : Cor (E_X9_landmark σ2 a b) σ3) : Tie σ3 := by
  refine ⟨((h2.1 14000 rfl).trans ((h1.1 14000 rfl).trans ((t_size hT).trans (((h2.1 110 rfl).trans (h1.1 110 rfl)).symm)))),
    ((h2.1 14011 rfl).trans ((h1.1 14011 rfl).trans ((t_day hT).trans (((h2.1 111 rfl).trans (h1.1 111 rfl)).symm)))),
    ((h2.1 14013 rfl).trans ((h1.1 14013 rfl).trans ((t_asof hT).trans (((h2.1 112 rfl).trans (h1.1 112 rfl)).symm)))),
    ((h2.1 14012 rfl).trans ((h1.1 14012 rfl).trans ((t_slack hT).trans (((h2.1 1204 rfl).trans (h1.1 1204 rfl)).symm)))),
    ((h2.1 14014 rfl).trans ((h1.1 14014 rfl).trans ((t_base hT).trans (((h2.1 9 rfl).trans (h1.1 9 rfl)).symm)))),
    ((h2.1 14025 rfl).trans ((h1.1 14025 rfl).trans ((t_laters hT).trans (((h2.1 5809 rfl).trans (h1.1 5809 rfl)).symm)))),
    ((h2.1 14037 rfl).trans ((h1.1 14037 rfl).trans ((t_bytes hT).trans (((h2.1 11701 rfl).trans (h1.1 11701 rfl)).symm)))),
    ((h2.2.2.1 141 rfl).trans ((h1.2.2.1 141 rfl).trans ((t_list hT).trans (((h2.2.2.1 2 rfl).trans (h1.2.2.1 2 rfl)).symm)))),
    ((h2.2.2.1 142 rfl).trans ((h1.2.2.1 142 rfl).trans ((t_publ hT).trans (((h2.2.2.1 3 rfl).trans (h1.2.2.1 3 rfl)).symm)))),
    ((h2.2.2.1 143 rfl).trans ((h1.2.2.1 143 rfl).trans ((t_numb hT).trans (((h2.2.2.1 4 rfl).trans (h1.2.2.1 4 rfl)).symm)))),
    ((h2.2.2.1 144 rfl).trans ((h1.2.2.1 144 rfl).trans ((t_back hT).trans (((h2.2.2.1 5 rfl).trans (h1.2.2.1 5 rfl)).symm)))),
    ((h2.2.2.1 146 rfl).trans ((h1.2.2.1 146 rfl).trans ((t_sky hT).trans (((h2.2.2.1 7 rfl).trans (h1.2.2.1 7 rfl)).symm)))),
    ((h2.2.2.1 147 rfl).trans ((h1.2.2.1 147 rfl).trans ((t_post hT).trans (((h2.2.2.1 8 rfl).trans (h1.2.2.1 8 rfl)).symm)))),
    ((h2.2.2.1 148 rfl).trans ((h1.2.2.1 148 rfl).trans ((t_told hT).trans (((h2.2.2.1 9 rfl).trans (h1.2.2.1 9 rfl)).symm)))),
    ((h2.2.2.1 149 rfl).trans ((h1.2.2.1 149 rfl).trans ((t_lett hT).trans (((h2.2.2.1 11 rfl).trans (h1.2.2.1 11 rfl)).symm)))),
    ((h2.2.2.1 156 rfl).trans ((h1.2.2.1 156 rfl).trans ((t_ffr hT).trans (((h2.2.2.1 59 rfl).trans (h1.2.2.1 59 rfl)).symm)))),
    ((h2.2.2.1 157 rfl).trans ((h1.2.2.1 157 rfl).trans ((t_fto hT).trans (((h2.2.2.1 60 rfl).trans (h1.2.2.1 60 rfl)).symm)))),
    ((h2.2.2.1 159 rfl).trans ((h1.2.2.1 159 rfl).trans ((t_bfr hT).trans (((h2.2.2.1 61 rfl).trans (h1.2.2.1 61 rfl)).symm)))),
    ((h2.2.2.1 160 rfl).trans ((h1.2.2.1 160 rfl).trans ((t_bto hT).trans (((h2.2.2.1 62 rfl).trans (h1.2.2.1 62 rfl)).symm)))),
    ((h2.2.2.1 161 rfl).trans ((h1.2.2.1 161 rfl).trans ((t_late hT).trans (((h2.2.2.1 84 rfl).trans (h1.2.2.1 84 rfl)).symm)))),
    ((h2.2.2.1 162 rfl).trans ((h1.2.2.1 162 rfl).trans ((t_earl hT).trans (((h2.2.2.1 85 rfl).trans (h1.2.2.1 85 rfl)).symm)))),
    (by rw [h2.2.2.1 167 rfl, h2.2.2.1 94 rfl]; show (upd (σ2.2.2.1 167) (Int32.toNatClampNeg a) b) = σ2.2.2.1 94; rw [h1.2.2.1 167 rfl, h1.2.2.1 94 rfl]; show (upd (σ.2.2.1 167) (Int32.toNatClampNeg a) b) = (upd (σ.2.2.1 94) (Int32.toNatClampNeg a) b); rw [t_cell hT]),
    ((h2.2.2.1 168 rfl).trans ((h1.2.2.1 168 rfl).trans ((t_views hT).trans (((h2.2.2.1 116 rfl).trans (h1.2.2.1 116 rfl)).symm)))),
    ((h2.2.2.1 170 rfl).trans ((h1.2.2.1 170 rfl).trans ((t_text hT).trans (((h2.2.2.1 118 rfl).trans (h1.2.2.1 118 rfl)).symm)))),
    ((h2.2.2.2.1 145).trans ((h1.2.2.2.1 145).trans ((t_pict hT).trans (((h2.2.2.2.1 6).trans (h1.2.2.2.1 6)).symm)))),
    ((h2.2.1 14034 rfl).trans ((h1.2.1 14034 rfl).trans ((t_wall hT).trans (((h2.2.1 9301 rfl).trans (h1.2.1 9301 rfl)).symm)))),
    (fun c f hc hs hf => by rw [((h2.1 110 rfl).trans (h1.1 110 rfl))] at hs; rw [((h2.2.2.1 158 rfl).trans (h1.2.2.1 158 rfl)), (((h2.2.2.1 (64 + c) (scA_64 hc)).trans (kr_X9_landmark_64 _ _ _ c hc)).trans ((h1.2.2.1 (64 + c) (scA_64 hc)).trans (kr_X8_landmark_64 _ _ _ c hc)))]; exact t_shown hT c f hc hs hf),
    (fun c f hc hs hf => by rw [((h2.1 110 rfl).trans (h1.1 110 rfl))] at hs; rw [(((h2.2.2.1 (64 + c) (scA_64 hc)).trans (kr_X9_landmark_64 _ _ _ c hc)).trans ((h1.2.2.1 (64 + c) (scA_64 hc)).trans (kr_X8_landmark_64 _ _ _ c hc)))]; exact t_hid hT c f hc hs hf),
    (fun c k hc hk => by rw [((h2.2.2.1 116 rfl).trans (h1.2.2.1 116 rfl))] at hk; rw [((h2.2.2.1 169 rfl).trans (h1.2.2.1 169 rfl)), (((h2.2.2.1 (96 + c) (scA_96 hc)).trans (kr_X9_landmark_96 _ _ _ c hc)).trans ((h1.2.2.1 (96 + c) (scA_96 hc)).trans (kr_X8_landmark_96 _ _ _ c hc)))]; exact t_seen hT c k hc hk),
    (fun i j hij hj hs => by rw [((h2.1 110 rfl).trans (h1.1 110 rfl))] at hs; rw [((h2.2.2.1 9 rfl).trans (h1.2.2.1 9 rfl))]; exact t_mono hT i j hij hj hs),
    (fun j hj hs => by rw [((h2.1 110 rfl).trans (h1.1 110 rfl))] at hs; rw [((h2.2.2.1 9 rfl).trans (h1.2.2.1 9 rfl)), ((h2.1 111 rfl).trans (h1.1 111 rfl))]; exact t_last hT j hj hs),
    (by rw [((h2.1 111 rfl).trans (h1.1 111 rfl))]; exact (show inR (σ.1 111) 0 999 from t_dayr hT)),
    (fun l hl => by rw [((h2.2.2.1 94 rfl).trans (h1.2.2.1 94 rfl))]; exact (show inR (upd (σ.2.2.1 94) (Int32.toNatClampNeg a) b l) 0 64 from in_upd (t_cellr hT l hl) (lm_kr hk))),
    (fun i hi => by rw [((h2.2.2.1 3 rfl).trans (h1.2.2.1 3 rfl))]; exact (show inR (σ.2.2.1 3 i) 0 4 from t_pubr hT i hi)),
    (fun c i hc hi => by rw [((h2.2.2.1 11 rfl).trans (h1.2.2.1 11 rfl))] at hi; rw [((h2.2.2.1 150 rfl).trans (h1.2.2.1 150 rfl)), ((h2.2.2.2.1 10).trans (h1.2.2.2.1 10))]; exact t_capt hT c i hc hi)⟩
set_option maxRecDepth 100000 in
theorem tie_days {σ σ2 σ3 : Sg} (a : Int32) (hT : Tie σ) (hI : Inv σ) (hk : K_days (σ.1 111) a = true) (h1 : Cor (E_X8_days σ a) σ2) (h2 : Cor (E_X9_days σ2 a) σ3) : Tie σ3 := by
  refine ⟨((h2.1 14000 rfl).trans ((h1.1 14000 rfl).trans ((t_size hT).trans (((h2.1 110 rfl).trans (h1.1 110 rfl)).symm)))),
    (by rw [h2.1 14011 rfl, h2.1 111 rfl]; show ((σ2.1 14011) + a) = σ2.1 111; rw [h1.1 14011 rfl, h1.1 111 rfl]; show ((σ.1 14011) + a) = ((σ.1 111) + a); rw [t_day hT]),
    ((h2.1 14013 rfl).trans ((h1.1 14013 rfl).trans ((t_asof hT).trans (((h2.1 112 rfl).trans (h1.1 112 rfl)).symm)))),
    ((h2.1 14012 rfl).trans ((h1.1 14012 rfl).trans ((t_slack hT).trans (((h2.1 1204 rfl).trans (h1.1 1204 rfl)).symm)))),
    ((h2.1 14014 rfl).trans ((h1.1 14014 rfl).trans ((t_base hT).trans (((h2.1 9 rfl).trans (h1.1 9 rfl)).symm)))),
    ((h2.1 14025 rfl).trans ((h1.1 14025 rfl).trans ((t_laters hT).trans (((h2.1 5809 rfl).trans (h1.1 5809 rfl)).symm)))),
    ((h2.1 14037 rfl).trans ((h1.1 14037 rfl).trans ((t_bytes hT).trans (((h2.1 11701 rfl).trans (h1.1 11701 rfl)).symm)))),
    ((h2.2.2.1 141 rfl).trans ((h1.2.2.1 141 rfl).trans ((t_list hT).trans (((h2.2.2.1 2 rfl).trans (h1.2.2.1 2 rfl)).symm)))),
    ((h2.2.2.1 142 rfl).trans ((h1.2.2.1 142 rfl).trans ((t_publ hT).trans (((h2.2.2.1 3 rfl).trans (h1.2.2.1 3 rfl)).symm)))),
    ((h2.2.2.1 143 rfl).trans ((h1.2.2.1 143 rfl).trans ((t_numb hT).trans (((h2.2.2.1 4 rfl).trans (h1.2.2.1 4 rfl)).symm)))),
    ((h2.2.2.1 144 rfl).trans ((h1.2.2.1 144 rfl).trans ((t_back hT).trans (((h2.2.2.1 5 rfl).trans (h1.2.2.1 5 rfl)).symm)))),
    ((h2.2.2.1 146 rfl).trans ((h1.2.2.1 146 rfl).trans ((t_sky hT).trans (((h2.2.2.1 7 rfl).trans (h1.2.2.1 7 rfl)).symm)))),
    ((h2.2.2.1 147 rfl).trans ((h1.2.2.1 147 rfl).trans ((t_post hT).trans (((h2.2.2.1 8 rfl).trans (h1.2.2.1 8 rfl)).symm)))),
    ((h2.2.2.1 148 rfl).trans ((h1.2.2.1 148 rfl).trans ((t_told hT).trans (((h2.2.2.1 9 rfl).trans (h1.2.2.1 9 rfl)).symm)))),
    ((h2.2.2.1 149 rfl).trans ((h1.2.2.1 149 rfl).trans ((t_lett hT).trans (((h2.2.2.1 11 rfl).trans (h1.2.2.1 11 rfl)).symm)))),
    ((h2.2.2.1 156 rfl).trans ((h1.2.2.1 156 rfl).trans ((t_ffr hT).trans (((h2.2.2.1 59 rfl).trans (h1.2.2.1 59 rfl)).symm)))),
    ((h2.2.2.1 157 rfl).trans ((h1.2.2.1 157 rfl).trans ((t_fto hT).trans (((h2.2.2.1 60 rfl).trans (h1.2.2.1 60 rfl)).symm)))),
    ((h2.2.2.1 159 rfl).trans ((h1.2.2.1 159 rfl).trans ((t_bfr hT).trans (((h2.2.2.1 61 rfl).trans (h1.2.2.1 61 rfl)).symm)))),
    ((h2.2.2.1 160 rfl).trans ((h1.2.2.1 160 rfl).trans ((t_bto hT).trans (((h2.2.2.1 62 rfl).trans (h1.2.2.1 62 rfl)).symm)))),
    ((h2.2.2.1 161 rfl).trans ((h1.2.2.1 161 rfl).trans ((t_late hT).trans (((h2.2.2.1 84 rfl).trans (h1.2.2.1 84 rfl)).symm)))),
    ((h2.2.2.1 162 rfl).trans ((h1.2.2.1 162 rfl).trans ((t_earl hT).trans (((h2.2.2.1 85 rfl).trans (h1.2.2.1 85 rfl)).symm)))),
    ((h2.2.2.1 167 rfl).trans ((h1.2.2.1 167 rfl).trans ((t_cell hT).trans (((h2.2.2.1 94 rfl).trans (h1.2.2.1 94 rfl)).symm)))),
    ((h2.2.2.1 168 rfl).trans ((h1.2.2.1 168 rfl).trans ((t_views hT).trans (((h2.2.2.1 116 rfl).trans (h1.2.2.1 116 rfl)).symm)))),
    ((h2.2.2.1 170 rfl).trans ((h1.2.2.1 170 rfl).trans ((t_text hT).trans (((h2.2.2.1 118 rfl).trans (h1.2.2.1 118 rfl)).symm)))),
    ((h2.2.2.2.1 145).trans ((h1.2.2.2.1 145).trans ((t_pict hT).trans (((h2.2.2.2.1 6).trans (h1.2.2.2.1 6)).symm)))),
    ((h2.2.1 14034 rfl).trans ((h1.2.1 14034 rfl).trans ((t_wall hT).trans (((h2.2.1 9301 rfl).trans (h1.2.1 9301 rfl)).symm)))),
    (fun c f hc hs hf => by rw [((h2.1 110 rfl).trans (h1.1 110 rfl))] at hs; rw [((h2.2.2.1 158 rfl).trans (h1.2.2.1 158 rfl)), (((h2.2.2.1 (64 + c) (scA_64 hc)).trans (kr_X9_days_64 _ _ c hc)).trans ((h1.2.2.1 (64 + c) (scA_64 hc)).trans (kr_X8_days_64 _ _ c hc)))]; exact t_shown hT c f hc hs hf),
    (fun c f hc hs hf => by rw [((h2.1 110 rfl).trans (h1.1 110 rfl))] at hs; rw [(((h2.2.2.1 (64 + c) (scA_64 hc)).trans (kr_X9_days_64 _ _ c hc)).trans ((h1.2.2.1 (64 + c) (scA_64 hc)).trans (kr_X8_days_64 _ _ c hc)))]; exact t_hid hT c f hc hs hf),
    (fun c k hc hk => by rw [((h2.2.2.1 116 rfl).trans (h1.2.2.1 116 rfl))] at hk; rw [((h2.2.2.1 169 rfl).trans (h1.2.2.1 169 rfl)), (((h2.2.2.1 (96 + c) (scA_96 hc)).trans (kr_X9_days_96 _ _ c hc)).trans ((h1.2.2.1 (96 + c) (scA_96 hc)).trans (kr_X8_days_96 _ _ c hc)))]; exact t_seen hT c k hc hk),
    (fun i j hij hj hs => by rw [((h2.1 110 rfl).trans (h1.1 110 rfl))] at hs; rw [((h2.2.2.1 9 rfl).trans (h1.2.2.1 9 rfl))]; exact t_mono hT i j hij hj hs),
    (fun j hj hs => by rw [((h2.1 110 rfl).trans (h1.1 110 rfl))] at hs; rw [((h2.2.2.1 9 rfl).trans (h1.2.2.1 9 rfl)), ((h2.1 111 rfl).trans (h1.1 111 rfl))]; exact Int32.le_trans (t_last hT j hj hs) (day_add (t_dayr hT) hk).2),
    (by rw [((h2.1 111 rfl).trans (h1.1 111 rfl))]; exact (day_add (t_dayr hT) hk).1),
    (fun l hl => by rw [((h2.2.2.1 94 rfl).trans (h1.2.2.1 94 rfl))]; exact (show inR (σ.2.2.1 94 l) 0 64 from t_cellr hT l hl)),
    (fun i hi => by rw [((h2.2.2.1 3 rfl).trans (h1.2.2.1 3 rfl))]; exact (show inR (σ.2.2.1 3 i) 0 4 from t_pubr hT i hi)),
    (fun c i hc hi => by rw [((h2.2.2.1 11 rfl).trans (h1.2.2.1 11 rfl))] at hi; rw [((h2.2.2.1 150 rfl).trans (h1.2.2.1 150 rfl)), ((h2.2.2.2.1 10).trans (h1.2.2.2.1 10))]; exact t_capt hT c i hc hi)⟩
set_option maxRecDepth 100000 in
theorem tie_unview {σ σ2 σ3 : Sg} (c : Int32) (hT : Tie σ) (hI : Inv σ) (hc9 : inR c 0 19) (h1 : Cor (E_X8_unview σ c) σ2) (h2 : Cor (E_X9_unview σ2 c) σ3) : Tie σ3 := by
  refine ⟨((h2.1 14000 rfl).trans ((h1.1 14000 rfl).trans ((t_size hT).trans (((h2.1 110 rfl).trans (h1.1 110 rfl)).symm)))),
    ((h2.1 14011 rfl).trans ((h1.1 14011 rfl).trans ((t_day hT).trans (((h2.1 111 rfl).trans (h1.1 111 rfl)).symm)))),
    ((h2.1 14013 rfl).trans ((h1.1 14013 rfl).trans ((t_asof hT).trans (((h2.1 112 rfl).trans (h1.1 112 rfl)).symm)))),
    ((h2.1 14012 rfl).trans ((h1.1 14012 rfl).trans ((t_slack hT).trans (((h2.1 1204 rfl).trans (h1.1 1204 rfl)).symm)))),
    ((h2.1 14014 rfl).trans ((h1.1 14014 rfl).trans ((t_base hT).trans (((h2.1 9 rfl).trans (h1.1 9 rfl)).symm)))),
    ((h2.1 14025 rfl).trans ((h1.1 14025 rfl).trans ((t_laters hT).trans (((h2.1 5809 rfl).trans (h1.1 5809 rfl)).symm)))),
    ((h2.1 14037 rfl).trans ((h1.1 14037 rfl).trans ((t_bytes hT).trans (((h2.1 11701 rfl).trans (h1.1 11701 rfl)).symm)))),
    ((h2.2.2.1 141 rfl).trans ((h1.2.2.1 141 rfl).trans ((t_list hT).trans (((h2.2.2.1 2 rfl).trans (h1.2.2.1 2 rfl)).symm)))),
    ((h2.2.2.1 142 rfl).trans ((h1.2.2.1 142 rfl).trans ((t_publ hT).trans (((h2.2.2.1 3 rfl).trans (h1.2.2.1 3 rfl)).symm)))),
    ((h2.2.2.1 143 rfl).trans ((h1.2.2.1 143 rfl).trans ((t_numb hT).trans (((h2.2.2.1 4 rfl).trans (h1.2.2.1 4 rfl)).symm)))),
    ((h2.2.2.1 144 rfl).trans ((h1.2.2.1 144 rfl).trans ((t_back hT).trans (((h2.2.2.1 5 rfl).trans (h1.2.2.1 5 rfl)).symm)))),
    ((h2.2.2.1 146 rfl).trans ((h1.2.2.1 146 rfl).trans ((t_sky hT).trans (((h2.2.2.1 7 rfl).trans (h1.2.2.1 7 rfl)).symm)))),
    ((h2.2.2.1 147 rfl).trans ((h1.2.2.1 147 rfl).trans ((t_post hT).trans (((h2.2.2.1 8 rfl).trans (h1.2.2.1 8 rfl)).symm)))),
    ((h2.2.2.1 148 rfl).trans ((h1.2.2.1 148 rfl).trans ((t_told hT).trans (((h2.2.2.1 9 rfl).trans (h1.2.2.1 9 rfl)).symm)))),
    ((h2.2.2.1 149 rfl).trans ((h1.2.2.1 149 rfl).trans ((t_lett hT).trans (((h2.2.2.1 11 rfl).trans (h1.2.2.1 11 rfl)).symm)))),
    ((h2.2.2.1 156 rfl).trans ((h1.2.2.1 156 rfl).trans ((t_ffr hT).trans (((h2.2.2.1 59 rfl).trans (h1.2.2.1 59 rfl)).symm)))),
    ((h2.2.2.1 157 rfl).trans ((h1.2.2.1 157 rfl).trans ((t_fto hT).trans (((h2.2.2.1 60 rfl).trans (h1.2.2.1 60 rfl)).symm)))),
    ((h2.2.2.1 159 rfl).trans ((h1.2.2.1 159 rfl).trans ((t_bfr hT).trans (((h2.2.2.1 61 rfl).trans (h1.2.2.1 61 rfl)).symm)))),
    ((h2.2.2.1 160 rfl).trans ((h1.2.2.1 160 rfl).trans ((t_bto hT).trans (((h2.2.2.1 62 rfl).trans (h1.2.2.1 62 rfl)).symm)))),
    ((h2.2.2.1 161 rfl).trans ((h1.2.2.1 161 rfl).trans ((t_late hT).trans (((h2.2.2.1 84 rfl).trans (h1.2.2.1 84 rfl)).symm)))),
    ((h2.2.2.1 162 rfl).trans ((h1.2.2.1 162 rfl).trans ((t_earl hT).trans (((h2.2.2.1 85 rfl).trans (h1.2.2.1 85 rfl)).symm)))),
    ((h2.2.2.1 167 rfl).trans ((h1.2.2.1 167 rfl).trans ((t_cell hT).trans (((h2.2.2.1 94 rfl).trans (h1.2.2.1 94 rfl)).symm)))),
    (by rw [h2.2.2.1 168 rfl, h2.2.2.1 116 rfl]; show (upd (σ2.2.2.1 168) (Int32.toNatClampNeg c) 0) = σ2.2.2.1 116; rw [h1.2.2.1 168 rfl, h1.2.2.1 116 rfl]; show (upd (σ.2.2.1 168) (Int32.toNatClampNeg c) 0) = (upd (σ.2.2.1 116) (Int32.toNatClampNeg c) 0); rw [t_views hT]),
    ((h2.2.2.1 170 rfl).trans ((h1.2.2.1 170 rfl).trans ((t_text hT).trans (((h2.2.2.1 118 rfl).trans (h1.2.2.1 118 rfl)).symm)))),
    ((h2.2.2.2.1 145).trans ((h1.2.2.2.1 145).trans ((t_pict hT).trans (((h2.2.2.2.1 6).trans (h1.2.2.2.1 6)).symm)))),
    ((h2.2.1 14034 rfl).trans ((h1.2.1 14034 rfl).trans ((t_wall hT).trans (((h2.2.1 9301 rfl).trans (h1.2.1 9301 rfl)).symm)))),
    (fun c f hc hs hf => by rw [((h2.1 110 rfl).trans (h1.1 110 rfl))] at hs; rw [((h2.2.2.1 158 rfl).trans (h1.2.2.1 158 rfl)), (((h2.2.2.1 (64 + c) (scA_64 hc)).trans (kr_X9_unview_64 _ _ c hc)).trans ((h1.2.2.1 (64 + c) (scA_64 hc)).trans (kr_X8_unview_64 _ _ c hc)))]; exact t_shown hT c f hc hs hf),
    (fun c f hc hs hf => by rw [((h2.1 110 rfl).trans (h1.1 110 rfl))] at hs; rw [(((h2.2.2.1 (64 + c) (scA_64 hc)).trans (kr_X9_unview_64 _ _ c hc)).trans ((h1.2.2.1 (64 + c) (scA_64 hc)).trans (kr_X8_unview_64 _ _ c hc)))]; exact t_hid hT c f hc hs hf),
    (fun d k hd hk => by
      rw [((h2.2.2.1 116 rfl).trans (h1.2.2.1 116 rfl))] at hk
      rw [((h2.2.2.1 169 rfl).trans (h1.2.2.1 169 rfl)), (((h2.2.2.1 (96 + d) (scA_96 hd)).trans (kr_X9_unview_96 _ _ d hd)).trans ((h1.2.2.1 (96 + d) (scA_96 hd)).trans (kr_X8_unview_96 _ _ d hd)))]
      have hk2 : k < (upd (σ.2.2.1 116) (Int32.toNatClampNeg c) 0 d).toNatClampNeg := hk
      by_cases e : d = (Int32.toNatClampNeg c)
      · rw [e, upd_at] at hk2; exact absurd hk2 (Nat.not_lt_zero k)
      · rw [upd_ne _ e] at hk2; exact t_seen hT d k hd hk2),
    (fun i j hij hj hs => by rw [((h2.1 110 rfl).trans (h1.1 110 rfl))] at hs; rw [((h2.2.2.1 9 rfl).trans (h1.2.2.1 9 rfl))]; exact t_mono hT i j hij hj hs),
    (fun j hj hs => by rw [((h2.1 110 rfl).trans (h1.1 110 rfl))] at hs; rw [((h2.2.2.1 9 rfl).trans (h1.2.2.1 9 rfl)), ((h2.1 111 rfl).trans (h1.1 111 rfl))]; exact t_last hT j hj hs),
    (by rw [((h2.1 111 rfl).trans (h1.1 111 rfl))]; exact (show inR (σ.1 111) 0 999 from t_dayr hT)),
    (fun l hl => by rw [((h2.2.2.1 94 rfl).trans (h1.2.2.1 94 rfl))]; exact (show inR (σ.2.2.1 94 l) 0 64 from t_cellr hT l hl)),
    (fun i hi => by rw [((h2.2.2.1 3 rfl).trans (h1.2.2.1 3 rfl))]; exact (show inR (σ.2.2.1 3 i) 0 4 from t_pubr hT i hi)),
    (fun c i hc hi => by rw [((h2.2.2.1 11 rfl).trans (h1.2.2.1 11 rfl))] at hi; rw [((h2.2.2.1 150 rfl).trans (h1.2.2.1 150 rfl)), ((h2.2.2.2.1 10).trans (h1.2.2.2.1 10))]; exact t_capt hT c i hc hi)⟩
theorem ka_X8_shows {σ : Sg} {c f v : Int32} (hc : inR c 0 19) (p : Nat) (hp : p < 64 ∨ 84 ≤ p) : (E_X8_shows σ c f v).2.2.1 p = σ.2.2.1 p := by
  have h := clamp19 hc
  show va_up σ.2.2.1 (64 + (Int32.toNatClampNeg c)) _ p = _
  rw [up_ne _ (by omega)]
theorem ka_X8_view {σ : Sg} {c l9 : Int32} (hc : inR c 0 19) (p : Nat) (hp : p < 96 ∨ 116 < p) : (E_X8_view σ c l9).2.2.1 p = σ.2.2.1 p := by
  have h := clamp19 hc
  show va_up (va_up σ.2.2.1 (96 + (Int32.toNatClampNeg c)) _) 116 _ p = _
  rw [up_ne _ (by omega), up_ne _ (by omega)]
set_option maxRecDepth 100000 in
theorem tie_shows {σ σ2 σ3 : Sg} (c f v : Int32) (hT : Tie σ) (hI : Inv σ) (hc9 : inR c 0 19) (hf9 : inR f 0 7) (hs9 : nI c.toNatClampNeg < σ.1 110) (h1 : Cor (E_X8_shows σ c f v) σ2) (h2 : Cor (E_X9_shows σ2 c f v) σ3) : Tie σ3 := by
  refine ⟨((h2.1 14000 rfl).trans ((h1.1 14000 rfl).trans ((t_size hT).trans (((h2.1 110 rfl).trans (h1.1 110 rfl)).symm)))),
    ((h2.1 14011 rfl).trans ((h1.1 14011 rfl).trans ((t_day hT).trans (((h2.1 111 rfl).trans (h1.1 111 rfl)).symm)))),
    ((h2.1 14013 rfl).trans ((h1.1 14013 rfl).trans ((t_asof hT).trans (((h2.1 112 rfl).trans (h1.1 112 rfl)).symm)))),
    ((h2.1 14012 rfl).trans ((h1.1 14012 rfl).trans ((t_slack hT).trans (((h2.1 1204 rfl).trans (h1.1 1204 rfl)).symm)))),
    ((h2.1 14014 rfl).trans ((h1.1 14014 rfl).trans ((t_base hT).trans (((h2.1 9 rfl).trans (h1.1 9 rfl)).symm)))),
    ((h2.1 14025 rfl).trans ((h1.1 14025 rfl).trans ((t_laters hT).trans (((h2.1 5809 rfl).trans (h1.1 5809 rfl)).symm)))),
    ((h2.1 14037 rfl).trans ((h1.1 14037 rfl).trans ((t_bytes hT).trans (((h2.1 11701 rfl).trans (h1.1 11701 rfl)).symm)))),
    ((h2.2.2.1 141 rfl).trans (((h1.2.2.1 141 rfl).trans (ka_X8_shows hc9 141 (by omega))).trans ((t_list hT).trans (((h2.2.2.1 2 rfl).trans ((h1.2.2.1 2 rfl).trans (ka_X8_shows hc9 2 (by omega)))).symm)))),
    ((h2.2.2.1 142 rfl).trans (((h1.2.2.1 142 rfl).trans (ka_X8_shows hc9 142 (by omega))).trans ((t_publ hT).trans (((h2.2.2.1 3 rfl).trans ((h1.2.2.1 3 rfl).trans (ka_X8_shows hc9 3 (by omega)))).symm)))),
    ((h2.2.2.1 143 rfl).trans (((h1.2.2.1 143 rfl).trans (ka_X8_shows hc9 143 (by omega))).trans ((t_numb hT).trans (((h2.2.2.1 4 rfl).trans ((h1.2.2.1 4 rfl).trans (ka_X8_shows hc9 4 (by omega)))).symm)))),
    ((h2.2.2.1 144 rfl).trans (((h1.2.2.1 144 rfl).trans (ka_X8_shows hc9 144 (by omega))).trans ((t_back hT).trans (((h2.2.2.1 5 rfl).trans ((h1.2.2.1 5 rfl).trans (ka_X8_shows hc9 5 (by omega)))).symm)))),
    ((h2.2.2.1 146 rfl).trans (((h1.2.2.1 146 rfl).trans (ka_X8_shows hc9 146 (by omega))).trans ((t_sky hT).trans (((h2.2.2.1 7 rfl).trans ((h1.2.2.1 7 rfl).trans (ka_X8_shows hc9 7 (by omega)))).symm)))),
    ((h2.2.2.1 147 rfl).trans (((h1.2.2.1 147 rfl).trans (ka_X8_shows hc9 147 (by omega))).trans ((t_post hT).trans (((h2.2.2.1 8 rfl).trans ((h1.2.2.1 8 rfl).trans (ka_X8_shows hc9 8 (by omega)))).symm)))),
    ((h2.2.2.1 148 rfl).trans (((h1.2.2.1 148 rfl).trans (ka_X8_shows hc9 148 (by omega))).trans ((t_told hT).trans (((h2.2.2.1 9 rfl).trans ((h1.2.2.1 9 rfl).trans (ka_X8_shows hc9 9 (by omega)))).symm)))),
    ((h2.2.2.1 149 rfl).trans (((h1.2.2.1 149 rfl).trans (ka_X8_shows hc9 149 (by omega))).trans ((t_lett hT).trans (((h2.2.2.1 11 rfl).trans ((h1.2.2.1 11 rfl).trans (ka_X8_shows hc9 11 (by omega)))).symm)))),
    ((h2.2.2.1 156 rfl).trans (((h1.2.2.1 156 rfl).trans (ka_X8_shows hc9 156 (by omega))).trans ((t_ffr hT).trans (((h2.2.2.1 59 rfl).trans ((h1.2.2.1 59 rfl).trans (ka_X8_shows hc9 59 (by omega)))).symm)))),
    ((h2.2.2.1 157 rfl).trans (((h1.2.2.1 157 rfl).trans (ka_X8_shows hc9 157 (by omega))).trans ((t_fto hT).trans (((h2.2.2.1 60 rfl).trans ((h1.2.2.1 60 rfl).trans (ka_X8_shows hc9 60 (by omega)))).symm)))),
    ((h2.2.2.1 159 rfl).trans (((h1.2.2.1 159 rfl).trans (ka_X8_shows hc9 159 (by omega))).trans ((t_bfr hT).trans (((h2.2.2.1 61 rfl).trans ((h1.2.2.1 61 rfl).trans (ka_X8_shows hc9 61 (by omega)))).symm)))),
    ((h2.2.2.1 160 rfl).trans (((h1.2.2.1 160 rfl).trans (ka_X8_shows hc9 160 (by omega))).trans ((t_bto hT).trans (((h2.2.2.1 62 rfl).trans ((h1.2.2.1 62 rfl).trans (ka_X8_shows hc9 62 (by omega)))).symm)))),
    ((h2.2.2.1 161 rfl).trans (((h1.2.2.1 161 rfl).trans (ka_X8_shows hc9 161 (by omega))).trans ((t_late hT).trans (((h2.2.2.1 84 rfl).trans ((h1.2.2.1 84 rfl).trans (ka_X8_shows hc9 84 (by omega)))).symm)))),
    ((h2.2.2.1 162 rfl).trans (((h1.2.2.1 162 rfl).trans (ka_X8_shows hc9 162 (by omega))).trans ((t_earl hT).trans (((h2.2.2.1 85 rfl).trans ((h1.2.2.1 85 rfl).trans (ka_X8_shows hc9 85 (by omega)))).symm)))),
    ((h2.2.2.1 167 rfl).trans (((h1.2.2.1 167 rfl).trans (ka_X8_shows hc9 167 (by omega))).trans ((t_cell hT).trans (((h2.2.2.1 94 rfl).trans ((h1.2.2.1 94 rfl).trans (ka_X8_shows hc9 94 (by omega)))).symm)))),
    ((h2.2.2.1 168 rfl).trans (((h1.2.2.1 168 rfl).trans (ka_X8_shows hc9 168 (by omega))).trans ((t_views hT).trans (((h2.2.2.1 116 rfl).trans ((h1.2.2.1 116 rfl).trans (ka_X8_shows hc9 116 (by omega)))).symm)))),
    ((h2.2.2.1 170 rfl).trans (((h1.2.2.1 170 rfl).trans (ka_X8_shows hc9 170 (by omega))).trans ((t_text hT).trans (((h2.2.2.1 118 rfl).trans ((h1.2.2.1 118 rfl).trans (ka_X8_shows hc9 118 (by omega)))).symm)))),
    ((h2.2.2.2.1 145).trans ((h1.2.2.2.1 145).trans ((t_pict hT).trans (((h2.2.2.2.1 6).trans (h1.2.2.2.1 6)).symm)))),
    ((h2.2.1 14034 rfl).trans ((h1.2.1 14034 rfl).trans ((t_wall hT).trans (((h2.2.1 9301 rfl).trans (h1.2.1 9301 rfl)).symm)))),
    (fun d g hd hs hg => by
      have hc8 := clamp19 hc9
      have hf8 : (Int32.toNatClampNeg f) < 8 := clamp7 hf9
      rw [((h2.1 110 rfl).trans (h1.1 110 rfl))] at hs
      rw [h2.2.2.1 158 rfl, ((h2.2.2.1 (64 + d) (scA_64 hd)).trans (kr_X9_shows_64 _ _ _ _ d hd)), (h1.2.2.1 (64 + d) (scA_64 hd))]
      show upd (σ2.2.2.1 158) (Int32.toNatClampNeg ((8 * c) + f)) v (8 * d + g) = va_up σ.2.2.1 (64 + (Int32.toNatClampNeg c)) (upd (σ.2.2.1 (64 + (Int32.toNatClampNeg c))) (Int32.toNatClampNeg f) v) (64 + d) g
      rw [idx8 hc9 hf9]
      by_cases e : d = (Int32.toNatClampNeg c)
      · subst e
        rw [up_at]
        by_cases e2 : g = (Int32.toNatClampNeg f)
        · subst e2; rw [upd_at, upd_at]
        · rw [upd_ne _ (by omega), upd_ne _ e2, (h1.2.2.1 158 rfl).trans (ka_X8_shows hc9 158 (by omega))]; exact t_shown hT _ g hd hs hg
      · rw [up_ne _ (by omega), upd_ne _ (by omega), (h1.2.2.1 158 rfl).trans (ka_X8_shows hc9 158 (by omega))]; exact t_shown hT d g hd hs hg),
    (fun d g hd hs hg => by
      have hc8 := clamp19 hc9
      rw [((h2.1 110 rfl).trans (h1.1 110 rfl))] at hs
      rw [((h2.2.2.1 (64 + d) (scA_64 hd)).trans (kr_X9_shows_64 _ _ _ _ d hd)), (h1.2.2.1 (64 + d) (scA_64 hd))]
      show va_up σ.2.2.1 (64 + (Int32.toNatClampNeg c)) (upd (σ.2.2.1 (64 + (Int32.toNatClampNeg c))) (Int32.toNatClampNeg f) v) (64 + d) g = 2
      by_cases e : d = (Int32.toNatClampNeg c)
      · subst e; exact absurd hs9 hs
      · rw [up_ne _ (by omega)]; exact t_hid hT d g hd hs hg),
    (fun c k hc hk => by rw [((h2.2.2.1 116 rfl).trans ((h1.2.2.1 116 rfl).trans (ka_X8_shows hc9 116 (by omega))))] at hk; rw [((h2.2.2.1 169 rfl).trans ((h1.2.2.1 169 rfl).trans (ka_X8_shows hc9 169 (by omega)))), (((h2.2.2.1 (96 + c) (scA_96 hc)).trans (kr_X9_shows_96 _ _ _ _ c hc)).trans ((h1.2.2.1 (96 + c) (scA_96 hc)).trans (kr_X8_shows_96 _ _ _ _ hc9 c hc)))]; exact t_seen hT c k hc hk),
    (fun i j hij hj hs => by rw [((h2.1 110 rfl).trans (h1.1 110 rfl))] at hs; rw [((h2.2.2.1 9 rfl).trans ((h1.2.2.1 9 rfl).trans (ka_X8_shows hc9 9 (by omega))))]; exact t_mono hT i j hij hj hs),
    (fun j hj hs => by rw [((h2.1 110 rfl).trans (h1.1 110 rfl))] at hs; rw [((h2.2.2.1 9 rfl).trans ((h1.2.2.1 9 rfl).trans (ka_X8_shows hc9 9 (by omega)))), ((h2.1 111 rfl).trans (h1.1 111 rfl))]; exact t_last hT j hj hs),
    (by rw [((h2.1 111 rfl).trans (h1.1 111 rfl))]; exact (show inR (σ.1 111) 0 999 from t_dayr hT)),
    (fun l hl => by rw [((h2.2.2.1 94 rfl).trans ((h1.2.2.1 94 rfl).trans (ka_X8_shows hc9 94 (by omega))))]; exact (show inR (σ.2.2.1 94 l) 0 64 from t_cellr hT l hl)),
    (fun i hi => by rw [((h2.2.2.1 3 rfl).trans ((h1.2.2.1 3 rfl).trans (ka_X8_shows hc9 3 (by omega))))]; exact (show inR (σ.2.2.1 3 i) 0 4 from t_pubr hT i hi)),
    (fun c i hc hi => by rw [((h2.2.2.1 11 rfl).trans ((h1.2.2.1 11 rfl).trans (ka_X8_shows hc9 11 (by omega))))] at hi; rw [((h2.2.2.1 150 rfl).trans ((h1.2.2.1 150 rfl).trans (ka_X8_shows hc9 150 (by omega)))), ((h2.2.2.2.1 10).trans (h1.2.2.2.1 10))]; exact t_capt hT c i hc hi)⟩
set_option maxRecDepth 100000 in
theorem tie_view {σ σ2 σ3 : Sg} (c l9 : Int32) (hT : Tie σ) (hI : Inv σ) (hc9 : inR c 0 19) (hz9 : inR (σ.2.2.1 116 (Int32.toNatClampNeg c)) 0 4) (h1 : Cor (E_X8_view σ c l9) σ2) (h2 : Cor (E_X9_view σ2 c l9) σ3) : Tie σ3 := by
  refine ⟨((h2.1 14000 rfl).trans ((h1.1 14000 rfl).trans ((t_size hT).trans (((h2.1 110 rfl).trans (h1.1 110 rfl)).symm)))),
    ((h2.1 14011 rfl).trans ((h1.1 14011 rfl).trans ((t_day hT).trans (((h2.1 111 rfl).trans (h1.1 111 rfl)).symm)))),
    ((h2.1 14013 rfl).trans ((h1.1 14013 rfl).trans ((t_asof hT).trans (((h2.1 112 rfl).trans (h1.1 112 rfl)).symm)))),
    ((h2.1 14012 rfl).trans ((h1.1 14012 rfl).trans ((t_slack hT).trans (((h2.1 1204 rfl).trans (h1.1 1204 rfl)).symm)))),
    ((h2.1 14014 rfl).trans ((h1.1 14014 rfl).trans ((t_base hT).trans (((h2.1 9 rfl).trans (h1.1 9 rfl)).symm)))),
    ((h2.1 14025 rfl).trans ((h1.1 14025 rfl).trans ((t_laters hT).trans (((h2.1 5809 rfl).trans (h1.1 5809 rfl)).symm)))),
    ((h2.1 14037 rfl).trans ((h1.1 14037 rfl).trans ((t_bytes hT).trans (((h2.1 11701 rfl).trans (h1.1 11701 rfl)).symm)))),
    ((h2.2.2.1 141 rfl).trans (((h1.2.2.1 141 rfl).trans (ka_X8_view hc9 141 (by omega))).trans ((t_list hT).trans (((h2.2.2.1 2 rfl).trans ((h1.2.2.1 2 rfl).trans (ka_X8_view hc9 2 (by omega)))).symm)))),
    ((h2.2.2.1 142 rfl).trans (((h1.2.2.1 142 rfl).trans (ka_X8_view hc9 142 (by omega))).trans ((t_publ hT).trans (((h2.2.2.1 3 rfl).trans ((h1.2.2.1 3 rfl).trans (ka_X8_view hc9 3 (by omega)))).symm)))),
    ((h2.2.2.1 143 rfl).trans (((h1.2.2.1 143 rfl).trans (ka_X8_view hc9 143 (by omega))).trans ((t_numb hT).trans (((h2.2.2.1 4 rfl).trans ((h1.2.2.1 4 rfl).trans (ka_X8_view hc9 4 (by omega)))).symm)))),
    ((h2.2.2.1 144 rfl).trans (((h1.2.2.1 144 rfl).trans (ka_X8_view hc9 144 (by omega))).trans ((t_back hT).trans (((h2.2.2.1 5 rfl).trans ((h1.2.2.1 5 rfl).trans (ka_X8_view hc9 5 (by omega)))).symm)))),
    ((h2.2.2.1 146 rfl).trans (((h1.2.2.1 146 rfl).trans (ka_X8_view hc9 146 (by omega))).trans ((t_sky hT).trans (((h2.2.2.1 7 rfl).trans ((h1.2.2.1 7 rfl).trans (ka_X8_view hc9 7 (by omega)))).symm)))),
    ((h2.2.2.1 147 rfl).trans (((h1.2.2.1 147 rfl).trans (ka_X8_view hc9 147 (by omega))).trans ((t_post hT).trans (((h2.2.2.1 8 rfl).trans ((h1.2.2.1 8 rfl).trans (ka_X8_view hc9 8 (by omega)))).symm)))),
    ((h2.2.2.1 148 rfl).trans (((h1.2.2.1 148 rfl).trans (ka_X8_view hc9 148 (by omega))).trans ((t_told hT).trans (((h2.2.2.1 9 rfl).trans ((h1.2.2.1 9 rfl).trans (ka_X8_view hc9 9 (by omega)))).symm)))),
    ((h2.2.2.1 149 rfl).trans (((h1.2.2.1 149 rfl).trans (ka_X8_view hc9 149 (by omega))).trans ((t_lett hT).trans (((h2.2.2.1 11 rfl).trans ((h1.2.2.1 11 rfl).trans (ka_X8_view hc9 11 (by omega)))).symm)))),
    ((h2.2.2.1 156 rfl).trans (((h1.2.2.1 156 rfl).trans (ka_X8_view hc9 156 (by omega))).trans ((t_ffr hT).trans (((h2.2.2.1 59 rfl).trans ((h1.2.2.1 59 rfl).trans (ka_X8_view hc9 59 (by omega)))).symm)))),
    ((h2.2.2.1 157 rfl).trans (((h1.2.2.1 157 rfl).trans (ka_X8_view hc9 157 (by omega))).trans ((t_fto hT).trans (((h2.2.2.1 60 rfl).trans ((h1.2.2.1 60 rfl).trans (ka_X8_view hc9 60 (by omega)))).symm)))),
    ((h2.2.2.1 159 rfl).trans (((h1.2.2.1 159 rfl).trans (ka_X8_view hc9 159 (by omega))).trans ((t_bfr hT).trans (((h2.2.2.1 61 rfl).trans ((h1.2.2.1 61 rfl).trans (ka_X8_view hc9 61 (by omega)))).symm)))),
    ((h2.2.2.1 160 rfl).trans (((h1.2.2.1 160 rfl).trans (ka_X8_view hc9 160 (by omega))).trans ((t_bto hT).trans (((h2.2.2.1 62 rfl).trans ((h1.2.2.1 62 rfl).trans (ka_X8_view hc9 62 (by omega)))).symm)))),
    ((h2.2.2.1 161 rfl).trans (((h1.2.2.1 161 rfl).trans (ka_X8_view hc9 161 (by omega))).trans ((t_late hT).trans (((h2.2.2.1 84 rfl).trans ((h1.2.2.1 84 rfl).trans (ka_X8_view hc9 84 (by omega)))).symm)))),
    ((h2.2.2.1 162 rfl).trans (((h1.2.2.1 162 rfl).trans (ka_X8_view hc9 162 (by omega))).trans ((t_earl hT).trans (((h2.2.2.1 85 rfl).trans ((h1.2.2.1 85 rfl).trans (ka_X8_view hc9 85 (by omega)))).symm)))),
    ((h2.2.2.1 167 rfl).trans (((h1.2.2.1 167 rfl).trans (ka_X8_view hc9 167 (by omega))).trans ((t_cell hT).trans (((h2.2.2.1 94 rfl).trans ((h1.2.2.1 94 rfl).trans (ka_X8_view hc9 94 (by omega)))).symm)))),
    (by
      rw [h2.2.2.1 168 rfl, ((h2.2.2.1 116 rfl).trans (show σ2.2.2.1 116 = upd (σ.2.2.1 116) (Int32.toNatClampNeg c) ((σ.2.2.1 116 (Int32.toNatClampNeg c)) + 1) from (h1.2.2.1 116 rfl).trans (ev_116 hc9)))]
      show upd (σ2.2.2.1 168) (Int32.toNatClampNeg c) ((σ2.2.2.1 168 (Int32.toNatClampNeg c)) + 1) = _
      rw [(h1.2.2.1 168 rfl).trans (ka_X8_view hc9 168 (by omega))]
      show upd (σ.2.2.1 168) (Int32.toNatClampNeg c) ((σ.2.2.1 168 (Int32.toNatClampNeg c)) + 1) = _
      rw [t_views hT]),
    ((h2.2.2.1 170 rfl).trans (((h1.2.2.1 170 rfl).trans (ka_X8_view hc9 170 (by omega))).trans ((t_text hT).trans (((h2.2.2.1 118 rfl).trans ((h1.2.2.1 118 rfl).trans (ka_X8_view hc9 118 (by omega)))).symm)))),
    ((h2.2.2.2.1 145).trans ((h1.2.2.2.1 145).trans ((t_pict hT).trans (((h2.2.2.2.1 6).trans (h1.2.2.2.1 6)).symm)))),
    ((h2.2.1 14034 rfl).trans ((h1.2.1 14034 rfl).trans ((t_wall hT).trans (((h2.2.1 9301 rfl).trans (h1.2.1 9301 rfl)).symm)))),
    (fun c f hc hs hf => by rw [((h2.1 110 rfl).trans (h1.1 110 rfl))] at hs; rw [((h2.2.2.1 158 rfl).trans ((h1.2.2.1 158 rfl).trans (ka_X8_view hc9 158 (by omega)))), (((h2.2.2.1 (64 + c) (scA_64 hc)).trans (kr_X9_view_64 _ _ _ c hc)).trans ((h1.2.2.1 (64 + c) (scA_64 hc)).trans (kr_X8_view_64 _ _ _ hc9 c hc)))]; exact t_shown hT c f hc hs hf),
    (fun c f hc hs hf => by rw [((h2.1 110 rfl).trans (h1.1 110 rfl))] at hs; rw [(((h2.2.2.1 (64 + c) (scA_64 hc)).trans (kr_X9_view_64 _ _ _ c hc)).trans ((h1.2.2.1 (64 + c) (scA_64 hc)).trans (kr_X8_view_64 _ _ _ hc9 c hc)))]; exact t_hid hT c f hc hs hf),
    (fun d k hd hk => by
      have hc8 := clamp19 hc9
      have hz8 := clamp4 hz9
      rw [((h2.2.2.1 116 rfl).trans (show σ2.2.2.1 116 = upd (σ.2.2.1 116) (Int32.toNatClampNeg c) ((σ.2.2.1 116 (Int32.toNatClampNeg c)) + 1) from (h1.2.2.1 116 rfl).trans (ev_116 hc9)))] at hk
      rw [h2.2.2.1 169 rfl, (h2.2.2.1 (96 + d) (scA_96 hd)).trans (kr_X9_view_96 _ _ _ d hd), h1.2.2.1 (96 + d) (scA_96 hd)]
      show upd (σ2.2.2.1 169) (Int32.toNatClampNeg ((5 * c) + (σ2.2.2.1 168 (Int32.toNatClampNeg c)))) l9 (5 * d + k) = va_up (va_up σ.2.2.1 (96 + (Int32.toNatClampNeg c)) (upd (σ.2.2.1 (96 + (Int32.toNatClampNeg c))) (Int32.toNatClampNeg (σ.2.2.1 116 (Int32.toNatClampNeg c))) l9)) 116 _ (96 + d) k
      rw [up_ne _ (by omega), (h1.2.2.1 168 rfl).trans (ka_X8_view hc9 168 (by omega)), (h1.2.2.1 169 rfl).trans (ka_X8_view hc9 169 (by omega))]
      show upd (σ.2.2.1 169) (Int32.toNatClampNeg ((5 * c) + (σ.2.2.1 168 (Int32.toNatClampNeg c)))) l9 (5 * d + k) = _
      rw [t_views hT, idx5 hc9 hz9]
      by_cases e : d = (Int32.toNatClampNeg c)
      · subst e
        rw [up_at]
        rw [upd_at, clamp_s hz9] at hk
        by_cases e2 : k = (Int32.toNatClampNeg (σ.2.2.1 116 (Int32.toNatClampNeg c)))
        · subst e2; rw [upd_at, upd_at]
        · rw [upd_ne _ (by omega), upd_ne _ e2]; exact t_seen hT _ k hd (by omega)
      · rw [upd_ne _ e] at hk
        have h5 := clamp5 (iva_116 hI d hd)
        rw [up_ne _ (by omega), upd_ne _ (by omega)]; exact t_seen hT d k hd hk),
    (fun i j hij hj hs => by rw [((h2.1 110 rfl).trans (h1.1 110 rfl))] at hs; rw [((h2.2.2.1 9 rfl).trans ((h1.2.2.1 9 rfl).trans (ka_X8_view hc9 9 (by omega))))]; exact t_mono hT i j hij hj hs),
    (fun j hj hs => by rw [((h2.1 110 rfl).trans (h1.1 110 rfl))] at hs; rw [((h2.2.2.1 9 rfl).trans ((h1.2.2.1 9 rfl).trans (ka_X8_view hc9 9 (by omega)))), ((h2.1 111 rfl).trans (h1.1 111 rfl))]; exact t_last hT j hj hs),
    (by rw [((h2.1 111 rfl).trans (h1.1 111 rfl))]; exact (show inR (σ.1 111) 0 999 from t_dayr hT)),
    (fun l hl => by rw [((h2.2.2.1 94 rfl).trans ((h1.2.2.1 94 rfl).trans (ka_X8_view hc9 94 (by omega))))]; exact (show inR (σ.2.2.1 94 l) 0 64 from t_cellr hT l hl)),
    (fun i hi => by rw [((h2.2.2.1 3 rfl).trans ((h1.2.2.1 3 rfl).trans (ka_X8_view hc9 3 (by omega))))]; exact (show inR (σ.2.2.1 3 i) 0 4 from t_pubr hT i hi)),
    (fun c i hc hi => by rw [((h2.2.2.1 11 rfl).trans ((h1.2.2.1 11 rfl).trans (ka_X8_view hc9 11 (by omega))))] at hi; rw [((h2.2.2.1 150 rfl).trans ((h1.2.2.1 150 rfl).trans (ka_X8_view hc9 150 (by omega)))), ((h2.2.2.2.1 10).trans (h1.2.2.2.1 10))]; exact t_capt hT c i hc hi)⟩
set_option maxRecDepth 100000 in
theorem tie_caption {σ σ2 σ3 : Sg} (c : Int32) (p : Int64) (n : Int32) (hT : Tie σ) (hI : Inv σ) (hc9 : inR c 0 19) (hn9 : inR n 0 8) (h1 : CoW (E_X8_caption σ c p n) σ2) (h2 : Cor (E_X9_caption σ2 c p n) σ3) : Tie σ3 := by
  refine ⟨((h2.1 14000 rfl).trans ((h1.1 14000 rfl).trans ((t_size hT).trans (((h2.1 110 rfl).trans (h1.1 110 rfl)).symm)))),
    ((h2.1 14011 rfl).trans ((h1.1 14011 rfl).trans ((t_day hT).trans (((h2.1 111 rfl).trans (h1.1 111 rfl)).symm)))),
    ((h2.1 14013 rfl).trans ((h1.1 14013 rfl).trans ((t_asof hT).trans (((h2.1 112 rfl).trans (h1.1 112 rfl)).symm)))),
    ((h2.1 14012 rfl).trans ((h1.1 14012 rfl).trans ((t_slack hT).trans (((h2.1 1204 rfl).trans (h1.1 1204 rfl)).symm)))),
    ((h2.1 14014 rfl).trans ((h1.1 14014 rfl).trans ((t_base hT).trans (((h2.1 9 rfl).trans (h1.1 9 rfl)).symm)))),
    ((h2.1 14025 rfl).trans ((h1.1 14025 rfl).trans ((t_laters hT).trans (((h2.1 5809 rfl).trans (h1.1 5809 rfl)).symm)))),
    ((h2.1 14037 rfl).trans ((h1.1 14037 rfl).trans ((t_bytes hT).trans (((h2.1 11701 rfl).trans (h1.1 11701 rfl)).symm)))),
    ((h2.2.2.1 141 rfl).trans ((h1.2.2.1 141 rfl).trans ((t_list hT).trans (((h2.2.2.1 2 rfl).trans (h1.2.2.1 2 rfl)).symm)))),
    ((h2.2.2.1 142 rfl).trans ((h1.2.2.1 142 rfl).trans ((t_publ hT).trans (((h2.2.2.1 3 rfl).trans (h1.2.2.1 3 rfl)).symm)))),
    ((h2.2.2.1 143 rfl).trans ((h1.2.2.1 143 rfl).trans ((t_numb hT).trans (((h2.2.2.1 4 rfl).trans (h1.2.2.1 4 rfl)).symm)))),
    ((h2.2.2.1 144 rfl).trans ((h1.2.2.1 144 rfl).trans ((t_back hT).trans (((h2.2.2.1 5 rfl).trans (h1.2.2.1 5 rfl)).symm)))),
    ((h2.2.2.1 146 rfl).trans ((h1.2.2.1 146 rfl).trans ((t_sky hT).trans (((h2.2.2.1 7 rfl).trans (h1.2.2.1 7 rfl)).symm)))),
    ((h2.2.2.1 147 rfl).trans ((h1.2.2.1 147 rfl).trans ((t_post hT).trans (((h2.2.2.1 8 rfl).trans (h1.2.2.1 8 rfl)).symm)))),
    ((h2.2.2.1 148 rfl).trans ((h1.2.2.1 148 rfl).trans ((t_told hT).trans (((h2.2.2.1 9 rfl).trans (h1.2.2.1 9 rfl)).symm)))),
    (by rw [h2.2.2.1 149 rfl, h2.2.2.1 11 rfl]; show (upd (σ2.2.2.1 149) (Int32.toNatClampNeg c) n) = σ2.2.2.1 11; rw [h1.2.2.1 149 rfl, h1.2.2.1 11 rfl]; show (upd (σ.2.2.1 149) (Int32.toNatClampNeg c) n) = (upd (σ.2.2.1 11) (Int32.toNatClampNeg c) n); rw [t_lett hT]),
    ((h2.2.2.1 156 rfl).trans ((h1.2.2.1 156 rfl).trans ((t_ffr hT).trans (((h2.2.2.1 59 rfl).trans (h1.2.2.1 59 rfl)).symm)))),
    ((h2.2.2.1 157 rfl).trans ((h1.2.2.1 157 rfl).trans ((t_fto hT).trans (((h2.2.2.1 60 rfl).trans (h1.2.2.1 60 rfl)).symm)))),
    ((h2.2.2.1 159 rfl).trans ((h1.2.2.1 159 rfl).trans ((t_bfr hT).trans (((h2.2.2.1 61 rfl).trans (h1.2.2.1 61 rfl)).symm)))),
    ((h2.2.2.1 160 rfl).trans ((h1.2.2.1 160 rfl).trans ((t_bto hT).trans (((h2.2.2.1 62 rfl).trans (h1.2.2.1 62 rfl)).symm)))),
    ((h2.2.2.1 161 rfl).trans ((h1.2.2.1 161 rfl).trans ((t_late hT).trans (((h2.2.2.1 84 rfl).trans (h1.2.2.1 84 rfl)).symm)))),
    ((h2.2.2.1 162 rfl).trans ((h1.2.2.1 162 rfl).trans ((t_earl hT).trans (((h2.2.2.1 85 rfl).trans (h1.2.2.1 85 rfl)).symm)))),
    ((h2.2.2.1 167 rfl).trans ((h1.2.2.1 167 rfl).trans ((t_cell hT).trans (((h2.2.2.1 94 rfl).trans (h1.2.2.1 94 rfl)).symm)))),
    ((h2.2.2.1 168 rfl).trans ((h1.2.2.1 168 rfl).trans ((t_views hT).trans (((h2.2.2.1 116 rfl).trans (h1.2.2.1 116 rfl)).symm)))),
    ((h2.2.2.1 170 rfl).trans ((h1.2.2.1 170 rfl).trans ((t_text hT).trans (((h2.2.2.1 118 rfl).trans (h1.2.2.1 118 rfl)).symm)))),
    ((h2.2.2.2.1 145).trans ((h1.2.2.2.1 145).trans ((t_pict hT).trans (((h2.2.2.2.1 6).trans (h1.2.2.2.1 6)).symm)))),
    ((h2.2.1 14034 rfl).trans ((h1.2.1 14034 rfl).trans ((t_wall hT).trans (((h2.2.1 9301 rfl).trans (h1.2.1 9301 rfl)).symm)))),
    (fun c f hc hs hf => by rw [((h2.1 110 rfl).trans (h1.1 110 rfl))] at hs; rw [((h2.2.2.1 158 rfl).trans (h1.2.2.1 158 rfl)), (((h2.2.2.1 (64 + c) (scA_64 hc)).trans (kr_X9_caption_64 _ _ _ _ c hc)).trans ((h1.2.2.1 (64 + c) (swA_64 hc)).trans (kr_X8_caption_64 _ _ _ _ c hc)))]; exact t_shown hT c f hc hs hf),
    (fun c f hc hs hf => by rw [((h2.1 110 rfl).trans (h1.1 110 rfl))] at hs; rw [(((h2.2.2.1 (64 + c) (scA_64 hc)).trans (kr_X9_caption_64 _ _ _ _ c hc)).trans ((h1.2.2.1 (64 + c) (swA_64 hc)).trans (kr_X8_caption_64 _ _ _ _ c hc)))]; exact t_hid hT c f hc hs hf),
    (fun c k hc hk => by rw [((h2.2.2.1 116 rfl).trans (h1.2.2.1 116 rfl))] at hk; rw [((h2.2.2.1 169 rfl).trans (h1.2.2.1 169 rfl)), (((h2.2.2.1 (96 + c) (scA_96 hc)).trans (kr_X9_caption_96 _ _ _ _ c hc)).trans ((h1.2.2.1 (96 + c) (swA_96 hc)).trans (kr_X8_caption_96 _ _ _ _ c hc)))]; exact t_seen hT c k hc hk),
    (fun i j hij hj hs => by rw [((h2.1 110 rfl).trans (h1.1 110 rfl))] at hs; rw [((h2.2.2.1 9 rfl).trans (h1.2.2.1 9 rfl))]; exact t_mono hT i j hij hj hs),
    (fun j hj hs => by rw [((h2.1 110 rfl).trans (h1.1 110 rfl))] at hs; rw [((h2.2.2.1 9 rfl).trans (h1.2.2.1 9 rfl)), ((h2.1 111 rfl).trans (h1.1 111 rfl))]; exact t_last hT j hj hs),
    (by rw [((h2.1 111 rfl).trans (h1.1 111 rfl))]; exact (show inR (σ.1 111) 0 999 from t_dayr hT)),
    (fun l hl => by rw [((h2.2.2.1 94 rfl).trans (h1.2.2.1 94 rfl))]; exact (show inR (σ.2.2.1 94 l) 0 64 from t_cellr hT l hl)),
    (fun i hi => by rw [((h2.2.2.1 3 rfl).trans (h1.2.2.1 3 rfl))]; exact (show inR (σ.2.2.1 3 i) 0 4 from t_pubr hT i hi)),
    (fun d i hd hi => by
      have hc8 := clamp19 hc9
      have hn8 := clamp8 hn9
      rw [((h2.2.2.1 11 rfl).trans (h1.2.2.1 11 rfl))] at hi
      rw [h2.2.2.1 150 rfl, ((h2.2.2.2.1 10).trans (h1.2.2.2.1 10))]
      show cpT (σ2.2.2.1 150) c p n.toNatClampNeg (8 * d + i) = byI (vp_updL (σ.2.2.2.1 10) (Int32.toNatClampNeg c) p d) (nI i)
      have hi2 : i < (upd (σ.2.2.1 11) (Int32.toNatClampNeg c) n d).toNatClampNeg := hi
      rw [h1.2.2.1 150 rfl]
      show cpT (σ.2.2.1 150) c p n.toNatClampNeg (8 * d + i) = _
      by_cases e : d = (Int32.toNatClampNeg c)
      · subst e
        rw [upd_at] at hi2
        rw [updL_at, cpT_at hc9 hn8 hi2]
      · rw [upd_ne _ e] at hi2
        have h8 := clamp8 (iva_11 hI d hd)
        rw [updL_ne _ e, cpT_ne hc9 hn8 (fun k hk => by omega)]
        exact t_capt hT d i hd hi2)⟩
set_option maxRecDepth 100000 in
theorem tie_card {σ σ2 σ3 : Sg} (a b n k : Int32) (p : Int64) (s t : Int32) (hT : Tie σ) (hI : Inv σ) (hz9 : inR (σ.1 110) 0 19) (hb9 : inR b 0 4) (h1 : CoW (E_X8_card σ a b n k p s t) σ2) (h2 : Cor (E_X9_card σ2 a b n k p s t) σ3) : Tie σ3 := by
  refine ⟨(by rw [h2.1 14000 rfl, h2.1 110 rfl]; show ((σ2.1 14000) + 1) = σ2.1 110; rw [h1.1 14000 rfl, h1.1 110 rfl]; show ((σ.1 14000) + 1) = ((σ.1 110) + 1); rw [t_size hT]),
    ((h2.1 14011 rfl).trans ((h1.1 14011 rfl).trans ((t_day hT).trans (((h2.1 111 rfl).trans (h1.1 111 rfl)).symm)))),
    ((h2.1 14013 rfl).trans ((h1.1 14013 rfl).trans ((t_asof hT).trans (((h2.1 112 rfl).trans (h1.1 112 rfl)).symm)))),
    ((h2.1 14012 rfl).trans ((h1.1 14012 rfl).trans ((t_slack hT).trans (((h2.1 1204 rfl).trans (h1.1 1204 rfl)).symm)))),
    ((h2.1 14014 rfl).trans ((h1.1 14014 rfl).trans ((t_base hT).trans (((h2.1 9 rfl).trans (h1.1 9 rfl)).symm)))),
    ((h2.1 14025 rfl).trans ((h1.1 14025 rfl).trans ((t_laters hT).trans (((h2.1 5809 rfl).trans (h1.1 5809 rfl)).symm)))),
    ((h2.1 14037 rfl).trans ((h1.1 14037 rfl).trans ((t_bytes hT).trans (((h2.1 11701 rfl).trans (h1.1 11701 rfl)).symm)))),
    (by rw [h2.2.2.1 141 rfl, h2.2.2.1 2 rfl]; show (upd (σ2.2.2.1 141) (Int32.toNatClampNeg (σ2.1 14000)) a) = σ2.2.2.1 2; rw [h1.2.2.1 141 rfl, h1.1 14000 rfl, h1.2.2.1 2 rfl]; show (upd (σ.2.2.1 141) (Int32.toNatClampNeg (σ.1 14000)) a) = (upd (σ.2.2.1 2) (Int32.toNatClampNeg (σ.1 110)) a); rw [t_list hT, t_size hT]),
    (by rw [h2.2.2.1 142 rfl, h2.2.2.1 3 rfl]; show (upd (σ2.2.2.1 142) (Int32.toNatClampNeg (σ2.1 14000)) b) = σ2.2.2.1 3; rw [h1.2.2.1 142 rfl, h1.1 14000 rfl, h1.2.2.1 3 rfl]; show (upd (σ.2.2.1 142) (Int32.toNatClampNeg (σ.1 14000)) b) = (upd (σ.2.2.1 3) (Int32.toNatClampNeg (σ.1 110)) b); rw [t_publ hT, t_size hT]),
    (by rw [h2.2.2.1 143 rfl, h2.2.2.1 4 rfl]; show (upd (σ2.2.2.1 143) (Int32.toNatClampNeg (σ2.1 14000)) n) = σ2.2.2.1 4; rw [h1.2.2.1 143 rfl, h1.1 14000 rfl, h1.2.2.1 4 rfl]; show (upd (σ.2.2.1 143) (Int32.toNatClampNeg (σ.1 14000)) n) = (upd (σ.2.2.1 4) (Int32.toNatClampNeg (σ.1 110)) n); rw [t_numb hT, t_size hT]),
    (by rw [h2.2.2.1 144 rfl, h2.2.2.1 5 rfl]; show (upd (σ2.2.2.1 144) (Int32.toNatClampNeg (σ2.1 14000)) k) = σ2.2.2.1 5; rw [h1.2.2.1 144 rfl, h1.1 14000 rfl, h1.2.2.1 5 rfl]; show (upd (σ.2.2.1 144) (Int32.toNatClampNeg (σ.1 14000)) k) = (upd (σ.2.2.1 5) (Int32.toNatClampNeg (σ.1 110)) k); rw [t_back hT, t_size hT]),
    (by rw [h2.2.2.1 146 rfl, h2.2.2.1 7 rfl]; show (upd (σ2.2.2.1 146) (Int32.toNatClampNeg (σ2.1 14000)) s) = σ2.2.2.1 7; rw [h1.2.2.1 146 rfl, h1.1 14000 rfl, h1.2.2.1 7 rfl]; show (upd (σ.2.2.1 146) (Int32.toNatClampNeg (σ.1 14000)) s) = (upd (σ.2.2.1 7) (Int32.toNatClampNeg (σ.1 110)) s); rw [t_sky hT, t_size hT]),
    (by rw [h2.2.2.1 147 rfl, h2.2.2.1 8 rfl]; show (upd (σ2.2.2.1 147) (Int32.toNatClampNeg (σ2.1 14000)) t) = σ2.2.2.1 8; rw [h1.2.2.1 147 rfl, h1.1 14000 rfl, h1.2.2.1 8 rfl]; show (upd (σ.2.2.1 147) (Int32.toNatClampNeg (σ.1 14000)) t) = (upd (σ.2.2.1 8) (Int32.toNatClampNeg (σ.1 110)) t); rw [t_post hT, t_size hT]),
    (by rw [h2.2.2.1 148 rfl, h2.2.2.1 9 rfl]; show (upd (σ2.2.2.1 148) (Int32.toNatClampNeg (σ2.1 14000)) (σ2.1 14011)) = σ2.2.2.1 9; rw [h1.2.2.1 148 rfl, h1.1 14000 rfl, h1.1 14011 rfl, h1.2.2.1 9 rfl]; show (upd (σ.2.2.1 148) (Int32.toNatClampNeg (σ.1 14000)) (σ.1 14011)) = (upd (σ.2.2.1 9) (Int32.toNatClampNeg (σ.1 110)) (σ.1 111)); rw [t_told hT, t_size hT, t_day hT]),
    ((h2.2.2.1 149 rfl).trans ((h1.2.2.1 149 rfl).trans ((t_lett hT).trans (((h2.2.2.1 11 rfl).trans (h1.2.2.1 11 rfl)).symm)))),
    ((h2.2.2.1 156 rfl).trans ((h1.2.2.1 156 rfl).trans ((t_ffr hT).trans (((h2.2.2.1 59 rfl).trans (h1.2.2.1 59 rfl)).symm)))),
    ((h2.2.2.1 157 rfl).trans ((h1.2.2.1 157 rfl).trans ((t_fto hT).trans (((h2.2.2.1 60 rfl).trans (h1.2.2.1 60 rfl)).symm)))),
    ((h2.2.2.1 159 rfl).trans ((h1.2.2.1 159 rfl).trans ((t_bfr hT).trans (((h2.2.2.1 61 rfl).trans (h1.2.2.1 61 rfl)).symm)))),
    ((h2.2.2.1 160 rfl).trans ((h1.2.2.1 160 rfl).trans ((t_bto hT).trans (((h2.2.2.1 62 rfl).trans (h1.2.2.1 62 rfl)).symm)))),
    ((h2.2.2.1 161 rfl).trans ((h1.2.2.1 161 rfl).trans ((t_late hT).trans (((h2.2.2.1 84 rfl).trans (h1.2.2.1 84 rfl)).symm)))),
    ((h2.2.2.1 162 rfl).trans ((h1.2.2.1 162 rfl).trans ((t_earl hT).trans (((h2.2.2.1 85 rfl).trans (h1.2.2.1 85 rfl)).symm)))),
    ((h2.2.2.1 167 rfl).trans ((h1.2.2.1 167 rfl).trans ((t_cell hT).trans (((h2.2.2.1 94 rfl).trans (h1.2.2.1 94 rfl)).symm)))),
    ((h2.2.2.1 168 rfl).trans ((h1.2.2.1 168 rfl).trans ((t_views hT).trans (((h2.2.2.1 116 rfl).trans (h1.2.2.1 116 rfl)).symm)))),
    ((h2.2.2.1 170 rfl).trans ((h1.2.2.1 170 rfl).trans ((t_text hT).trans (((h2.2.2.1 118 rfl).trans (h1.2.2.1 118 rfl)).symm)))),
    (by rw [h2.2.2.2.1 145, h2.2.2.2.1 6]; show (vp_updL (σ2.2.2.2.1 145) (Int32.toNatClampNeg (σ2.1 14000)) p) = σ2.2.2.2.1 6; rw [h1.2.2.2.1 145, h1.1 14000 rfl, h1.2.2.2.1 6]; show (vp_updL (σ.2.2.2.1 145) (Int32.toNatClampNeg (σ.1 14000)) p) = (vp_updL (σ.2.2.2.1 6) (Int32.toNatClampNeg (σ.1 110)) p); rw [t_pict hT, t_size hT]),
    ((h2.2.1 14034 rfl).trans ((h1.2.1 14034 rfl).trans ((t_wall hT).trans (((h2.2.1 9301 rfl).trans (h1.2.1 9301 rfl)).symm)))),
    (fun d g hd hs hg => by
      have hz8 := clamp19 hz9
      rw [((h2.1 110 rfl).trans (h1.1 110 rfl))] at hs
      rw [h2.2.2.1 158 rfl, (((h2.2.2.1 (64 + d) (scA_64 hd)).trans (kr_X9_card_64 _ _ _ _ _ _ _ _ d hd)).trans ((h1.2.2.1 (64 + d) (swA_64 hd)).trans (kr_X8_card_64 _ _ _ _ _ _ _ _ d hd)))]
      show shT (σ2.2.2.1 158) (σ2.1 14000) 8 (8 * d + g) = σ.2.2.1 (64 + d) g
      rw [h1.2.2.1 158 rfl, h1.1 14000 rfl]
      show shT (σ.2.2.1 158) (σ.1 14000) 8 (8 * d + g) = σ.2.2.1 (64 + d) g
      rw [t_size hT]
      have hs2 := size_s hz9 hd hs
      by_cases e : d = (Int32.toNatClampNeg (σ.1 110))
      · rw [e, shT_at hz9 hg]
        exact (t_hid hT _ g hz8 (by rw [nI_of_in hz9]; exact Int32.lt_irrefl) hg).symm
      · rw [shT_ne hz9 (fun k hk => by omega)]
        exact t_shown hT d g hd (size_l hz9 hd (by omega)) hg),
    (fun d g hd hs hg => by
      rw [((h2.1 110 rfl).trans (h1.1 110 rfl))] at hs
      rw [(((h2.2.2.1 (64 + d) (scA_64 hd)).trans (kr_X9_card_64 _ _ _ _ _ _ _ _ d hd)).trans ((h1.2.2.1 (64 + d) (swA_64 hd)).trans (kr_X8_card_64 _ _ _ _ _ _ _ _ d hd)))]
      exact t_hid hT d g hd (fun q => hs (size_up hz9 q)) hg),
    (fun c k hc hk => by rw [((h2.2.2.1 116 rfl).trans (h1.2.2.1 116 rfl))] at hk; rw [((h2.2.2.1 169 rfl).trans (h1.2.2.1 169 rfl)), (((h2.2.2.1 (96 + c) (scA_96 hc)).trans (kr_X9_card_96 _ _ _ _ _ _ _ _ c hc)).trans ((h1.2.2.1 (96 + c) (swA_96 hc)).trans (kr_X8_card_96 _ _ _ _ _ _ _ _ c hc)))]; exact t_seen hT c k hc hk),
    (fun i j hij hj hs => by
      have hz8 := clamp19 hz9
      rw [((h2.1 110 rfl).trans (h1.1 110 rfl))] at hs
      rw [((h2.2.2.1 9 rfl).trans (h1.2.2.1 9 rfl))]
      have hs2 := size_s hz9 hj hs
      show upd (σ.2.2.1 9) (Int32.toNatClampNeg (σ.1 110)) (σ.1 111) i ≤ upd (σ.2.2.1 9) (Int32.toNatClampNeg (σ.1 110)) (σ.1 111) j
      by_cases e : j = (Int32.toNatClampNeg (σ.1 110))
      · subst e
        rw [upd_at]
        by_cases e2 : i = (Int32.toNatClampNeg (σ.1 110))
        · rw [e2, upd_at]; exact Int32.le_refl _
        · rw [upd_ne _ e2]; exact t_last hT i (by omega) (size_l hz9 (by omega) (by omega))
      · rw [upd_ne _ e, upd_ne _ (by omega)]; exact t_mono hT i j hij hj (size_l hz9 hj (by omega))),
    (fun j hj hs => by
      have hz8 := clamp19 hz9
      rw [((h2.1 110 rfl).trans (h1.1 110 rfl))] at hs
      rw [((h2.2.2.1 9 rfl).trans (h1.2.2.1 9 rfl)), ((h2.1 111 rfl).trans (h1.1 111 rfl))]
      have hs2 := size_s hz9 hj hs
      show upd (σ.2.2.1 9) (Int32.toNatClampNeg (σ.1 110)) (σ.1 111) j ≤ σ.1 111
      by_cases e : j = (Int32.toNatClampNeg (σ.1 110))
      · subst e; rw [upd_at]; exact Int32.le_refl _
      · rw [upd_ne _ e]; exact t_last hT j hj (size_l hz9 hj (by omega))),
    (by rw [((h2.1 111 rfl).trans (h1.1 111 rfl))]; exact (show inR (σ.1 111) 0 999 from t_dayr hT)),
    (fun l hl => by rw [((h2.2.2.1 94 rfl).trans (h1.2.2.1 94 rfl))]; exact (show inR (σ.2.2.1 94 l) 0 64 from t_cellr hT l hl)),
    (fun i hi => by rw [((h2.2.2.1 3 rfl).trans (h1.2.2.1 3 rfl))]; exact (show inR (upd (σ.2.2.1 3) (Int32.toNatClampNeg (σ.1 110)) b i) 0 4 from in_upd (t_pubr hT i hi) hb9)),
    (fun c i hc hi => by rw [((h2.2.2.1 11 rfl).trans (h1.2.2.1 11 rfl))] at hi; rw [((h2.2.2.1 150 rfl).trans (h1.2.2.1 150 rfl)), ((h2.2.2.2.1 10).trans (h1.2.2.2.1 10))]; exact t_capt hT c i hc hi)⟩
def E_X8_set0 (σ : Sg) (v : Int32) : Sg := (uI σ 1204 v)
def E_X9_set0 (σ : Sg) (v : Int32) : Sg := (uI (uI (uI σ 14012 v) 14013 (σ.1 14013)) 14014 (σ.1 14014))
set_option maxRecDepth 100000 in
theorem kr_X8_set0_64 (σ : Sg) (v : Int32) : ∀ r : Nat, r < 20 → (E_X8_set0 σ v).2.2.1 (64 + r) = σ.2.2.1 (64 + r)
  | 0, _ => rfl
  | 1, _ => rfl
  | 2, _ => rfl
  | 3, _ => rfl
  | 4, _ => rfl
  | 5, _ => rfl
  | 6, _ => rfl
  | 7, _ => rfl
  | 8, _ => rfl
  | 9, _ => rfl
  | 10, _ => rfl
  | 11, _ => rfl
  | 12, _ => rfl
  | 13, _ => rfl
  | 14, _ => rfl
  | 15, _ => rfl
  | 16, _ => rfl
  | 17, _ => rfl
  | 18, _ => rfl
  | 19, _ => rfl
  | r + 20, h => absurd h (by omega)
set_option maxRecDepth 100000 in
theorem kr_X8_set0_96 (σ : Sg) (v : Int32) : ∀ r : Nat, r < 20 → (E_X8_set0 σ v).2.2.1 (96 + r) = σ.2.2.1 (96 + r)
  | 0, _ => rfl
  | 1, _ => rfl
  | 2, _ => rfl
  | 3, _ => rfl
  | 4, _ => rfl
  | 5, _ => rfl
  | 6, _ => rfl
  | 7, _ => rfl
  | 8, _ => rfl
  | 9, _ => rfl
  | 10, _ => rfl
  | 11, _ => rfl
  | 12, _ => rfl
  | 13, _ => rfl
  | 14, _ => rfl
  | 15, _ => rfl
  | 16, _ => rfl
  | 17, _ => rfl
  | 18, _ => rfl
  | 19, _ => rfl
  | r + 20, h => absurd h (by omega)
set_option maxRecDepth 100000 in
theorem kr_X9_set0_64 (σ : Sg) (v : Int32) : ∀ r : Nat, r < 20 → (E_X9_set0 σ v).2.2.1 (64 + r) = σ.2.2.1 (64 + r)
  | 0, _ => rfl
  | 1, _ => rfl
  | 2, _ => rfl
  | 3, _ => rfl
  | 4, _ => rfl
  | 5, _ => rfl
  | 6, _ => rfl
  | 7, _ => rfl
  | 8, _ => rfl
  | 9, _ => rfl
  | 10, _ => rfl
  | 11, _ => rfl
  | 12, _ => rfl
  | 13, _ => rfl
  | 14, _ => rfl
  | 15, _ => rfl
  | 16, _ => rfl
  | 17, _ => rfl
  | 18, _ => rfl
  | 19, _ => rfl
  | r + 20, h => absurd h (by omega)
set_option maxRecDepth 100000 in
theorem kr_X9_set0_96 (σ : Sg) (v : Int32) : ∀ r : Nat, r < 20 → (E_X9_set0 σ v).2.2.1 (96 + r) = σ.2.2.1 (96 + r)
  | 0, _ => rfl
  | 1, _ => rfl
  | 2, _ => rfl
  | 3, _ => rfl
  | 4, _ => rfl
  | 5, _ => rfl
  | 6, _ => rfl
  | 7, _ => rfl
  | 8, _ => rfl
  | 9, _ => rfl
  | 10, _ => rfl
  | 11, _ => rfl
  | 12, _ => rfl
  | 13, _ => rfl
  | 14, _ => rfl
  | 15, _ => rfl
  | 16, _ => rfl
  | 17, _ => rfl
  | 18, _ => rfl
  | 19, _ => rfl
  | r + 20, h => absurd h (by omega)
set_option maxRecDepth 100000 in
theorem tie_set0 {σ σ2 σ3 : Sg} (v : Int32) (hT : Tie σ) (hI : Inv σ) (h1 : Cor (E_X8_set0 σ v) σ2) (h2 : Cor (E_X9_set0 σ2 v) σ3) : Tie σ3 := by
  refine ⟨((h2.1 14000 rfl).trans ((h1.1 14000 rfl).trans ((t_size hT).trans (((h2.1 110 rfl).trans (h1.1 110 rfl)).symm)))),
    ((h2.1 14011 rfl).trans ((h1.1 14011 rfl).trans ((t_day hT).trans (((h2.1 111 rfl).trans (h1.1 111 rfl)).symm)))),
    (by rw [h2.1 14013 rfl, h2.1 112 rfl]; show (σ2.1 14013) = σ2.1 112; rw [h1.1 14013 rfl, h1.1 112 rfl]; show (σ.1 14013) = σ.1 112; rw [t_asof hT]),
    (by rw [h2.1 14012 rfl, h2.1 1204 rfl]; show v = σ2.1 1204; rw [h1.1 1204 rfl]; show v = v; rw []),
    (by rw [h2.1 14014 rfl, h2.1 9 rfl]; show (σ2.1 14014) = σ2.1 9; rw [h1.1 14014 rfl, h1.1 9 rfl]; show (σ.1 14014) = σ.1 9; rw [t_base hT]),
    ((h2.1 14025 rfl).trans ((h1.1 14025 rfl).trans ((t_laters hT).trans (((h2.1 5809 rfl).trans (h1.1 5809 rfl)).symm)))),
    ((h2.1 14037 rfl).trans ((h1.1 14037 rfl).trans ((t_bytes hT).trans (((h2.1 11701 rfl).trans (h1.1 11701 rfl)).symm)))),
    ((h2.2.2.1 141 rfl).trans ((h1.2.2.1 141 rfl).trans ((t_list hT).trans (((h2.2.2.1 2 rfl).trans (h1.2.2.1 2 rfl)).symm)))),
    ((h2.2.2.1 142 rfl).trans ((h1.2.2.1 142 rfl).trans ((t_publ hT).trans (((h2.2.2.1 3 rfl).trans (h1.2.2.1 3 rfl)).symm)))),
    ((h2.2.2.1 143 rfl).trans ((h1.2.2.1 143 rfl).trans ((t_numb hT).trans (((h2.2.2.1 4 rfl).trans (h1.2.2.1 4 rfl)).symm)))),
    ((h2.2.2.1 144 rfl).trans ((h1.2.2.1 144 rfl).trans ((t_back hT).trans (((h2.2.2.1 5 rfl).trans (h1.2.2.1 5 rfl)).symm)))),
    ((h2.2.2.1 146 rfl).trans ((h1.2.2.1 146 rfl).trans ((t_sky hT).trans (((h2.2.2.1 7 rfl).trans (h1.2.2.1 7 rfl)).symm)))),
    ((h2.2.2.1 147 rfl).trans ((h1.2.2.1 147 rfl).trans ((t_post hT).trans (((h2.2.2.1 8 rfl).trans (h1.2.2.1 8 rfl)).symm)))),
    ((h2.2.2.1 148 rfl).trans ((h1.2.2.1 148 rfl).trans ((t_told hT).trans (((h2.2.2.1 9 rfl).trans (h1.2.2.1 9 rfl)).symm)))),
    ((h2.2.2.1 149 rfl).trans ((h1.2.2.1 149 rfl).trans ((t_lett hT).trans (((h2.2.2.1 11 rfl).trans (h1.2.2.1 11 rfl)).symm)))),
    ((h2.2.2.1 156 rfl).trans ((h1.2.2.1 156 rfl).trans ((t_ffr hT).trans (((h2.2.2.1 59 rfl).trans (h1.2.2.1 59 rfl)).symm)))),
    ((h2.2.2.1 157 rfl).trans ((h1.2.2.1 157 rfl).trans ((t_fto hT).trans (((h2.2.2.1 60 rfl).trans (h1.2.2.1 60 rfl)).symm)))),
    ((h2.2.2.1 159 rfl).trans ((h1.2.2.1 159 rfl).trans ((t_bfr hT).trans (((h2.2.2.1 61 rfl).trans (h1.2.2.1 61 rfl)).symm)))),
    ((h2.2.2.1 160 rfl).trans ((h1.2.2.1 160 rfl).trans ((t_bto hT).trans (((h2.2.2.1 62 rfl).trans (h1.2.2.1 62 rfl)).symm)))),
    ((h2.2.2.1 161 rfl).trans ((h1.2.2.1 161 rfl).trans ((t_late hT).trans (((h2.2.2.1 84 rfl).trans (h1.2.2.1 84 rfl)).symm)))),
    ((h2.2.2.1 162 rfl).trans ((h1.2.2.1 162 rfl).trans ((t_earl hT).trans (((h2.2.2.1 85 rfl).trans (h1.2.2.1 85 rfl)).symm)))),
    ((h2.2.2.1 167 rfl).trans ((h1.2.2.1 167 rfl).trans ((t_cell hT).trans (((h2.2.2.1 94 rfl).trans (h1.2.2.1 94 rfl)).symm)))),
    ((h2.2.2.1 168 rfl).trans ((h1.2.2.1 168 rfl).trans ((t_views hT).trans (((h2.2.2.1 116 rfl).trans (h1.2.2.1 116 rfl)).symm)))),
    ((h2.2.2.1 170 rfl).trans ((h1.2.2.1 170 rfl).trans ((t_text hT).trans (((h2.2.2.1 118 rfl).trans (h1.2.2.1 118 rfl)).symm)))),
    ((h2.2.2.2.1 145).trans ((h1.2.2.2.1 145).trans ((t_pict hT).trans (((h2.2.2.2.1 6).trans (h1.2.2.2.1 6)).symm)))),
    ((h2.2.1 14034 rfl).trans ((h1.2.1 14034 rfl).trans ((t_wall hT).trans (((h2.2.1 9301 rfl).trans (h1.2.1 9301 rfl)).symm)))),
    (fun c f hc hs hf => by rw [((h2.1 110 rfl).trans (h1.1 110 rfl))] at hs; rw [((h2.2.2.1 158 rfl).trans (h1.2.2.1 158 rfl)), (((h2.2.2.1 (64 + c) (scA_64 hc)).trans (kr_X9_set0_64 _ _ c hc)).trans ((h1.2.2.1 (64 + c) (scA_64 hc)).trans (kr_X8_set0_64 _ _ c hc)))]; exact t_shown hT c f hc hs hf),
    (fun c f hc hs hf => by rw [((h2.1 110 rfl).trans (h1.1 110 rfl))] at hs; rw [(((h2.2.2.1 (64 + c) (scA_64 hc)).trans (kr_X9_set0_64 _ _ c hc)).trans ((h1.2.2.1 (64 + c) (scA_64 hc)).trans (kr_X8_set0_64 _ _ c hc)))]; exact t_hid hT c f hc hs hf),
    (fun c k hc hk => by rw [((h2.2.2.1 116 rfl).trans (h1.2.2.1 116 rfl))] at hk; rw [((h2.2.2.1 169 rfl).trans (h1.2.2.1 169 rfl)), (((h2.2.2.1 (96 + c) (scA_96 hc)).trans (kr_X9_set0_96 _ _ c hc)).trans ((h1.2.2.1 (96 + c) (scA_96 hc)).trans (kr_X8_set0_96 _ _ c hc)))]; exact t_seen hT c k hc hk),
    (fun i j hij hj hs => by rw [((h2.1 110 rfl).trans (h1.1 110 rfl))] at hs; rw [((h2.2.2.1 9 rfl).trans (h1.2.2.1 9 rfl))]; exact t_mono hT i j hij hj hs),
    (fun j hj hs => by rw [((h2.1 110 rfl).trans (h1.1 110 rfl))] at hs; rw [((h2.2.2.1 9 rfl).trans (h1.2.2.1 9 rfl)), ((h2.1 111 rfl).trans (h1.1 111 rfl))]; exact t_last hT j hj hs),
    (by rw [((h2.1 111 rfl).trans (h1.1 111 rfl))]; exact (show inR (σ.1 111) 0 999 from t_dayr hT)),
    (fun l hl => by rw [((h2.2.2.1 94 rfl).trans (h1.2.2.1 94 rfl))]; exact (show inR (σ.2.2.1 94 l) 0 64 from t_cellr hT l hl)),
    (fun i hi => by rw [((h2.2.2.1 3 rfl).trans (h1.2.2.1 3 rfl))]; exact (show inR (σ.2.2.1 3 i) 0 4 from t_pubr hT i hi)),
    (fun c i hc hi => by rw [((h2.2.2.1 11 rfl).trans (h1.2.2.1 11 rfl))] at hi; rw [((h2.2.2.1 150 rfl).trans (h1.2.2.1 150 rfl)), ((h2.2.2.2.1 10).trans (h1.2.2.2.1 10))]; exact t_capt hT c i hc hi)⟩
def E_X8_set1 (σ : Sg) (v : Int32) : Sg := (uI σ 112 v)
def E_X9_set1 (σ : Sg) (v : Int32) : Sg := (uI (uI (uI σ 14012 (σ.1 14012)) 14013 v) 14014 (σ.1 14014))
set_option maxRecDepth 100000 in
theorem kr_X8_set1_64 (σ : Sg) (v : Int32) : ∀ r : Nat, r < 20 → (E_X8_set1 σ v).2.2.1 (64 + r) = σ.2.2.1 (64 + r)
  | 0, _ => rfl
  | 1, _ => rfl
  | 2, _ => rfl
  | 3, _ => rfl
  | 4, _ => rfl
  | 5, _ => rfl
  | 6, _ => rfl
  | 7, _ => rfl
  | 8, _ => rfl
  | 9, _ => rfl
  | 10, _ => rfl
  | 11, _ => rfl
  | 12, _ => rfl
  | 13, _ => rfl
  | 14, _ => rfl
  | 15, _ => rfl
  | 16, _ => rfl
  | 17, _ => rfl
  | 18, _ => rfl
  | 19, _ => rfl
  | r + 20, h => absurd h (by omega)
set_option maxRecDepth 100000 in
theorem kr_X8_set1_96 (σ : Sg) (v : Int32) : ∀ r : Nat, r < 20 → (E_X8_set1 σ v).2.2.1 (96 + r) = σ.2.2.1 (96 + r)
  | 0, _ => rfl
  | 1, _ => rfl
  | 2, _ => rfl
  | 3, _ => rfl
  | 4, _ => rfl
  | 5, _ => rfl
  | 6, _ => rfl
  | 7, _ => rfl
  | 8, _ => rfl
  | 9, _ => rfl
  | 10, _ => rfl
  | 11, _ => rfl
  | 12, _ => rfl
  | 13, _ => rfl
  | 14, _ => rfl
  | 15, _ => rfl
  | 16, _ => rfl
  | 17, _ => rfl
  | 18, _ => rfl
  | 19, _ => rfl
  | r + 20, h => absurd h (by omega)
set_option maxRecDepth 100000 in
theorem kr_X9_set1_64 (σ : Sg) (v : Int32) : ∀ r : Nat, r < 20 → (E_X9_set1 σ v).2.2.1 (64 + r) = σ.2.2.1 (64 + r)
  | 0, _ => rfl
  | 1, _ => rfl
  | 2, _ => rfl
  | 3, _ => rfl
  | 4, _ => rfl
  | 5, _ => rfl
  | 6, _ => rfl
  | 7, _ => rfl
  | 8, _ => rfl
  | 9, _ => rfl
  | 10, _ => rfl
  | 11, _ => rfl
  | 12, _ => rfl
  | 13, _ => rfl
  | 14, _ => rfl
  | 15, _ => rfl
  | 16, _ => rfl
  | 17, _ => rfl
  | 18, _ => rfl
  | 19, _ => rfl
  | r + 20, h => absurd h (by omega)
set_option maxRecDepth 100000 in
theorem kr_X9_set1_96 (σ : Sg) (v : Int32) : ∀ r : Nat, r < 20 → (E_X9_set1 σ v).2.2.1 (96 + r) = σ.2.2.1 (96 + r)
  | 0, _ => rfl
  | 1, _ => rfl
  | 2, _ => rfl
  | 3, _ => rfl
  | 4, _ => rfl
  | 5, _ => rfl
  | 6, _ => rfl
  | 7, _ => rfl
  | 8, _ => rfl
  | 9, _ => rfl
  | 10, _ => rfl
  | 11, _ => rfl
  | 12, _ => rfl
  | 13, _ => rfl
  | 14, _ => rfl
  | 15, _ => rfl
  | 16, _ => rfl
  | 17, _ => rfl
  | 18, _ => rfl
  | 19, _ => rfl
  | r + 20, h => absurd h (by omega)
set_option maxRecDepth 100000 in
theorem tie_set1 {σ σ2 σ3 : Sg} (v : Int32) (hT : Tie σ) (hI : Inv σ) (h1 : Cor (E_X8_set1 σ v) σ2) (h2 : Cor (E_X9_set1 σ2 v) σ3) : Tie σ3 := by
  refine ⟨((h2.1 14000 rfl).trans ((h1.1 14000 rfl).trans ((t_size hT).trans (((h2.1 110 rfl).trans (h1.1 110 rfl)).symm)))),
    ((h2.1 14011 rfl).trans ((h1.1 14011 rfl).trans ((t_day hT).trans (((h2.1 111 rfl).trans (h1.1 111 rfl)).symm)))),
    (by rw [h2.1 14013 rfl, h2.1 112 rfl]; show v = σ2.1 112; rw [h1.1 112 rfl]; show v = v; rw []),
    (by rw [h2.1 14012 rfl, h2.1 1204 rfl]; show (σ2.1 14012) = σ2.1 1204; rw [h1.1 14012 rfl, h1.1 1204 rfl]; show (σ.1 14012) = σ.1 1204; rw [t_slack hT]),
    (by rw [h2.1 14014 rfl, h2.1 9 rfl]; show (σ2.1 14014) = σ2.1 9; rw [h1.1 14014 rfl, h1.1 9 rfl]; show (σ.1 14014) = σ.1 9; rw [t_base hT]),
    ((h2.1 14025 rfl).trans ((h1.1 14025 rfl).trans ((t_laters hT).trans (((h2.1 5809 rfl).trans (h1.1 5809 rfl)).symm)))),
    ((h2.1 14037 rfl).trans ((h1.1 14037 rfl).trans ((t_bytes hT).trans (((h2.1 11701 rfl).trans (h1.1 11701 rfl)).symm)))),
    ((h2.2.2.1 141 rfl).trans ((h1.2.2.1 141 rfl).trans ((t_list hT).trans (((h2.2.2.1 2 rfl).trans (h1.2.2.1 2 rfl)).symm)))),
    ((h2.2.2.1 142 rfl).trans ((h1.2.2.1 142 rfl).trans ((t_publ hT).trans (((h2.2.2.1 3 rfl).trans (h1.2.2.1 3 rfl)).symm)))),
    ((h2.2.2.1 143 rfl).trans ((h1.2.2.1 143 rfl).trans ((t_numb hT).trans (((h2.2.2.1 4 rfl).trans (h1.2.2.1 4 rfl)).symm)))),
    ((h2.2.2.1 144 rfl).trans ((h1.2.2.1 144 rfl).trans ((t_back hT).trans (((h2.2.2.1 5 rfl).trans (h1.2.2.1 5 rfl)).symm)))),
    ((h2.2.2.1 146 rfl).trans ((h1.2.2.1 146 rfl).trans ((t_sky hT).trans (((h2.2.2.1 7 rfl).trans (h1.2.2.1 7 rfl)).symm)))),
    ((h2.2.2.1 147 rfl).trans ((h1.2.2.1 147 rfl).trans ((t_post hT).trans (((h2.2.2.1 8 rfl).trans (h1.2.2.1 8 rfl)).symm)))),
    ((h2.2.2.1 148 rfl).trans ((h1.2.2.1 148 rfl).trans ((t_told hT).trans (((h2.2.2.1 9 rfl).trans (h1.2.2.1 9 rfl)).symm)))),
    ((h2.2.2.1 149 rfl).trans ((h1.2.2.1 149 rfl).trans ((t_lett hT).trans (((h2.2.2.1 11 rfl).trans (h1.2.2.1 11 rfl)).symm)))),
    ((h2.2.2.1 156 rfl).trans ((h1.2.2.1 156 rfl).trans ((t_ffr hT).trans (((h2.2.2.1 59 rfl).trans (h1.2.2.1 59 rfl)).symm)))),
    ((h2.2.2.1 157 rfl).trans ((h1.2.2.1 157 rfl).trans ((t_fto hT).trans (((h2.2.2.1 60 rfl).trans (h1.2.2.1 60 rfl)).symm)))),
    ((h2.2.2.1 159 rfl).trans ((h1.2.2.1 159 rfl).trans ((t_bfr hT).trans (((h2.2.2.1 61 rfl).trans (h1.2.2.1 61 rfl)).symm)))),
    ((h2.2.2.1 160 rfl).trans ((h1.2.2.1 160 rfl).trans ((t_bto hT).trans (((h2.2.2.1 62 rfl).trans (h1.2.2.1 62 rfl)).symm)))),
    ((h2.2.2.1 161 rfl).trans ((h1.2.2.1 161 rfl).trans ((t_late hT).trans (((h2.2.2.1 84 rfl).trans (h1.2.2.1 84 rfl)).symm)))),
    ((h2.2.2.1 162 rfl).trans ((h1.2.2.1 162 rfl).trans ((t_earl hT).trans (((h2.2.2.1 85 rfl).trans (h1.2.2.1 85 rfl)).symm)))),
    ((h2.2.2.1 167 rfl).trans ((h1.2.2.1 167 rfl).trans ((t_cell hT).trans (((h2.2.2.1 94 rfl).trans (h1.2.2.1 94 rfl)).symm)))),
    ((h2.2.2.1 168 rfl).trans ((h1.2.2.1 168 rfl).trans ((t_views hT).trans (((h2.2.2.1 116 rfl).trans (h1.2.2.1 116 rfl)).symm)))),
    ((h2.2.2.1 170 rfl).trans ((h1.2.2.1 170 rfl).trans ((t_text hT).trans (((h2.2.2.1 118 rfl).trans (h1.2.2.1 118 rfl)).symm)))),
    ((h2.2.2.2.1 145).trans ((h1.2.2.2.1 145).trans ((t_pict hT).trans (((h2.2.2.2.1 6).trans (h1.2.2.2.1 6)).symm)))),
    ((h2.2.1 14034 rfl).trans ((h1.2.1 14034 rfl).trans ((t_wall hT).trans (((h2.2.1 9301 rfl).trans (h1.2.1 9301 rfl)).symm)))),
    (fun c f hc hs hf => by rw [((h2.1 110 rfl).trans (h1.1 110 rfl))] at hs; rw [((h2.2.2.1 158 rfl).trans (h1.2.2.1 158 rfl)), (((h2.2.2.1 (64 + c) (scA_64 hc)).trans (kr_X9_set1_64 _ _ c hc)).trans ((h1.2.2.1 (64 + c) (scA_64 hc)).trans (kr_X8_set1_64 _ _ c hc)))]; exact t_shown hT c f hc hs hf),
    (fun c f hc hs hf => by rw [((h2.1 110 rfl).trans (h1.1 110 rfl))] at hs; rw [(((h2.2.2.1 (64 + c) (scA_64 hc)).trans (kr_X9_set1_64 _ _ c hc)).trans ((h1.2.2.1 (64 + c) (scA_64 hc)).trans (kr_X8_set1_64 _ _ c hc)))]; exact t_hid hT c f hc hs hf),
    (fun c k hc hk => by rw [((h2.2.2.1 116 rfl).trans (h1.2.2.1 116 rfl))] at hk; rw [((h2.2.2.1 169 rfl).trans (h1.2.2.1 169 rfl)), (((h2.2.2.1 (96 + c) (scA_96 hc)).trans (kr_X9_set1_96 _ _ c hc)).trans ((h1.2.2.1 (96 + c) (scA_96 hc)).trans (kr_X8_set1_96 _ _ c hc)))]; exact t_seen hT c k hc hk),
    (fun i j hij hj hs => by rw [((h2.1 110 rfl).trans (h1.1 110 rfl))] at hs; rw [((h2.2.2.1 9 rfl).trans (h1.2.2.1 9 rfl))]; exact t_mono hT i j hij hj hs),
    (fun j hj hs => by rw [((h2.1 110 rfl).trans (h1.1 110 rfl))] at hs; rw [((h2.2.2.1 9 rfl).trans (h1.2.2.1 9 rfl)), ((h2.1 111 rfl).trans (h1.1 111 rfl))]; exact t_last hT j hj hs),
    (by rw [((h2.1 111 rfl).trans (h1.1 111 rfl))]; exact (show inR (σ.1 111) 0 999 from t_dayr hT)),
    (fun l hl => by rw [((h2.2.2.1 94 rfl).trans (h1.2.2.1 94 rfl))]; exact (show inR (σ.2.2.1 94 l) 0 64 from t_cellr hT l hl)),
    (fun i hi => by rw [((h2.2.2.1 3 rfl).trans (h1.2.2.1 3 rfl))]; exact (show inR (σ.2.2.1 3 i) 0 4 from t_pubr hT i hi)),
    (fun c i hc hi => by rw [((h2.2.2.1 11 rfl).trans (h1.2.2.1 11 rfl))] at hi; rw [((h2.2.2.1 150 rfl).trans (h1.2.2.1 150 rfl)), ((h2.2.2.2.1 10).trans (h1.2.2.2.1 10))]; exact t_capt hT c i hc hi)⟩
def E_X8_set2 (σ : Sg) (v : Int32) : Sg := (uI σ 9 v)
def E_X9_set2 (σ : Sg) (v : Int32) : Sg := (uI (uI (uI σ 14012 (σ.1 14012)) 14013 (σ.1 14013)) 14014 v)
set_option maxRecDepth 100000 in
theorem kr_X8_set2_64 (σ : Sg) (v : Int32) : ∀ r : Nat, r < 20 → (E_X8_set2 σ v).2.2.1 (64 + r) = σ.2.2.1 (64 + r)
  | 0, _ => rfl
  | 1, _ => rfl
  | 2, _ => rfl
  | 3, _ => rfl
  | 4, _ => rfl
  | 5, _ => rfl
  | 6, _ => rfl
  | 7, _ => rfl
  | 8, _ => rfl
  | 9, _ => rfl
  | 10, _ => rfl
  | 11, _ => rfl
  | 12, _ => rfl
  | 13, _ => rfl
  | 14, _ => rfl
  | 15, _ => rfl
  | 16, _ => rfl
  | 17, _ => rfl
  | 18, _ => rfl
  | 19, _ => rfl
  | r + 20, h => absurd h (by omega)
set_option maxRecDepth 100000 in
theorem kr_X8_set2_96 (σ : Sg) (v : Int32) : ∀ r : Nat, r < 20 → (E_X8_set2 σ v).2.2.1 (96 + r) = σ.2.2.1 (96 + r)
  | 0, _ => rfl
  | 1, _ => rfl
  | 2, _ => rfl
  | 3, _ => rfl
  | 4, _ => rfl
  | 5, _ => rfl
  | 6, _ => rfl
  | 7, _ => rfl
  | 8, _ => rfl
  | 9, _ => rfl
  | 10, _ => rfl
  | 11, _ => rfl
  | 12, _ => rfl
  | 13, _ => rfl
  | 14, _ => rfl
  | 15, _ => rfl
  | 16, _ => rfl
  | 17, _ => rfl
  | 18, _ => rfl
  | 19, _ => rfl
  | r + 20, h => absurd h (by omega)
set_option maxRecDepth 100000 in
theorem kr_X9_set2_64 (σ : Sg) (v : Int32) : ∀ r : Nat, r < 20 → (E_X9_set2 σ v).2.2.1 (64 + r) = σ.2.2.1 (64 + r)
  | 0, _ => rfl
  | 1, _ => rfl
  | 2, _ => rfl
  | 3, _ => rfl
  | 4, _ => rfl
  | 5, _ => rfl
  | 6, _ => rfl
  | 7, _ => rfl
  | 8, _ => rfl
  | 9, _ => rfl
  | 10, _ => rfl
  | 11, _ => rfl
  | 12, _ => rfl
  | 13, _ => rfl
  | 14, _ => rfl
  | 15, _ => rfl
  | 16, _ => rfl
  | 17, _ => rfl
  | 18, _ => rfl
  | 19, _ => rfl
  | r + 20, h => absurd h (by omega)
set_option maxRecDepth 100000 in
theorem kr_X9_set2_96 (σ : Sg) (v : Int32) : ∀ r : Nat, r < 20 → (E_X9_set2 σ v).2.2.1 (96 + r) = σ.2.2.1 (96 + r)
  | 0, _ => rfl
  | 1, _ => rfl
  | 2, _ => rfl
  | 3, _ => rfl
  | 4, _ => rfl
  | 5, _ => rfl
  | 6, _ => rfl
  | 7, _ => rfl
  | 8, _ => rfl
  | 9, _ => rfl
  | 10, _ => rfl
  | 11, _ => rfl
  | 12, _ => rfl
  | 13, _ => rfl
  | 14, _ => rfl
  | 15, _ => rfl
  | 16, _ => rfl
  | 17, _ => rfl
  | 18, _ => rfl
  | 19, _ => rfl
  | r + 20, h => absurd h (by omega)
set_option maxRecDepth 100000 in
theorem tie_set2 {σ σ2 σ3 : Sg} (v : Int32) (hT : Tie σ) (hI : Inv σ) (h1 : Cor (E_X8_set2 σ v) σ2) (h2 : Cor (E_X9_set2 σ2 v) σ3) : Tie σ3 := by
  refine ⟨((h2.1 14000 rfl).trans ((h1.1 14000 rfl).trans ((t_size hT).trans (((h2.1 110 rfl).trans (h1.1 110 rfl)).symm)))),
    ((h2.1 14011 rfl).trans ((h1.1 14011 rfl).trans ((t_day hT).trans (((h2.1 111 rfl).trans (h1.1 111 rfl)).symm)))),
    (by rw [h2.1 14013 rfl, h2.1 112 rfl]; show (σ2.1 14013) = σ2.1 112; rw [h1.1 14013 rfl, h1.1 112 rfl]; show (σ.1 14013) = σ.1 112; rw [t_asof hT]),
    (by rw [h2.1 14012 rfl, h2.1 1204 rfl]; show (σ2.1 14012) = σ2.1 1204; rw [h1.1 14012 rfl, h1.1 1204 rfl]; show (σ.1 14012) = σ.1 1204; rw [t_slack hT]),
    (by rw [h2.1 14014 rfl, h2.1 9 rfl]; show v = σ2.1 9; rw [h1.1 9 rfl]; show v = v; rw []),
    ((h2.1 14025 rfl).trans ((h1.1 14025 rfl).trans ((t_laters hT).trans (((h2.1 5809 rfl).trans (h1.1 5809 rfl)).symm)))),
    ((h2.1 14037 rfl).trans ((h1.1 14037 rfl).trans ((t_bytes hT).trans (((h2.1 11701 rfl).trans (h1.1 11701 rfl)).symm)))),
    ((h2.2.2.1 141 rfl).trans ((h1.2.2.1 141 rfl).trans ((t_list hT).trans (((h2.2.2.1 2 rfl).trans (h1.2.2.1 2 rfl)).symm)))),
    ((h2.2.2.1 142 rfl).trans ((h1.2.2.1 142 rfl).trans ((t_publ hT).trans (((h2.2.2.1 3 rfl).trans (h1.2.2.1 3 rfl)).symm)))),
    ((h2.2.2.1 143 rfl).trans ((h1.2.2.1 143 rfl).trans ((t_numb hT).trans (((h2.2.2.1 4 rfl).trans (h1.2.2.1 4 rfl)).symm)))),
    ((h2.2.2.1 144 rfl).trans ((h1.2.2.1 144 rfl).trans ((t_back hT).trans (((h2.2.2.1 5 rfl).trans (h1.2.2.1 5 rfl)).symm)))),
    ((h2.2.2.1 146 rfl).trans ((h1.2.2.1 146 rfl).trans ((t_sky hT).trans (((h2.2.2.1 7 rfl).trans (h1.2.2.1 7 rfl)).symm)))),
    ((h2.2.2.1 147 rfl).trans ((h1.2.2.1 147 rfl).trans ((t_post hT).trans (((h2.2.2.1 8 rfl).trans (h1.2.2.1 8 rfl)).symm)))),
    ((h2.2.2.1 148 rfl).trans ((h1.2.2.1 148 rfl).trans ((t_told hT).trans (((h2.2.2.1 9 rfl).trans (h1.2.2.1 9 rfl)).symm)))),
    ((h2.2.2.1 149 rfl).trans ((h1.2.2.1 149 rfl).trans ((t_lett hT).trans (((h2.2.2.1 11 rfl).trans (h1.2.2.1 11 rfl)).symm)))),
    ((h2.2.2.1 156 rfl).trans ((h1.2.2.1 156 rfl).trans ((t_ffr hT).trans (((h2.2.2.1 59 rfl).trans (h1.2.2.1 59 rfl)).symm)))),
    ((h2.2.2.1 157 rfl).trans ((h1.2.2.1 157 rfl).trans ((t_fto hT).trans (((h2.2.2.1 60 rfl).trans (h1.2.2.1 60 rfl)).symm)))),
    ((h2.2.2.1 159 rfl).trans ((h1.2.2.1 159 rfl).trans ((t_bfr hT).trans (((h2.2.2.1 61 rfl).trans (h1.2.2.1 61 rfl)).symm)))),
    ((h2.2.2.1 160 rfl).trans ((h1.2.2.1 160 rfl).trans ((t_bto hT).trans (((h2.2.2.1 62 rfl).trans (h1.2.2.1 62 rfl)).symm)))),
    ((h2.2.2.1 161 rfl).trans ((h1.2.2.1 161 rfl).trans ((t_late hT).trans (((h2.2.2.1 84 rfl).trans (h1.2.2.1 84 rfl)).symm)))),
    ((h2.2.2.1 162 rfl).trans ((h1.2.2.1 162 rfl).trans ((t_earl hT).trans (((h2.2.2.1 85 rfl).trans (h1.2.2.1 85 rfl)).symm)))),
    ((h2.2.2.1 167 rfl).trans ((h1.2.2.1 167 rfl).trans ((t_cell hT).trans (((h2.2.2.1 94 rfl).trans (h1.2.2.1 94 rfl)).symm)))),
    ((h2.2.2.1 168 rfl).trans ((h1.2.2.1 168 rfl).trans ((t_views hT).trans (((h2.2.2.1 116 rfl).trans (h1.2.2.1 116 rfl)).symm)))),
    ((h2.2.2.1 170 rfl).trans ((h1.2.2.1 170 rfl).trans ((t_text hT).trans (((h2.2.2.1 118 rfl).trans (h1.2.2.1 118 rfl)).symm)))),
    ((h2.2.2.2.1 145).trans ((h1.2.2.2.1 145).trans ((t_pict hT).trans (((h2.2.2.2.1 6).trans (h1.2.2.2.1 6)).symm)))),
    ((h2.2.1 14034 rfl).trans ((h1.2.1 14034 rfl).trans ((t_wall hT).trans (((h2.2.1 9301 rfl).trans (h1.2.1 9301 rfl)).symm)))),
    (fun c f hc hs hf => by rw [((h2.1 110 rfl).trans (h1.1 110 rfl))] at hs; rw [((h2.2.2.1 158 rfl).trans (h1.2.2.1 158 rfl)), (((h2.2.2.1 (64 + c) (scA_64 hc)).trans (kr_X9_set2_64 _ _ c hc)).trans ((h1.2.2.1 (64 + c) (scA_64 hc)).trans (kr_X8_set2_64 _ _ c hc)))]; exact t_shown hT c f hc hs hf),
    (fun c f hc hs hf => by rw [((h2.1 110 rfl).trans (h1.1 110 rfl))] at hs; rw [(((h2.2.2.1 (64 + c) (scA_64 hc)).trans (kr_X9_set2_64 _ _ c hc)).trans ((h1.2.2.1 (64 + c) (scA_64 hc)).trans (kr_X8_set2_64 _ _ c hc)))]; exact t_hid hT c f hc hs hf),
    (fun c k hc hk => by rw [((h2.2.2.1 116 rfl).trans (h1.2.2.1 116 rfl))] at hk; rw [((h2.2.2.1 169 rfl).trans (h1.2.2.1 169 rfl)), (((h2.2.2.1 (96 + c) (scA_96 hc)).trans (kr_X9_set2_96 _ _ c hc)).trans ((h1.2.2.1 (96 + c) (scA_96 hc)).trans (kr_X8_set2_96 _ _ c hc)))]; exact t_seen hT c k hc hk),
    (fun i j hij hj hs => by rw [((h2.1 110 rfl).trans (h1.1 110 rfl))] at hs; rw [((h2.2.2.1 9 rfl).trans (h1.2.2.1 9 rfl))]; exact t_mono hT i j hij hj hs),
    (fun j hj hs => by rw [((h2.1 110 rfl).trans (h1.1 110 rfl))] at hs; rw [((h2.2.2.1 9 rfl).trans (h1.2.2.1 9 rfl)), ((h2.1 111 rfl).trans (h1.1 111 rfl))]; exact t_last hT j hj hs),
    (by rw [((h2.1 111 rfl).trans (h1.1 111 rfl))]; exact (show inR (σ.1 111) 0 999 from t_dayr hT)),
    (fun l hl => by rw [((h2.2.2.1 94 rfl).trans (h1.2.2.1 94 rfl))]; exact (show inR (σ.2.2.1 94 l) 0 64 from t_cellr hT l hl)),
    (fun i hi => by rw [((h2.2.2.1 3 rfl).trans (h1.2.2.1 3 rfl))]; exact (show inR (σ.2.2.1 3 i) 0 4 from t_pubr hT i hi)),
    (fun c i hc hi => by rw [((h2.2.2.1 11 rfl).trans (h1.2.2.1 11 rfl))] at hi; rw [((h2.2.2.1 150 rfl).trans (h1.2.2.1 150 rfl)), ((h2.2.2.2.1 10).trans (h1.2.2.2.1 10))]; exact t_capt hT c i hc hi)⟩
