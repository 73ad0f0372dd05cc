/-! each pair of calls keeps the ties, and answers alike -/
theorem st_card {σ σ2 σ3 : Sg} (a b n k : Int32) (p : Int64) (s t : Int32) (hI : Inv σ) (hT : Tie σ) (h1 : CoK (bif K_card a b n k s t (σ.1 110) then (E_X8_card σ a b n k p s t) else σ) σ2) (h2 : Cor (bif K_card a b n k s t (σ2.1 14000) then (E_X9_card σ2 a b n k p s t) else σ2) σ3) : Tie σ3 := by
  replace h1 := cok_w h1
  cases hK : K_card a b n k s t (σ.1 110)
  · have h1t : CoW σ σ2 := by rw [hK] at h1; exact h1
    have ez : σ2.1 14000 = σ.1 110 := (show σ2.1 14000 = σ.1 14000 from h1t.1 14000 rfl).trans (t_size hT)
    have e9 : (K_card a b n k s t (σ2.1 14000)) = false := by rw [ez]; exact hK
    rw [e9] at h2
    exact tie_cor (tie_w hT h1t) h2
  · have h1t : CoW (E_X8_card σ a b n k p s t) σ2 := by rw [hK] at h1; exact h1
    have ez : σ2.1 14000 = σ.1 110 := (show σ2.1 14000 = σ.1 14000 from h1t.1 14000 rfl).trans (t_size hT)
    have e9 : (K_card a b n k s t (σ2.1 14000)) = true := by rw [ez]; exact hK
    rw [e9] at h2
    refine tie_card a b n k p s t hT hI ?_ (inB_r (by have q := hK; unfold K_card at q; simp only [Bool.and_eq_true] at q; exact q.1.2.1)) h1t h2
    unfold K_card at hK
    simp only [Bool.and_eq_true, Bool.not_eq_true', decide_eq_false_iff_not] at hK
    have q := ti_in (iv_110 hI)
    have q2 : (σ.1 110).toInt ≠ 20 := fun e => hK.2.2 (Int32.toInt_inj.mp e)
    have z : (20 : Int32).toInt = 20 := by decide
    have z2 : (19 : Int32).toInt = 19 := by decide
    exact of_ti q.1 (by omega)
theorem st_caption {σ σ2 σ3 : Sg} (c : Int32) (p : Int64) (n : Int32) (hI : Inv σ) (hT : Tie σ) (h1 : CoK (bif K_cap (thC σ c) p n then (E_X8_caption σ c p n) else σ) σ2) (h2 : Cor (bif K_cap (thM σ2 c) p n then (E_X9_caption σ2 c p n) else σ2) σ3) : Tie σ3 := by
  replace h1 := cok_w h1
  cases hK : K_cap (thC σ c) p n
  · have h1t : CoW σ σ2 := by rw [hK] at h1; exact h1
    have ec : thM σ2 c = thC σ c := (thM_at (σ := σ) (show σ2.1 14000 = σ.1 14000 from h1t.1 14000 rfl) (show σ2.1 14013 = σ.1 14013 from h1t.1 14013 rfl) (show σ2.2.2.1 148 = σ.2.2.1 148 from h1t.2.2.1 148 rfl) c).trans (th_eq hI hT c)
    have e9 : (K_cap (thM σ2 c) p n) = false := by rw [ec]; exact hK
    rw [e9] at h2
    exact tie_cor (tie_w hT h1t) h2
  · have h1t : CoW (E_X8_caption σ c p n) σ2 := by rw [hK] at h1; exact h1
    have ec : thM σ2 c = thC σ c := (thM_at (σ := σ) (show σ2.1 14000 = σ.1 14000 from h1t.1 14000 rfl) (show σ2.1 14013 = σ.1 14013 from h1t.1 14013 rfl) (show σ2.2.2.1 148 = σ.2.2.1 148 from h1t.2.2.1 148 rfl) c).trans (th_eq hI hT c)
    have e9 : (K_cap (thM σ2 c) p n) = true := by rw [ec]; exact hK
    rw [e9] at h2
    unfold K_cap at hK
    simp only [Bool.and_eq_true] at hK
    exact tie_caption c p n hT hI (thC_r hI hK.1) (inB_r hK.2.1) h1t h2
theorem st_days {σ σ2 σ3 : Sg} (a : Int32) (hI : Inv σ) (hT : Tie σ) (h1 : Cor (bif K_days (σ.1 111) a then (E_X8_days σ a) else σ) σ2) (h2 : Cor (bif K_days (σ2.1 14011) a then (E_X9_days σ2 a) else σ2) σ3) : Tie σ3 := by
  cases hK : K_days (σ.1 111) a
  · have h1t : Cor σ σ2 := by rw [hK] at h1; exact h1
    have ez : σ2.1 14011 = σ.1 111 := (show σ2.1 14011 = σ.1 14011 from h1t.1 14011 rfl).trans (t_day hT)
    have e9 : (K_days (σ2.1 14011) a) = false := by rw [ez]; exact hK
    rw [e9] at h2
    exact tie_cor (tie_cor hT h1t) h2
  · have h1t : Cor (E_X8_days σ a) σ2 := by rw [hK] at h1; exact h1
    have ez : σ2.1 14011 = σ.1 111 := (show σ2.1 14011 = σ.1 14011 from h1t.1 14011 rfl).trans (t_day hT)
    have e9 : (K_days (σ2.1 14011) a) = true := by rw [ez]; exact hK
    rw [e9] at h2
    exact tie_days a hT hI hK h1t h2
theorem st_feature {σ σ2 σ3 : Sg} (f a b : Int32) (hI : Inv σ) (hT : Tie σ) (h1 : Cor (bif K_feature f a b then (E_X8_feature σ f a b) else σ) σ2) (h2 : Cor (bif K_feature f a b then (E_X9_feature σ2 f a b) else σ2) σ3) : Tie σ3 := by
  cases hK : K_feature f a b
  · have h1t : Cor σ σ2 := by rw [hK] at h1; exact h1
    have e9 : (K_feature f a b) = false := by exact hK
    rw [e9] at h2
    exact tie_cor (tie_cor hT h1t) h2
  · have h1t : Cor (E_X8_feature σ f a b) σ2 := by rw [hK] at h1; exact h1
    have e9 : (K_feature f a b) = true := by exact hK
    rw [e9] at h2
    exact tie_feature f a b hT hI h1t h2
theorem st_back {σ σ2 σ3 : Sg} (f a b : Int32) (hI : Inv σ) (hT : Tie σ) (h1 : Cor (bif K_back f a b then (E_X8_back σ f a b) else σ) σ2) (h2 : Cor (bif K_back f a b then (E_X9_back σ2 f a b) else σ2) σ3) : Tie σ3 := by
  cases hK : K_back f a b
  · have h1t : Cor σ σ2 := by rw [hK] at h1; exact h1
    have e9 : (K_back f a b) = false := by exact hK
    rw [e9] at h2
    exact tie_cor (tie_cor hT h1t) h2
  · have h1t : Cor (E_X8_back σ f a b) σ2 := by rw [hK] at h1; exact h1
    have e9 : (K_back f a b) = true := by exact hK
    rw [e9] at h2
    exact tie_back f a b hT hI h1t h2
theorem st_landmark {σ σ2 σ3 : Sg} (a b : Int32) (hI : Inv σ) (hT : Tie σ) (h1 : Cor (bif K_landmark a b then (E_X8_landmark σ a b) else σ) σ2) (h2 : Cor (bif K_landmark a b then (E_X9_landmark σ2 a b) else σ2) σ3) : Tie σ3 := by
  cases hK : K_landmark a b
  · have h1t : Cor σ σ2 := by rw [hK] at h1; exact h1
    have e9 : (K_landmark a b) = false := by exact hK
    rw [e9] at h2
    exact tie_cor (tie_cor hT h1t) h2
  · have h1t : Cor (E_X8_landmark σ a b) σ2 := by rw [hK] at h1; exact h1
    have e9 : (K_landmark a b) = true := by exact hK
    rw [e9] at h2
    exact tie_landmark a b hT hI hK h1t h2
theorem st_walls {σ σ2 σ3 : Sg} (a : Int64) (hI : Inv σ) (hT : Tie σ) (h1 : Cor (E_X8_walls σ a) σ2) (h2 : Cor (E_X9_walls σ2 a) σ3) : Tie σ3 := tie_walls a hT hI h1 h2
theorem st_erase {σ σ2 σ3 : Sg} (hI : Inv σ) (hT : Tie σ) (h1 : Cor (E_X8_erase σ) σ2) (h2 : Cor (E_X9_erase σ2) σ3) : Tie σ3 := tie_erase hT hI h1 h2
theorem st_shows {σ σ2 σ3 : Sg} (c f v : Int32) (hI : Inv σ) (hT : Tie σ) (h1 : Cor (bif K_shows (thC σ c) f v then (E_X8_shows σ c f v) else σ) σ2) (h2 : Cor (bif K_shows (thM σ2 c) f v then (E_X9_shows σ2 c f v) else σ2) σ3) : Tie σ3 := by
  cases hK : K_shows (thC σ c) f v
  · have h1t : Cor σ σ2 := by rw [hK] at h1; exact h1
    have ec : thM σ2 c = thC σ c := (thM_at (σ := σ) (show σ2.1 14000 = σ.1 14000 from h1t.1 14000 rfl) (show σ2.1 14013 = σ.1 14013 from h1t.1 14013 rfl) (show σ2.2.2.1 148 = σ.2.2.1 148 from h1t.2.2.1 148 rfl) c).trans (th_eq hI hT c)
    have e158 : σ2.2.2.1 158 = σ.2.2.1 158 := h1t.2.2.1 158 rfl
    have e9 : (K_shows (thM σ2 c) f v) = false := by rw [ec]; exact hK
    rw [e9] at h2
    exact tie_cor (tie_cor hT h1t) h2
  · have h1t : Cor (E_X8_shows σ c f v) σ2 := by rw [hK] at h1; exact h1
    have hcr : inR c 0 19 := by { have hq := hK; unfold K_shows at hq; simp only [Bool.and_eq_true] at hq; exact thC_r hI hq.1.1 }
    have ec : thM σ2 c = thC σ c := (thM_at (σ := σ) (show σ2.1 14000 = σ.1 14000 from h1t.1 14000 rfl) (show σ2.1 14013 = σ.1 14013 from h1t.1 14013 rfl) (show σ2.2.2.1 148 = σ.2.2.1 148 from (h1t.2.2.1 148 rfl).trans (ka_X8_shows hcr 148 (by omega))) c).trans (th_eq hI hT c)
    have e158 : σ2.2.2.1 158 = σ.2.2.1 158 := (h1t.2.2.1 158 rfl).trans (ka_X8_shows hcr 158 (by omega))
    have e9 : (K_shows (thM σ2 c) f v) = true := by rw [ec]; exact hK
    rw [e9] at h2
    unfold K_shows at hK
    simp only [Bool.and_eq_true] at hK
    exact tie_shows c f v hT hI (thC_r hI hK.1.1) (inB_r hK.1.2) (thC_s hI hK.1.1) h1t h2
theorem st_later {σ σ2 σ3 : Sg} (a b : Int32) (hI : Inv σ) (hT : Tie σ) (h1 : Cor (bif K_later (ttC σ a b) (σ.1 5809) then (E_X8_later σ a b) else σ) σ2) (h2 : Cor (bif K_later (ttM σ2 a b) (σ2.1 14025) then (E_X9_later σ2 a b) else σ2) σ3) : Tie σ3 := by
  cases hK : K_later (ttC σ a b) (σ.1 5809)
  · have h1t : Cor σ σ2 := by rw [hK] at h1; exact h1
    have ea : thM σ2 a = thC σ a := (thM_at (σ := σ) (show σ2.1 14000 = σ.1 14000 from h1t.1 14000 rfl) (show σ2.1 14013 = σ.1 14013 from h1t.1 14013 rfl) (show σ2.2.2.1 148 = σ.2.2.1 148 from h1t.2.2.1 148 rfl) a).trans (th_eq hI hT a)
    have eb : thM σ2 b = thC σ b := (thM_at (σ := σ) (show σ2.1 14000 = σ.1 14000 from h1t.1 14000 rfl) (show σ2.1 14013 = σ.1 14013 from h1t.1 14013 rfl) (show σ2.2.2.1 148 = σ.2.2.1 148 from h1t.2.2.1 148 rfl) b).trans (th_eq hI hT b)
    have et : ttM σ2 a b = ttC σ a b := by unfold ttM ttC; rw [ea, eb]
    have ez : σ2.1 14025 = σ.1 5809 := (show σ2.1 14025 = σ.1 14025 from h1t.1 14025 rfl).trans (t_laters hT)
    have e9 : (K_later (ttM σ2 a b) (σ2.1 14025)) = false := by rw [et, ez]; exact hK
    rw [e9] at h2
    exact tie_cor (tie_cor hT h1t) h2
  · have h1t : Cor (E_X8_later σ a b) σ2 := by rw [hK] at h1; exact h1
    have ea : thM σ2 a = thC σ a := (thM_at (σ := σ) (show σ2.1 14000 = σ.1 14000 from h1t.1 14000 rfl) (show σ2.1 14013 = σ.1 14013 from h1t.1 14013 rfl) (show σ2.2.2.1 148 = σ.2.2.1 148 from h1t.2.2.1 148 rfl) a).trans (th_eq hI hT a)
    have eb : thM σ2 b = thC σ b := (thM_at (σ := σ) (show σ2.1 14000 = σ.1 14000 from h1t.1 14000 rfl) (show σ2.1 14013 = σ.1 14013 from h1t.1 14013 rfl) (show σ2.2.2.1 148 = σ.2.2.1 148 from h1t.2.2.1 148 rfl) b).trans (th_eq hI hT b)
    have et : ttM σ2 a b = ttC σ a b := by unfold ttM ttC; rw [ea, eb]
    have ez : σ2.1 14025 = σ.1 5809 := (show σ2.1 14025 = σ.1 14025 from h1t.1 14025 rfl).trans (t_laters hT)
    have e9 : (K_later (ttM σ2 a b) (σ2.1 14025)) = true := by rw [et, ez]; exact hK
    rw [e9] at h2
    exact tie_later a b hT hI h1t h2
theorem st_unview {σ σ2 σ3 : Sg} (c : Int32) (hI : Inv σ) (hT : Tie σ) (h1 : Cor (bif thC σ c then (E_X8_unview σ c) else σ) σ2) (h2 : Cor (bif thM σ2 c then (E_X9_unview σ2 c) else σ2) σ3) : Tie σ3 := by
  cases hK : thC σ c
  · have h1t : Cor σ σ2 := by rw [hK] at h1; exact h1
    have ec : thM σ2 c = thC σ c := (thM_at (σ := σ) (show σ2.1 14000 = σ.1 14000 from h1t.1 14000 rfl) (show σ2.1 14013 = σ.1 14013 from h1t.1 14013 rfl) (show σ2.2.2.1 148 = σ.2.2.1 148 from h1t.2.2.1 148 rfl) c).trans (th_eq hI hT c)
    have e9 : (thM σ2 c) = false := by rw [ec]; exact hK
    rw [e9] at h2
    exact tie_cor (tie_cor hT h1t) h2
  · have h1t : Cor (E_X8_unview σ c) σ2 := by rw [hK] at h1; exact h1
    have ec : thM σ2 c = thC σ c := (thM_at (σ := σ) (show σ2.1 14000 = σ.1 14000 from h1t.1 14000 rfl) (show σ2.1 14013 = σ.1 14013 from h1t.1 14013 rfl) (show σ2.2.2.1 148 = σ.2.2.1 148 from h1t.2.2.1 148 rfl) c).trans (th_eq hI hT c)
    have e9 : (thM σ2 c) = true := by rw [ec]; exact hK
    rw [e9] at h2
    exact tie_unview c hT hI (thC_r hI hK) h1t h2
theorem st_write {σ σ2 σ3 : Sg} (p : Int64) (n : Int32) (hI : Inv σ) (hT : Tie σ) (h1 : Cor (bif K_write n (σ.1 11701) then (E_X8_write σ p n) else σ) σ2) (h2 : Cor (bif K_write n (σ2.1 14037) then (E_X9_write σ2 p n) else σ2) σ3) : Tie σ3 := by
  cases hK : K_write n (σ.1 11701)
  · have h1t : Cor σ σ2 := by rw [hK] at h1; exact h1
    have ez : σ2.1 14037 = σ.1 11701 := (show σ2.1 14037 = σ.1 14037 from h1t.1 14037 rfl).trans (t_bytes hT)
    have e9 : (K_write n (σ2.1 14037)) = false := by rw [ez]; exact hK
    rw [e9] at h2
    exact tie_cor (tie_cor hT h1t) h2
  · have h1t : Cor (E_X8_write σ p n) σ2 := by rw [hK] at h1; exact h1
    have ez : σ2.1 14037 = σ.1 11701 := (show σ2.1 14037 = σ.1 14037 from h1t.1 14037 rfl).trans (t_bytes hT)
    have e9 : (K_write n (σ2.1 14037)) = true := by rw [ez]; exact hK
    rw [e9] at h2
    exact tie_write p n hT hI h1t h2
theorem inV_congr {f g : Nat → Int32} {l : Int32} : ∀ n : Nat, (∀ k, k < n → f k = g k) → inV f l n = inV g l n := by
  intro n
  induction n with
  | zero => intro _; rfl
  | succ n ih => intro h; unfold inV; rw [ih (fun k hk => h k (by omega)), h n (by omega)]
theorem view_eq {σ σ2 : Sg} {c l9 : Int32} (hI : Inv σ) (hT : Tie σ) (hc : thC σ c = true) (e1 : σ2.2.2.1 168 = σ.2.2.1 168) (e2 : σ2.2.2.1 169 = σ.2.2.1 169) : (σ2.2.2.1 168 (Int32.toNatClampNeg c)) = (σ.2.2.1 116 (Int32.toNatClampNeg c)) ∧ (inV (fun k => σ2.2.2.1 169 (Int32.toNatClampNeg ((5 * c) + (nI k)))) l9 (Int32.toNatClampNeg (σ2.2.2.1 168 (Int32.toNatClampNeg c)))) = (inV (fun k => σ.2.2.1 (96 + (Int32.toNatClampNeg c)) (Int32.toNatClampNeg (nI k))) l9 (Int32.toNatClampNeg (σ.2.2.1 116 (Int32.toNatClampNeg c)))) := by
  have hcr := thC_r hI hc
  have e : (σ2.2.2.1 168 (Int32.toNatClampNeg c)) = (σ.2.2.1 116 (Int32.toNatClampNeg c)) := by rw [e1, t_views hT]
  refine ⟨e, ?_⟩
  rw [e]
  have h5 := clamp5 (iva_116 hI _ (clamp19 hcr))
  refine inV_congr _ (fun k hk => ?_)
  show σ2.2.2.1 169 (Int32.toNatClampNeg ((5 * c) + (nI k))) = σ.2.2.1 (96 + (Int32.toNatClampNeg c)) (Int32.toNatClampNeg (nI k))
  have h6 := idx5 hcr (f := nI k) (inR_nI (M := 4) (by omega) (by decide))
  rw [e2, h6, nI_clamp (by omega)]
  exact t_seen hT _ k (clamp19 hcr) hk
theorem e8_169 {σ : Sg} {c l9 : Int32} (hc : inR c 0 19) : (E_X8_view σ c l9).2.2.1 169 = σ.2.2.1 169 ∧ (E_X8_view σ c l9).2.2.1 168 = σ.2.2.1 168 ∧ (E_X8_view σ c l9).2.2.1 148 = σ.2.2.1 148 := ⟨ka_X8_view hc 169 (by omega), ka_X8_view hc 168 (by omega), ka_X8_view hc 148 (by omega)⟩
theorem st_view {σ σ2 σ3 : Sg} (c l9 : Int32) (hI : Inv σ) (hT : Tie σ) (h1 : Cor (bif K_view (thC σ c) (inV (fun k => σ.2.2.1 (96 + (Int32.toNatClampNeg c)) (Int32.toNatClampNeg (nI k))) l9 (Int32.toNatClampNeg (σ.2.2.1 116 (Int32.toNatClampNeg c)))) l9 (σ.2.2.1 116 (Int32.toNatClampNeg c)) then (E_X8_view σ c l9) else σ) σ2) (h2 : Cor (bif K_view (thM σ2 c) (inV (fun k => σ2.2.2.1 169 (Int32.toNatClampNeg ((5 * c) + (nI k)))) l9 (Int32.toNatClampNeg (σ2.2.2.1 168 (Int32.toNatClampNeg c)))) l9 (σ2.2.2.1 168 (Int32.toNatClampNeg c)) then (E_X9_view σ2 c l9) else σ2) σ3) : Tie σ3 := by
  cases hc : thC σ c
  · have hK : (K_view (thC σ c) (inV (fun k => σ.2.2.1 (96 + (Int32.toNatClampNeg c)) (Int32.toNatClampNeg (nI k))) l9 (Int32.toNatClampNeg (σ.2.2.1 116 (Int32.toNatClampNeg c)))) l9 (σ.2.2.1 116 (Int32.toNatClampNeg c))) = false := by unfold K_view; rw [hc]; rfl
    have h1t : Cor σ σ2 := by rw [hK] at h1; exact h1
    have e0 : thM σ2 c = false := ((thM_at (h1t.1 14000 rfl) (h1t.1 14013 rfl) (h1t.2.2.1 148 rfl) c).trans (th_eq hI hT c)).trans hc
    have e9 : (K_view (thM σ2 c) (inV (fun k => σ2.2.2.1 169 (Int32.toNatClampNeg ((5 * c) + (nI k)))) l9 (Int32.toNatClampNeg (σ2.2.2.1 168 (Int32.toNatClampNeg c)))) l9 (σ2.2.2.1 168 (Int32.toNatClampNeg c))) = false := by unfold K_view; rw [e0]; rfl
    rw [e9] at h2
    exact tie_cor (tie_cor hT h1t) h2
  · have hcr := thC_r hI hc
    cases hK : K_view (thC σ c) (inV (fun k => σ.2.2.1 (96 + (Int32.toNatClampNeg c)) (Int32.toNatClampNeg (nI k))) l9 (Int32.toNatClampNeg (σ.2.2.1 116 (Int32.toNatClampNeg c)))) l9 (σ.2.2.1 116 (Int32.toNatClampNeg c))
    · have h1t : Cor σ σ2 := by rw [hK] at h1; exact h1
      have e0 : thM σ2 c = true := ((thM_at (h1t.1 14000 rfl) (h1t.1 14013 rfl) (h1t.2.2.1 148 rfl) c).trans (th_eq hI hT c)).trans hc
      have ev := view_eq (l9 := l9) hI hT hc (h1t.2.2.1 168 rfl) (h1t.2.2.1 169 rfl)
      have e9 : (K_view (thM σ2 c) (inV (fun k => σ2.2.2.1 169 (Int32.toNatClampNeg ((5 * c) + (nI k)))) l9 (Int32.toNatClampNeg (σ2.2.2.1 168 (Int32.toNatClampNeg c)))) l9 (σ2.2.2.1 168 (Int32.toNatClampNeg c))) = false := by rw [e0, ev.2, ev.1]; rw [hc] at hK; exact hK
      rw [e9] at h2
      exact tie_cor (tie_cor hT h1t) h2
    · have h1t : Cor (E_X8_view σ c l9) σ2 := by rw [hK] at h1; exact h1
      have e8 := e8_169 (σ := σ) (l9 := l9) hcr
      have e0 : thM σ2 c = true := ((thM_at (σ := σ) (h1t.1 14000 rfl) (h1t.1 14013 rfl) ((h1t.2.2.1 148 rfl).trans e8.2.2) c).trans (th_eq hI hT c)).trans hc
      have ev := view_eq (l9 := l9) hI hT hc ((h1t.2.2.1 168 rfl).trans e8.2.1) ((h1t.2.2.1 169 rfl).trans e8.1)
      have e9 : (K_view (thM σ2 c) (inV (fun k => σ2.2.2.1 169 (Int32.toNatClampNeg ((5 * c) + (nI k)))) l9 (Int32.toNatClampNeg (σ2.2.2.1 168 (Int32.toNatClampNeg c)))) l9 (σ2.2.2.1 168 (Int32.toNatClampNeg c))) = true := by rw [e0, ev.2, ev.1]; rw [hc] at hK; exact hK
      rw [e9] at h2
      refine tie_view c l9 hT hI hcr ?_ h1t h2
      unfold K_view at hK
      simp only [Bool.and_eq_true, Bool.not_eq_true', decide_eq_false_iff_not] at hK
      have q := ti_in (iva_116 hI _ (clamp19 hcr))
      have q2 : (σ.2.2.1 116 (Int32.toNatClampNeg c)).toInt ≠ 5 := fun e => hK.2.2 (Int32.toInt_inj.mp e)
      have z : (5 : Int32).toInt = 5 := by decide
      have z2 : (4 : Int32).toInt = 4 := by decide
      exact of_ti q.1 (by omega)
theorem st_set {σ σ2 σ3 : Sg} (a v : Int32) (hI : Inv σ) (hT : Tie σ) (h1 : Cor (E_X8_set σ a v) σ2) (h2 : Cor (E_X9_set σ2 a v) σ3) : Tie σ3 := by
  rcases sw2 a with rfl | rfl | rfl | hsw
  · have h1t : Cor (bif inB v 0 8 then E_X8_set0 σ v else σ) σ2 := h1
    have h2t : Cor (bif inB v 0 8 then E_X9_set0 σ2 v else σ2) σ3 := h2
    cases hB : inB v 0 8
    · rw [hB] at h1t h2t
      exact tie_cor (tie_cor hT (show Cor σ σ2 from h1t)) (show Cor σ2 σ3 from h2t)
    · rw [hB] at h1t h2t
      exact tie_set0 v hT hI h1t h2t
  · have h1t : Cor (bif inB v 0 999 then E_X8_set1 σ v else σ) σ2 := h1
    have h2t : Cor (bif inB v 0 999 then E_X9_set1 σ2 v else σ2) σ3 := h2
    cases hB : inB v 0 999
    · rw [hB] at h1t h2t
      exact tie_cor (tie_cor hT (show Cor σ σ2 from h1t)) (show Cor σ2 σ3 from h2t)
    · rw [hB] at h1t h2t
      exact tie_set1 v hT hI h1t h2t
  · have h1t : Cor (bif inB v 1 10000 then E_X8_set2 σ v else σ) σ2 := h1
    have h2t : Cor (bif inB v 1 10000 then E_X9_set2 σ2 v else σ2) σ3 := h2
    cases hB : inB v 1 10000
    · rw [hB] at h1t h2t
      exact tie_cor (tie_cor hT (show Cor σ σ2 from h1t)) (show Cor σ2 σ3 from h2t)
    · rw [hB] at h1t h2t
      exact tie_set2 v hT hI h1t h2t
  · have n0 : ¬ a = 0 := ne_out hsw (by decide)
    have n1 : ¬ a = 1 := ne_out hsw (by decide)
    have n2 : ¬ a = 2 := ne_out hsw (by decide)
    have e8 : E_X8_set σ a v = σ := by unfold E_X8_set; rw [if_neg n0, if_neg n1, if_neg n2]
    have e9 : E_X9_set σ2 a v = σ2 := by unfold E_X9_set; rw [if_neg n0, if_neg n1, if_neg n2]
    rw [e8] at h1
    rw [e9] at h2
    exact tie_cor (tie_cor hT h1) h2
theorem st_catalogue {σ σ2 σ3 : Sg} (hT : Tie σ) (h1 : ∃ a b, (CoL (uN σ a b) σ2 ∨ CoM (uN σ a b) σ2)) (h2 : Cor σ2 σ3 ∨ ∃ f n, Cor (uI (uA σ2 172 f) 14047 n) σ3) : Tie σ3 := by
  obtain ⟨a, b, h1⟩ := h1
  have hT2 : Tie σ2 := tie_w (show Tie (uN σ a b) from hT) (h1.elim col_w com_w)
  rcases h2 with h2 | ⟨f, n, h2⟩
  · exact tie_cor hT2 h2
  · refine tie_cor (σ := uI (uA σ2 172 f) 14047 n) ⟨(show σ2.1 14000 = σ2.1 110 from t_size hT2), (show σ2.1 14011 = σ2.1 111 from t_day hT2), (show σ2.1 14013 = σ2.1 112 from t_asof hT2), (show σ2.1 14012 = σ2.1 1204 from t_slack hT2), (show σ2.1 14014 = σ2.1 9 from t_base hT2), (show σ2.1 14025 = σ2.1 5809 from t_laters hT2), (show σ2.1 14037 = σ2.1 11701 from t_bytes hT2), (show σ2.2.2.1 141 = σ2.2.2.1 2 from t_list hT2), (show σ2.2.2.1 142 = σ2.2.2.1 3 from t_publ hT2), (show σ2.2.2.1 143 = σ2.2.2.1 4 from t_numb hT2), (show σ2.2.2.1 144 = σ2.2.2.1 5 from t_back hT2), (show σ2.2.2.1 146 = σ2.2.2.1 7 from t_sky hT2), (show σ2.2.2.1 147 = σ2.2.2.1 8 from t_post hT2), (show σ2.2.2.1 148 = σ2.2.2.1 9 from t_told hT2), (show σ2.2.2.1 149 = σ2.2.2.1 11 from t_lett hT2), (show σ2.2.2.1 156 = σ2.2.2.1 59 from t_ffr hT2), (show σ2.2.2.1 157 = σ2.2.2.1 60 from t_fto hT2), (show σ2.2.2.1 159 = σ2.2.2.1 61 from t_bfr hT2), (show σ2.2.2.1 160 = σ2.2.2.1 62 from t_bto hT2), (show σ2.2.2.1 161 = σ2.2.2.1 84 from t_late hT2), (show σ2.2.2.1 162 = σ2.2.2.1 85 from t_earl hT2), (show σ2.2.2.1 167 = σ2.2.2.1 94 from t_cell hT2), (show σ2.2.2.1 168 = σ2.2.2.1 116 from t_views hT2), (show σ2.2.2.1 170 = σ2.2.2.1 118 from t_text hT2), (show σ2.2.2.2.1 145 = σ2.2.2.2.1 6 from t_pict hT2), (show σ2.2.1 14034 = σ2.2.1 9301 from t_wall hT2), (fun c g hc hs hg => by show σ2.2.2.1 158 _ = va_up σ2.2.2.1 172 f (64 + c) g; rw [up_ne _ (by omega)]; exact t_shown hT2 c g hc hs hg), (fun c g hc hs hg => by show va_up σ2.2.2.1 172 f (64 + c) g = 2; rw [up_ne _ (by omega)]; exact t_hid hT2 c g hc hs hg), (fun c k hc hk => by show σ2.2.2.1 169 _ = va_up σ2.2.2.1 172 f (96 + c) k; rw [up_ne _ (by omega)]; exact t_seen hT2 c k hc hk), (show (∀ i j : Nat, i ≤ j → j < 20 → nI j < σ2.1 110 → σ2.2.2.1 9 i ≤ σ2.2.2.1 9 j) from t_mono hT2), (show (∀ j : Nat, j < 20 → nI j < σ2.1 110 → σ2.2.2.1 9 j ≤ σ2.1 111) from t_last hT2), (show inR (σ2.1 111) 0 999 from t_dayr hT2), (show (∀ l : Nat, l < 8 → inR (σ2.2.2.1 94 l) 0 64) from t_cellr hT2), (show (∀ i : Nat, i < 20 → inR (σ2.2.2.1 3 i) 0 4) from t_pubr hT2), (show (∀ c i : Nat, c < 20 → i < (σ2.2.2.1 11 c).toNatClampNeg → σ2.2.2.1 150 (8 * c + i) = byI (σ2.2.2.2.1 10 c) (nI i)) from t_capt hT2)⟩ h2
