/-! methods on any state that keeps the invariant -/
theorem fln_bif {σ ρ τ : Sg} {K : Bool} (hE : FLn σ ρ) (h : Cor (bif K then ρ else σ) τ) : FLn σ τ := by
  cases K
  · exact fln_cor h
  · exact fln_t hE (fln_cor h)
theorem fln_bik {σ ρ τ : Sg} {K : Bool} (hE : FLn σ ρ) (h : CoK (bif K then ρ else σ) τ) : FLn σ τ := by
  cases K
  · exact fln_cok h
  · exact fln_t hE (fln_cok h)
theorem fdt_cok {σ τ : Sg} (h : CoK σ τ) : FDt σ τ := ⟨h.2.2.1 59 rfl, h.2.2.1 60 rfl, h.2.2.1 61 rfl, h.2.2.1 62 rfl, h.2.2.1 8 rfl⟩
theorem fdt_bif {σ ρ τ : Sg} {K : Bool} (hE : FDt σ ρ) (h : Cor (bif K then ρ else σ) τ) : FDt σ τ := by
  cases K
  · exact fdt_cor h
  · exact fdt_t hE (fdt_cor h)
theorem fdt_bik {σ ρ τ : Sg} {K : Bool} (hE : FDt σ ρ) (h : CoK (bif K then ρ else σ) τ) : FDt σ τ := by
  cases K
  · exact fdt_cok h
  · exact fdt_t hE (fdt_cok h)
theorem upd_inr {f : Nat → Int32} {i j : Nat} {v lo hi : Int32} (h : inR v lo hi) (k : inR (f j) lo hi) : inR (upd f i v j) lo hi := by
  unfold upd
  by_cases e : j = i
  · rw [if_pos e]; exact h
  · rw [if_neg e]; exact k
theorem inR_0 {a b : Int32} (ra : inR a 0 20000) (rb : inR b a 20000) : inR b 0 20000 := ⟨fun e => ra.1 (Int32.lt_of_le_of_lt (Int32.not_lt.mp rb.1) e), rb.2⟩
theorem cln_X8_card {σ σ2 : Sg} {a b n k : Int32} {p : Int64} {s t : Int32} (hI : Inv σ) (h : CoK (bif K_card a b n k s t (σ.1 110) then (E_X8_card σ a b n k p s t) else σ) σ2) : FLn σ σ2 := fln_bik (fln_i 110 _ (fln_a 9 _ (fln_a 8 _ (fln_a 7 _ (fln_b 6 _ (fln_a 5 _ (fln_a 4 _ (fln_a 3 _ (fln_a 2 _ (fln_0 σ) (by omega)) (by omega)) (by omega)) (by omega))) (by omega)) (by omega)) (by omega)) (by decide)) h
theorem cdt_X8_card {σ σ2 : Sg} {a b n k : Int32} {p : Int64} {s t : Int32} (hI : Inv σ) (hR : DtR σ) (h : CoK (bif K_card a b n k s t (σ.1 110) then (E_X8_card σ a b n k p s t) else σ) σ2) : DtR σ2 := by
  have e59 : (E_X8_card σ a b n k p s t).2.2.1 59 = σ.2.2.1 59 := rfl
  have e60 : (E_X8_card σ a b n k p s t).2.2.1 60 = σ.2.2.1 60 := rfl
  have e61 : (E_X8_card σ a b n k p s t).2.2.1 61 = σ.2.2.1 61 := rfl
  have e62 : (E_X8_card σ a b n k p s t).2.2.1 62 = σ.2.2.1 62 := rfl
  have e8 : (E_X8_card σ a b n k p s t).2.2.1 8 = (upd (σ.2.2.1 8) (Int32.toNatClampNeg (σ.1 110)) t) := rfl
  cases q : K_card a b n k s t (σ.1 110)
  · rw [q] at h; exact dtr_f hR (fdt_cok h)
  · rw [q] at h
    refine dtr_f (σ := (E_X8_card σ a b n k p s t)) ?_ (fdt_cok h)
    unfold K_card at q
    simp only [Bool.and_eq_true] at q
    have rt := inB_r q.2.1.2.2
    refine ⟨fun i hi => ?_, fun i hi => ?_, fun i hi => ?_⟩
    · rw [e59, e60]; exact hR.1 i hi
    · rw [e61, e62]; exact hR.2.1 i hi
    · rw [e8]; exact upd_inr rt (hR.2.2 i hi)
theorem cln_X8_caption {σ σ2 : Sg} {c : Int32} {p : Int64} {n : Int32} (hI : Inv σ) (h : CoK (bif K_cap (thC σ c) p n then (E_X8_caption σ c p n) else σ) σ2) : FLn σ σ2 := fln_bik (fln_a 11 _ (fln_b 10 _ (fln_0 σ)) (by omega)) h
theorem cdt_X8_caption {σ σ2 : Sg} {c : Int32} {p : Int64} {n : Int32} (hI : Inv σ) (hR : DtR σ) (h : CoK (bif K_cap (thC σ c) p n then (E_X8_caption σ c p n) else σ) σ2) : DtR σ2 := dtr_f hR (fdt_bik (fdt_a 11 _ (fdt_b 10 _ (fdt_0 σ)) (by omega)) h)
theorem cln_X8_days {σ σ2 : Sg} {a : Int32} (hI : Inv σ) (h : Cor (bif K_days (σ.1 111) a then (E_X8_days σ a) else σ) σ2) : FLn σ σ2 := fln_bif (fln_i 111 _ (fln_0 σ) (by decide)) h
theorem cdt_X8_days {σ σ2 : Sg} {a : Int32} (hI : Inv σ) (hR : DtR σ) (h : Cor (bif K_days (σ.1 111) a then (E_X8_days σ a) else σ) σ2) : DtR σ2 := dtr_f hR (fdt_bif (fdt_i 111 _ (fdt_0 σ)) h)
theorem cln_X8_feature {σ σ2 : Sg} {f a b : Int32} (hI : Inv σ) (h : Cor (bif K_feature f a b then (E_X8_feature σ f a b) else σ) σ2) : FLn σ σ2 := fln_bif (fln_a 60 _ (fln_a 59 _ (fln_0 σ) (by omega)) (by omega)) h
theorem cdt_X8_feature {σ σ2 : Sg} {f a b : Int32} (hI : Inv σ) (hR : DtR σ) (h : Cor (bif K_feature f a b then (E_X8_feature σ f a b) else σ) σ2) : DtR σ2 := by
  have e59 : (E_X8_feature σ f a b).2.2.1 59 = (upd (σ.2.2.1 59) (Int32.toNatClampNeg f) a) := rfl
  have e60 : (E_X8_feature σ f a b).2.2.1 60 = (upd (σ.2.2.1 60) (Int32.toNatClampNeg f) b) := rfl
  have e61 : (E_X8_feature σ f a b).2.2.1 61 = σ.2.2.1 61 := rfl
  have e62 : (E_X8_feature σ f a b).2.2.1 62 = σ.2.2.1 62 := rfl
  have e8 : (E_X8_feature σ f a b).2.2.1 8 = σ.2.2.1 8 := rfl
  cases q : K_feature f a b
  · rw [q] at h; exact dtr_f hR (fdt_cor h)
  · rw [q] at h
    refine dtr_f (σ := (E_X8_feature σ f a b)) ?_ (fdt_cor h)
    unfold K_feature at q
    simp only [Bool.and_eq_true] at q
    have ra := inB_r q.2.1
    have rb := inR_0 ra (inB_r q.2.2)
    refine ⟨fun i hi => ?_, fun i hi => ?_, fun i hi => ?_⟩
    · rw [e59, e60]; exact ⟨upd_inr ra (hR.1 i hi).1, upd_inr rb (hR.1 i hi).2⟩
    · rw [e61, e62]; exact hR.2.1 i hi
    · rw [e8]; exact hR.2.2 i hi
theorem cln_X8_back {σ σ2 : Sg} {f a b : Int32} (hI : Inv σ) (h : Cor (bif K_back f a b then (E_X8_back σ f a b) else σ) σ2) : FLn σ σ2 := fln_bif (fln_a 62 _ (fln_a 61 _ (fln_0 σ) (by omega)) (by omega)) h
theorem cdt_X8_back {σ σ2 : Sg} {f a b : Int32} (hI : Inv σ) (hR : DtR σ) (h : Cor (bif K_back f a b then (E_X8_back σ f a b) else σ) σ2) : DtR σ2 := by
  have e59 : (E_X8_back σ f a b).2.2.1 59 = σ.2.2.1 59 := rfl
  have e60 : (E_X8_back σ f a b).2.2.1 60 = σ.2.2.1 60 := rfl
  have e61 : (E_X8_back σ f a b).2.2.1 61 = (upd (σ.2.2.1 61) (Int32.toNatClampNeg f) a) := rfl
  have e62 : (E_X8_back σ f a b).2.2.1 62 = (upd (σ.2.2.1 62) (Int32.toNatClampNeg f) b) := rfl
  have e8 : (E_X8_back σ f a b).2.2.1 8 = σ.2.2.1 8 := rfl
  cases q : K_back f a b
  · rw [q] at h; exact dtr_f hR (fdt_cor h)
  · rw [q] at h
    refine dtr_f (σ := (E_X8_back σ f a b)) ?_ (fdt_cor h)
    unfold K_back at q
    simp only [Bool.and_eq_true] at q
    have ra := inB_r q.2.1
    have rb := inR_0 ra (inB_r q.2.2)
    refine ⟨fun i hi => ?_, fun i hi => ?_, fun i hi => ?_⟩
    · rw [e59, e60]; exact hR.1 i hi
    · rw [e61, e62]; exact ⟨upd_inr ra (hR.2.1 i hi).1, upd_inr rb (hR.2.1 i hi).2⟩
    · rw [e8]; exact hR.2.2 i hi
theorem cln_X8_landmark {σ σ2 : Sg} {a b : Int32} (hI : Inv σ) (h : Cor (bif K_landmark a b then (E_X8_landmark σ a b) else σ) σ2) : FLn σ σ2 := fln_bif (fln_a 94 _ (fln_0 σ) (by omega)) h
theorem cdt_X8_landmark {σ σ2 : Sg} {a b : Int32} (hI : Inv σ) (hR : DtR σ) (h : Cor (bif K_landmark a b then (E_X8_landmark σ a b) else σ) σ2) : DtR σ2 := dtr_f hR (fdt_bif (fdt_a 94 _ (fdt_0 σ) (by omega)) h)
theorem cln_X8_walls {σ σ2 : Sg} {a : Int64} (hI : Inv σ) (h : Cor (E_X8_walls σ a) σ2) : FLn σ σ2 := fln_t (fln_j 9301 _ (fln_0 σ)) (fln_cor h)
theorem cdt_X8_walls {σ σ2 : Sg} {a : Int64} (hI : Inv σ) (hR : DtR σ) (h : Cor (E_X8_walls σ a) σ2) : DtR σ2 := dtr_f hR (fdt_t (fdt_j 9301 _ (fdt_0 σ)) (fdt_cor h))
theorem cln_X8_shows {σ σ2 : Sg} {c f v : Int32} (hI : Inv σ) (h : Cor (bif K_shows (thC σ c) f v then (E_X8_shows σ c f v) else σ) σ2) : FLn σ σ2 := by
  by_cases t : thC σ c = true
  · have r := clamp19 (thC_r hI t)
    exact fln_bif (fln_a (64 + (Int32.toNatClampNeg c)) _ (fln_0 σ) (by omega)) h
  · have e : (K_shows (thC σ c) f v) = false := by
      unfold K_shows
      rw [Bool.eq_false_iff.mpr t]
      simp
    rw [e] at h
    exact fln_cor h
theorem cdt_X8_shows {σ σ2 : Sg} {c f v : Int32} (hI : Inv σ) (hR : DtR σ) (h : Cor (bif K_shows (thC σ c) f v then (E_X8_shows σ c f v) else σ) σ2) : DtR σ2 := dtr_f hR (fdt_bif (fdt_a (64 + (Int32.toNatClampNeg c)) _ (fdt_0 σ) (by omega)) h)
theorem cln_X8_later {σ σ2 : Sg} {a b : Int32} (hI : Inv σ) (h : Cor (bif K_later (ttC σ a b) (σ.1 5809) then (E_X8_later σ a b) else σ) σ2) : FLn σ σ2 := fln_bif (fln_i 5809 _ (fln_a 85 _ (fln_a 84 _ (fln_0 σ) (by omega)) (by omega)) (by decide)) h
theorem cdt_X8_later {σ σ2 : Sg} {a b : Int32} (hI : Inv σ) (hR : DtR σ) (h : Cor (bif K_later (ttC σ a b) (σ.1 5809) then (E_X8_later σ a b) else σ) σ2) : DtR σ2 := dtr_f hR (fdt_bif (fdt_i 5809 _ (fdt_a 85 _ (fdt_a 84 _ (fdt_0 σ) (by omega)) (by omega))) h)
theorem cln_X8_unview {σ σ2 : Sg} {c : Int32} (hI : Inv σ) (h : Cor (bif thC σ c then (E_X8_unview σ c) else σ) σ2) : FLn σ σ2 := fln_bif (fln_a 116 _ (fln_0 σ) (by omega)) h
theorem cdt_X8_unview {σ σ2 : Sg} {c : Int32} (hI : Inv σ) (hR : DtR σ) (h : Cor (bif thC σ c then (E_X8_unview σ c) else σ) σ2) : DtR σ2 := dtr_f hR (fdt_bif (fdt_a 116 _ (fdt_0 σ) (by omega)) h)
theorem cln_X8_view {σ σ2 : Sg} {c l9 : Int32} (hI : Inv σ) (h : Cor (bif K_view (thC σ c) (inV (fun k => σ.2.2.1 (96 + (Int32.toNatClampNeg c)) (Int32.toNatClampNeg (nI k))) l9 (Int32.toNatClampNeg (σ.2.2.1 116 (Int32.toNatClampNeg c)))) l9 (σ.2.2.1 116 (Int32.toNatClampNeg c)) then (E_X8_view σ c l9) else σ) σ2) : FLn σ σ2 := by
  by_cases t : thC σ c = true
  · have r := clamp19 (thC_r hI t)
    exact fln_bif (fln_a 116 _ (fln_a (96 + (Int32.toNatClampNeg c)) _ (fln_0 σ) (by omega)) (by omega)) h
  · have e : (K_view (thC σ c) (inV (fun k => σ.2.2.1 (96 + (Int32.toNatClampNeg c)) (Int32.toNatClampNeg (nI k))) l9 (Int32.toNatClampNeg (σ.2.2.1 116 (Int32.toNatClampNeg c)))) l9 (σ.2.2.1 116 (Int32.toNatClampNeg c))) = false := by
      unfold K_view
      rw [Bool.eq_false_iff.mpr t]
      simp
    rw [e] at h
    exact fln_cor h
theorem cdt_X8_view {σ σ2 : Sg} {c l9 : Int32} (hI : Inv σ) (hR : DtR σ) (h : Cor (bif K_view (thC σ c) (inV (fun k => σ.2.2.1 (96 + (Int32.toNatClampNeg c)) (Int32.toNatClampNeg (nI k))) l9 (Int32.toNatClampNeg (σ.2.2.1 116 (Int32.toNatClampNeg c)))) l9 (σ.2.2.1 116 (Int32.toNatClampNeg c)) then (E_X8_view σ c l9) else σ) σ2) : DtR σ2 := dtr_f hR (fdt_bif (fdt_a 116 _ (fdt_a (96 + (Int32.toNatClampNeg c)) _ (fdt_0 σ) (by omega)) (by omega)) h)
theorem cln_X8_write {σ σ2 : Sg} {p : Int64} {n : Int32} (hI : Inv σ) (h : Cor (bif K_write n (σ.1 11701) then (E_X8_write σ p n) else σ) σ2) : FLn σ σ2 := fln_bif (fln_i 11701 _ (fln_a 118 _ (fln_0 σ) (by omega)) (by decide)) h
theorem cdt_X8_write {σ σ2 : Sg} {p : Int64} {n : Int32} (hI : Inv σ) (hR : DtR σ) (h : Cor (bif K_write n (σ.1 11701) then (E_X8_write σ p n) else σ) σ2) : DtR σ2 := dtr_f hR (fdt_bif (fdt_i 11701 _ (fdt_a 118 _ (fdt_0 σ) (by omega))) h)
theorem cln_X8_erase {σ σ2 : Sg}  (hI : Inv σ) (h : Cor (E_X8_erase σ) σ2) : FLn σ σ2 := fln_t (fln_i 11701 _ (fln_0 σ) (by decide)) (fln_cor h)
theorem cdt_X8_erase {σ σ2 : Sg}  (hI : Inv σ) (hR : DtR σ) (h : Cor (E_X8_erase σ) σ2) : DtR σ2 := dtr_f hR (fdt_t (fdt_i 11701 _ (fdt_0 σ)) (fdt_cor h))
theorem cln_X9_card {σ σ2 : Sg} {a b n k : Int32} {p : Int64} {s t : Int32} (hI : Inv σ) (h : Cor (bif K_card a b n k s t (σ.1 14000) then (E_X9_card σ a b n k p s t) else σ) σ2) : FLn σ σ2 := fln_bif (fln_i 14000 _ (fln_a 158 _ (fln_a 148 _ (fln_a 147 _ (fln_a 146 _ (fln_b 145 _ (fln_a 144 _ (fln_a 143 _ (fln_a 142 _ (fln_a 141 _ (fln_0 σ) (by omega)) (by omega)) (by omega)) (by omega))) (by omega)) (by omega)) (by omega)) (by omega)) (by decide)) h
theorem cdt_X9_card {σ σ2 : Sg} {a b n k : Int32} {p : Int64} {s t : Int32} (hI : Inv σ) (hR : DtR σ) (h : Cor (bif K_card a b n k s t (σ.1 14000) then (E_X9_card σ a b n k p s t) else σ) σ2) : DtR σ2 := dtr_f hR (fdt_bif (fdt_i 14000 _ (fdt_a 158 _ (fdt_a 148 _ (fdt_a 147 _ (fdt_a 146 _ (fdt_b 145 _ (fdt_a 144 _ (fdt_a 143 _ (fdt_a 142 _ (fdt_a 141 _ (fdt_0 σ) (by omega)) (by omega)) (by omega)) (by omega))) (by omega)) (by omega)) (by omega)) (by omega))) h)
theorem cln_X9_caption {σ σ2 : Sg} {c : Int32} {p : Int64} {n : Int32} (hI : Inv σ) (h : Cor (bif K_cap (thM σ c) p n then (E_X9_caption σ c p n) else σ) σ2) : FLn σ σ2 := fln_bif (fln_a 149 _ (fln_a 150 _ (fln_0 σ) (by omega)) (by omega)) h
theorem cdt_X9_caption {σ σ2 : Sg} {c : Int32} {p : Int64} {n : Int32} (hI : Inv σ) (hR : DtR σ) (h : Cor (bif K_cap (thM σ c) p n then (E_X9_caption σ c p n) else σ) σ2) : DtR σ2 := dtr_f hR (fdt_bif (fdt_a 149 _ (fdt_a 150 _ (fdt_0 σ) (by omega)) (by omega)) h)
theorem cln_X9_days {σ σ2 : Sg} {a : Int32} (hI : Inv σ) (h : Cor (bif K_days (σ.1 14011) a then (E_X9_days σ a) else σ) σ2) : FLn σ σ2 := fln_bif (fln_i 14011 _ (fln_0 σ) (by decide)) h
theorem cdt_X9_days {σ σ2 : Sg} {a : Int32} (hI : Inv σ) (hR : DtR σ) (h : Cor (bif K_days (σ.1 14011) a then (E_X9_days σ a) else σ) σ2) : DtR σ2 := dtr_f hR (fdt_bif (fdt_i 14011 _ (fdt_0 σ)) h)
theorem cln_X9_feature {σ σ2 : Sg} {f a b : Int32} (hI : Inv σ) (h : Cor (bif K_feature f a b then (E_X9_feature σ f a b) else σ) σ2) : FLn σ σ2 := fln_bif (fln_a 157 _ (fln_a 156 _ (fln_0 σ) (by omega)) (by omega)) h
theorem cdt_X9_feature {σ σ2 : Sg} {f a b : Int32} (hI : Inv σ) (hR : DtR σ) (h : Cor (bif K_feature f a b then (E_X9_feature σ f a b) else σ) σ2) : DtR σ2 := dtr_f hR (fdt_bif (fdt_a 157 _ (fdt_a 156 _ (fdt_0 σ) (by omega)) (by omega)) h)
theorem cln_X9_back {σ σ2 : Sg} {f a b : Int32} (hI : Inv σ) (h : Cor (bif K_back f a b then (E_X9_back σ f a b) else σ) σ2) : FLn σ σ2 := fln_bif (fln_a 160 _ (fln_a 159 _ (fln_0 σ) (by omega)) (by omega)) h
theorem cdt_X9_back {σ σ2 : Sg} {f a b : Int32} (hI : Inv σ) (hR : DtR σ) (h : Cor (bif K_back f a b then (E_X9_back σ f a b) else σ) σ2) : DtR σ2 := dtr_f hR (fdt_bif (fdt_a 160 _ (fdt_a 159 _ (fdt_0 σ) (by omega)) (by omega)) h)
theorem cln_X9_landmark {σ σ2 : Sg} {a b : Int32} (hI : Inv σ) (h : Cor (bif K_landmark a b then (E_X9_landmark σ a b) else σ) σ2) : FLn σ σ2 := fln_bif (fln_a 167 _ (fln_0 σ) (by omega)) h
theorem cdt_X9_landmark {σ σ2 : Sg} {a b : Int32} (hI : Inv σ) (hR : DtR σ) (h : Cor (bif K_landmark a b then (E_X9_landmark σ a b) else σ) σ2) : DtR σ2 := dtr_f hR (fdt_bif (fdt_a 167 _ (fdt_0 σ) (by omega)) h)
theorem cln_X9_walls {σ σ2 : Sg} {a : Int64} (hI : Inv σ) (h : Cor (E_X9_walls σ a) σ2) : FLn σ σ2 := fln_t (fln_j 14034 _ (fln_0 σ)) (fln_cor h)
theorem cdt_X9_walls {σ σ2 : Sg} {a : Int64} (hI : Inv σ) (hR : DtR σ) (h : Cor (E_X9_walls σ a) σ2) : DtR σ2 := dtr_f hR (fdt_t (fdt_j 14034 _ (fdt_0 σ)) (fdt_cor h))
theorem cln_X9_shows {σ σ2 : Sg} {c f v : Int32} (hI : Inv σ) (h : Cor (bif K_shows (thM σ c) f v then (E_X9_shows σ c f v) else σ) σ2) : FLn σ σ2 := fln_bif (fln_a 158 _ (fln_0 σ) (by omega)) h
theorem cdt_X9_shows {σ σ2 : Sg} {c f v : Int32} (hI : Inv σ) (hR : DtR σ) (h : Cor (bif K_shows (thM σ c) f v then (E_X9_shows σ c f v) else σ) σ2) : DtR σ2 := dtr_f hR (fdt_bif (fdt_a 158 _ (fdt_0 σ) (by omega)) h)
theorem cln_X9_later {σ σ2 : Sg} {a b : Int32} (hI : Inv σ) (h : Cor (bif K_later (ttM σ a b) (σ.1 14025) then (E_X9_later σ a b) else σ) σ2) : FLn σ σ2 := fln_bif (fln_i 14025 _ (fln_a 162 _ (fln_a 161 _ (fln_0 σ) (by omega)) (by omega)) (by decide)) h
theorem cdt_X9_later {σ σ2 : Sg} {a b : Int32} (hI : Inv σ) (hR : DtR σ) (h : Cor (bif K_later (ttM σ a b) (σ.1 14025) then (E_X9_later σ a b) else σ) σ2) : DtR σ2 := dtr_f hR (fdt_bif (fdt_i 14025 _ (fdt_a 162 _ (fdt_a 161 _ (fdt_0 σ) (by omega)) (by omega))) h)
theorem cln_X9_unview {σ σ2 : Sg} {c : Int32} (hI : Inv σ) (h : Cor (bif thM σ c then (E_X9_unview σ c) else σ) σ2) : FLn σ σ2 := fln_bif (fln_a 168 _ (fln_0 σ) (by omega)) h
theorem cdt_X9_unview {σ σ2 : Sg} {c : Int32} (hI : Inv σ) (hR : DtR σ) (h : Cor (bif thM σ c then (E_X9_unview σ c) else σ) σ2) : DtR σ2 := dtr_f hR (fdt_bif (fdt_a 168 _ (fdt_0 σ) (by omega)) h)
theorem cln_X9_view {σ σ2 : Sg} {c l9 : Int32} (hI : Inv σ) (h : Cor (bif K_view (thM σ c) (inV (fun k => σ.2.2.1 169 (Int32.toNatClampNeg ((5 * c) + (nI k)))) l9 (Int32.toNatClampNeg (σ.2.2.1 168 (Int32.toNatClampNeg c)))) l9 (σ.2.2.1 168 (Int32.toNatClampNeg c)) then (E_X9_view σ c l9) else σ) σ2) : FLn σ σ2 := fln_bif (fln_a 168 _ (fln_a 169 _ (fln_0 σ) (by omega)) (by omega)) h
theorem cdt_X9_view {σ σ2 : Sg} {c l9 : Int32} (hI : Inv σ) (hR : DtR σ) (h : Cor (bif K_view (thM σ c) (inV (fun k => σ.2.2.1 169 (Int32.toNatClampNeg ((5 * c) + (nI k)))) l9 (Int32.toNatClampNeg (σ.2.2.1 168 (Int32.toNatClampNeg c)))) l9 (σ.2.2.1 168 (Int32.toNatClampNeg c)) then (E_X9_view σ c l9) else σ) σ2) : DtR σ2 := dtr_f hR (fdt_bif (fdt_a 168 _ (fdt_a 169 _ (fdt_0 σ) (by omega)) (by omega)) h)
theorem cln_X9_write {σ σ2 : Sg} {p : Int64} {n : Int32} (hI : Inv σ) (h : Cor (bif K_write n (σ.1 14037) then (E_X9_write σ p n) else σ) σ2) : FLn σ σ2 := fln_bif (fln_i 14037 _ (fln_a 170 _ (fln_0 σ) (by omega)) (by decide)) h
theorem cdt_X9_write {σ σ2 : Sg} {p : Int64} {n : Int32} (hI : Inv σ) (hR : DtR σ) (h : Cor (bif K_write n (σ.1 14037) then (E_X9_write σ p n) else σ) σ2) : DtR σ2 := dtr_f hR (fdt_bif (fdt_i 14037 _ (fdt_a 170 _ (fdt_0 σ) (by omega))) h)
theorem cln_X9_erase {σ σ2 : Sg}  (hI : Inv σ) (h : Cor (E_X9_erase σ) σ2) : FLn σ σ2 := fln_t (fln_i 14037 _ (fln_0 σ) (by decide)) (fln_cor h)
theorem cdt_X9_erase {σ σ2 : Sg}  (hI : Inv σ) (hR : DtR σ) (h : Cor (E_X9_erase σ) σ2) : DtR σ2 := dtr_f hR (fdt_t (fdt_i 14037 _ (fdt_0 σ)) (fdt_cor h))
theorem fln_E_X8_set (σ : Sg) (a v : Int32) : FLn σ (E_X8_set σ a v) := by
  have b2 : ∀ {ρ : Sg} {K : Bool}, FLn σ ρ → FLn σ (bif K then ρ else σ) := by
    intro ρ K h
    cases K
    · exact fln_0 σ
    · exact h
  unfold E_X8_set
  by_cases h0 : a = 0
  · rw [if_pos h0]; exact b2 (fln_i 1204 _ (fln_0 σ) (by decide))
  · rw [if_neg h0]
    by_cases h1 : a = 1
    · rw [if_pos h1]; exact b2 (fln_i 112 _ (fln_0 σ) (by decide))
    · rw [if_neg h1]
      by_cases h2 : a = 2
      · rw [if_pos h2]; exact b2 (fln_i 9 _ (fln_0 σ) (by decide))
      · rw [if_neg h2]; exact fln_0 σ
theorem fdt_E_X8_set (σ : Sg) (a v : Int32) : FDt σ (E_X8_set σ a v) := by
  have b2 : ∀ {ρ : Sg} {K : Bool}, FDt σ ρ → FDt σ (bif K then ρ else σ) := by
    intro ρ K h
    cases K
    · exact fdt_0 σ
    · exact h
  unfold E_X8_set
  by_cases h0 : a = 0
  · rw [if_pos h0]; exact b2 (fdt_i 1204 _ (fdt_0 σ))
  · rw [if_neg h0]
    by_cases h1 : a = 1
    · rw [if_pos h1]; exact b2 (fdt_i 112 _ (fdt_0 σ))
    · rw [if_neg h1]
      by_cases h2 : a = 2
      · rw [if_pos h2]; exact b2 (fdt_i 9 _ (fdt_0 σ))
      · rw [if_neg h2]; exact fdt_0 σ
theorem cln_X8_set {σ σ2 : Sg} {a v : Int32} (hI : Inv σ) (h : Cor (E_X8_set σ a v) σ2) : FLn σ σ2 := fln_t (fln_E_X8_set σ a v) (fln_cor h)
theorem cdt_X8_set {σ σ2 : Sg} {a v : Int32} (hI : Inv σ) (hR : DtR σ) (h : Cor (E_X8_set σ a v) σ2) : DtR σ2 := dtr_f hR (fdt_t (fdt_E_X8_set σ a v) (fdt_cor h))
theorem fln_E_X9_set (σ : Sg) (a v : Int32) : FLn σ (E_X9_set σ a v) := by
  have b2 : ∀ {ρ : Sg} {K : Bool}, FLn σ ρ → FLn σ (bif K then ρ else σ) := by
    intro ρ K h
    cases K
    · exact fln_0 σ
    · exact h
  unfold E_X9_set
  by_cases h0 : a = 0
  · rw [if_pos h0]; exact b2 (fln_i 14014 _ (fln_i 14013 _ (fln_i 14012 _ (fln_0 σ) (by decide)) (by decide)) (by decide))
  · rw [if_neg h0]
    by_cases h1 : a = 1
    · rw [if_pos h1]; exact b2 (fln_i 14014 _ (fln_i 14013 _ (fln_i 14012 _ (fln_0 σ) (by decide)) (by decide)) (by decide))
    · rw [if_neg h1]
      by_cases h2 : a = 2
      · rw [if_pos h2]; exact b2 (fln_i 14014 _ (fln_i 14013 _ (fln_i 14012 _ (fln_0 σ) (by decide)) (by decide)) (by decide))
      · rw [if_neg h2]; exact fln_0 σ
theorem fdt_E_X9_set (σ : Sg) (a v : Int32) : FDt σ (E_X9_set σ a v) := by
  have b2 : ∀ {ρ : Sg} {K : Bool}, FDt σ ρ → FDt σ (bif K then ρ else σ) := by
    intro ρ K h
    cases K
    · exact fdt_0 σ
    · exact h
  unfold E_X9_set
  by_cases h0 : a = 0
  · rw [if_pos h0]; exact b2 (fdt_i 14014 _ (fdt_i 14013 _ (fdt_i 14012 _ (fdt_0 σ))))
  · rw [if_neg h0]
    by_cases h1 : a = 1
    · rw [if_pos h1]; exact b2 (fdt_i 14014 _ (fdt_i 14013 _ (fdt_i 14012 _ (fdt_0 σ))))
    · rw [if_neg h1]
      by_cases h2 : a = 2
      · rw [if_pos h2]; exact b2 (fdt_i 14014 _ (fdt_i 14013 _ (fdt_i 14012 _ (fdt_0 σ))))
      · rw [if_neg h2]; exact fdt_0 σ
theorem cln_X9_set {σ σ2 : Sg} {a v : Int32} (hI : Inv σ) (h : Cor (E_X9_set σ a v) σ2) : FLn σ σ2 := fln_t (fln_E_X9_set σ a v) (fln_cor h)
theorem cdt_X9_set {σ σ2 : Sg} {a v : Int32} (hI : Inv σ) (hR : DtR σ) (h : Cor (E_X9_set σ a v) σ2) : DtR σ2 := dtr_f hR (fdt_t (fdt_E_X9_set σ a v) (fdt_cor h))
theorem cat_w8 {σ σ2 : Sg} (h : (¬ rdR (σ.2.2.1 118) (Int32.toNatClampNeg (σ.1 11701)) = -1 ∧ CoD σ σ2 ∨ rdR (σ.2.2.1 118) (Int32.toNatClampNeg (σ.1 11701)) = -1 ∧ (σ.2.2.2.2.2 = 126 ∧ CoL (uN σ 126 133) σ2 ∧ σ2.1 12606 = (rdZ (σ.2.2.1 118) (Int32.toNatClampNeg (σ.1 11701))) ∧ CL 126 (σ.2.2.1 118) (Int32.toNatClampNeg (σ.1 11701)) σ2 (Int32.toNatClampNeg (rdZ (σ.2.2.1 118) (Int32.toNatClampNeg (σ.1 11701)))) ∨ σ.2.2.2.2.2 = 133 ∧ CoM (uN σ 133 126) σ2 ∧ σ2.1 13306 = (rdZ (σ.2.2.1 118) (Int32.toNatClampNeg (σ.1 11701))) ∧ CL 133 (σ.2.2.1 118) (Int32.toNatClampNeg (σ.1 11701)) σ2 (Int32.toNatClampNeg (rdZ (σ.2.2.1 118) (Int32.toNatClampNeg (σ.1 11701))))))) : ∃ a b, (CoL (uN σ a b) σ2 ∨ CoM (uN σ a b) σ2) := by
  rcases h with ⟨-, h⟩ | ⟨-, ⟨-, h, -⟩ | ⟨-, h, -⟩⟩
  · exact ⟨σ.2.2.2.2.1, σ.2.2.2.2.2, h.elim (fun q => Or.inl q.2) (fun q => Or.inr q.2)⟩
  · exact ⟨126, 133, Or.inl h⟩
  · exact ⟨133, 126, Or.inr h⟩
theorem cdt_cat8 {σ σ2 : Sg} (hR : DtR σ) (h : ∃ a b, (CoL (uN σ a b) σ2 ∨ CoM (uN σ a b) σ2)) : DtR σ2 := by
  obtain ⟨a, b, h⟩ := h
  exact dtr_f hR (fdt_t (fdt_n a b (fdt_0 σ)) (fdt_cow (h.elim col_w com_w)))
theorem cdt_cat9 {σ σ2 : Sg} (hR : DtR σ) (h : Cor σ σ2 ∨ ∃ f n, Cor (uI (uA σ 172 f) 14047 n) σ2) : DtR σ2 := by
  rcases h with h | ⟨f, n, h⟩
  · exact dtr_f hR (fdt_cor h)
  · exact dtr_f hR (fdt_t (fdt_i 14047 n (fdt_a 172 f (fdt_0 σ) (by omega))) (fdt_cor h))
/-- the lines of a catalogue that both have read -/
theorem st_ln {σ σ2 σ3 : Sg} (hI : Inv σ) (hT : Tie σ) (hL : Ln σ) (h1 : (¬ rdR (σ.2.2.1 118) (Int32.toNatClampNeg (σ.1 11701)) = -1 ∧ CoD σ σ2 ∨ rdR (σ.2.2.1 118) (Int32.toNatClampNeg (σ.1 11701)) = -1 ∧ (σ.2.2.2.2.2 = 126 ∧ CoL (uN σ 126 133) σ2 ∧ σ2.1 12606 = (rdZ (σ.2.2.1 118) (Int32.toNatClampNeg (σ.1 11701))) ∧ CL 126 (σ.2.2.1 118) (Int32.toNatClampNeg (σ.1 11701)) σ2 (Int32.toNatClampNeg (rdZ (σ.2.2.1 118) (Int32.toNatClampNeg (σ.1 11701)))) ∨ σ.2.2.2.2.2 = 133 ∧ CoM (uN σ 133 126) σ2 ∧ σ2.1 13306 = (rdZ (σ.2.2.1 118) (Int32.toNatClampNeg (σ.1 11701))) ∧ CL 133 (σ.2.2.1 118) (Int32.toNatClampNeg (σ.1 11701)) σ2 (Int32.toNatClampNeg (rdZ (σ.2.2.1 118) (Int32.toNatClampNeg (σ.1 11701))))))) (h2 : (¬ rdR (σ2.2.2.1 170) (Int32.toNatClampNeg (σ2.1 14037)) = -1 ∧ Cor σ2 σ3 ∨ rdR (σ2.2.2.1 170) (Int32.toNatClampNeg (σ2.1 14037)) = -1 ∧ ∃ g, RC g (σ2.2.2.1 170) (Int32.toNatClampNeg (σ2.1 14037)) ∧ Cor (uI (uA σ2 172 g) 14047 (rdZ (σ2.2.2.1 170) (Int32.toNatClampNeg (σ2.1 14037)))) σ3)) : Ln σ3 := by
  obtain ⟨a, b, w⟩ := cat_w8 h1
  have w : CoW (uN σ a b) σ2 := w.elim col_w com_w
  rw [show σ2.2.2.1 170 = σ.2.2.1 118 from (w.2.2.1 170 rfl).trans (t_text hT), show σ2.1 14037 = σ.1 11701 from (w.1 14037 rfl).trans (t_bytes hT)] at h2
  rcases h1 with ⟨q, h1⟩ | ⟨q, h1⟩
  · rcases h2 with ⟨-, h2⟩ | ⟨q2, -⟩
    · exact ln_f (ln_cod hI hL h1) (fln_cor h2)
    · exact absurd q2 q
  · rcases h2 with ⟨q2, -⟩ | ⟨-, g, hR, h2⟩
    · exact absurd q q2
    · rcases h1 with ⟨-, h1, hz, hC⟩ | ⟨-, h1, hz, hC⟩
      · exact ln_new (p := 126) (Or.inl rfl) (congrArg Prod.fst h1.2.2.2.2) hz hC hR h2
      · exact ln_new (p := 133) (Or.inr rfl) (congrArg Prod.fst h1.2.2.2.2) hz hC hR h2
