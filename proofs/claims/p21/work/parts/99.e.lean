/-! culprit -/
/-! culprit: the data without one card -/
def wo (σ : Sg) (c : Nat) : Int32 := thI σ &&& (((1 : Int32) <<< (nI c &&& 31)) ^^^ -1)
theorem wo_tb {μ : Int32} {c : Nat} (hμ : inR μ 0 1048575) (hc : c < 20) (i : Nat) : tb (μ &&& (((1 : Int32) <<< (nI c &&& 31)) ^^^ -1)) i = (tb μ i && !decide (i = c)) := by
  rw [tb_and]
  by_cases h : i < 32
  · rw [tb_not h, tb_shl (by omega), decide_eq_true h, Bool.true_and]
  · rw [tb_20 hμ (by omega)]; rfl
theorem wo_in (σ : Sg) (c : Nat) : inR (wo σ c) 0 1048575 := inR_and (thI_in σ)
theorem wo_sub {σ : Sg} {c : Nat} {i : Nat} (h : tb (wo σ c) i = true) : tb (thI σ) i = true := by
  unfold wo at h
  rw [tb_and, Bool.and_eq_true] at h; exact h.1
theorem rc_cor {σ τ : Sg} (k : Cor σ τ) {x : Nat} (hx : x < 20) (y : Nat) : RC0 τ x y = RC0 σ x y := by
  show lkB (τ.1 1204) (τ.2.2.1 (14 + (Int32.toNatClampNeg (nI x))) (Int32.toNatClampNeg (nI y))) = lkB (σ.1 1204) (σ.2.2.1 (14 + (Int32.toNatClampNeg (nI x))) (Int32.toNatClampNeg (nI y)))
  rw [nI_clamp (show x < 2 ^ 31 by omega), k.1 1204 rfl, k.2.2.1 (14 + x) (scA_14 hx)]
theorem sym_rc {σ τ : Sg} {A : Nat → Bool} (hA : ∀ i, A i = true → i < 20) (h : Sym (RC0 σ) A) (k : Cor σ τ) : Sym (RC0 τ) A := fun x y hx hy hr => (rc_cor k (hA y hy) x).trans (h x y hx hy ((rc_cor k (hA x hx) y).symm.trans hr))
theorem sym_wo {σ τ : Sg} (h : Sym (RC0 σ) (tb (thI σ))) (k : Cor σ τ) (c : Nat) : Sym (RC0 τ) (tb (wo σ c)) := sym_rc (fun _ hi => lt_20 (wo_in σ c) hi) (sym_sub h (fun _ hi => wo_sub hi)) k
theorem dtC_cor {D : Dt} {μ : Int32} {p : Nat} {σ τ : Sg} (hb : inR μ 0 1048575) (hp : p = 119 ∨ p = 126 ∨ p = 133) (h : DtC D μ p σ) (k : Cor σ τ) : DtC D μ p τ := by
  obtain ⟨h1, h2, h3, h4, h5, h6, h7⟩ := h
  have hz : τ.1 (100 * p + 6) = σ.1 (100 * p + 6) := k.1 _ (by rcases hp with rfl | rfl | rfl <;> rfl)
  refine ⟨h1, fun c hc => ?_, fun c f hc hf => ?_, fun f hf => ?_, fun a b ha hb2 => ?_, fun c v hc => ?_, h7⟩
  · exact (h2 c hc).trans (lab_congr (fun _ => rfl) ((h1 c).symm.trans hc) (fun x y hx _ _ => (rc_cor k (lt_20 hb hx) y).symm))
  · have h20 := lt_20 hb ((h1 c).symm.trans hc)
    rw [k.2.2.1 (64 + c) (scA_64 h20)]; exact h3 c f hc hf
  · rw [k.2.2.1 59 rfl, k.2.2.1 60 rfl]; exact h4 f hf
  · rw [k.1 5809 rfl, k.2.2.1 84 rfl, k.2.2.1 85 rfl]; exact h5 a b ha hb2
  · rw [hz]
    exact ⟨(h6 c v hc).1.trans (isI_cor hp k v).symm, (h6 c v hc).2.trans (isJ_cor hp k v).symm⟩
theorem lkN_cor {σ τ : Sg} (k : Cor σ τ) (x y : Nat) : lkN τ x y = lkN σ x y := by
  unfold lkN lkD DVm
  rw [k.2.2.2.1 145, k.2.2.1 146 rfl, k.1 14012 rfl]
theorem tmn_c {σ τ : Sg} (k : Cor σ τ) : TMn τ = TMn σ := by
  unfold TMn
  rw [k.1 14000 rfl, k.1 14013 rfl, k.2.2.1 148 rfl]
theorem dtM_cor {D : Dt} {u b : Int32} {σ τ : Sg} (h : DtM D u b σ) (k : Cor σ τ) : DtM D u b τ := by
  obtain ⟨h1, h2, h3, h4, h5, h6, h7⟩ := h
  refine ⟨fun c => (h1 c).trans (by rw [tmn_c k]), fun c hc => (h2 c hc).trans (lab_congr (fun i => by rw [tmn_c k]) ((h1 c).symm.trans hc) (fun x y _ _ _ => (lkN_cor k x y).symm)), fun c f hc hf => ?_, fun f hf => ?_, fun a b ha hb => ?_, fun c v hc => ?_, h7⟩
  · rw [k.2.2.1 158 rfl]; exact h3 c f hc hf
  · rw [k.2.2.1 156 rfl, k.2.2.1 157 rfl]; exact h4 f hf
  · rw [k.1 14025 rfl, k.2.2.1 161 rfl, k.2.2.1 162 rfl]; exact h5 a b ha hb
  · rw [k.1 14047 rfl]
    exact ⟨(h6 c v hc).1.trans (im_cor k v).1.symm, (h6 c v hc).2.trans (im_cor k v).2.symm⟩
theorem wo_AM {σ σ2 : Sg} (hI : Inv σ) (hT : Tie σ) (k : Cor σ σ2) {c : Nat} (hc : c < 20) (i : Nat) : tb (wo σ c) i = (decide (i < TMn σ2) && !decide (nI i = nI c)) := by
  unfold wo
  rw [wo_tb (thI_in σ) hc, thI_AM hI hT k i]
  unfold AMp
  by_cases q : i < TMn σ2
  · have h20 : i < 20 := Nat.lt_of_lt_of_le q (tm_le _ _ _)
    rw [show decide (nI i = nI c) = decide (i = c) from by rw [decide_eq_decide]; exact nI_eq (by omega) (by omega)]
  · rw [decide_eq_false q]; rfl
/-- the reference's cells name the data of some of the cards that are there -/
theorem dtM_sub {σ σ2 : Sg} {μ u : Int32} (hI : Inv σ) (hT : Tie σ) (hD : ChD σ) (hR : DtR σ) (hLn : Ln σ) (k : Cor σ σ2) (hb : inR μ 0 1048575) (hs : ∀ i, tb μ i = true → tb (thI σ) i = true) (A : ∀ i, tb μ i = (decide (i < TMn σ2) && !decide (nI i = u))) : DtM (DC σ μ σ.2.2.2.2.1) u 1 σ2 := by
  have C := dtC_DC (p := σ.2.2.2.2.1) hI hb hR hLn.2.2.1
  refine ⟨A, fun c hc => ?_, fun c f hc hf => ?_, fun f hf => ?_, fun a b ha hb2 => ?_, fun c v hc => im_is hT hLn.2 k v, C.2.2.2.2.2.2⟩
  · exact lab_congr A hc (fun x y hx hy hne => lkC_N hI hT hD k (hs x hx) (hs y hy) hne)
  · have t := thI_t (hs c hc)
    have s := thC_s hI t.2
    rw [nI_clamp (by omega)] at s
    rw [k.2.2.1 158 rfl, t_shown hT c f t.1 s hf]
    exact ⟨Iff.rfl, Iff.rfl⟩
  · have q := C.2.2.2.1 f hf
    rw [k.2.2.1 156 rfl, k.2.2.1 157 rfl, t_ffr hT, t_fto hT]
    exact q
  · rw [k.1 14025 rfl, k.2.2.1 161 rfl, k.2.2.1 162 rfl, t_laters hT, t_late hT, t_earl hT]
    exact Iff.rfl
theorem dtM_wo {σ σ2 : Sg} (hI : Inv σ) (hT : Tie σ) (hD : ChD σ) (hR : DtR σ) (hLn : Ln σ) (k : Cor σ σ2) {c : Nat} (hc : c < 20) : DtM (DC σ (wo σ c) σ.2.2.2.2.1) (nI c) 1 σ2 := dtM_sub hI hT hD hR hLn k (wo_in σ c) (fun _ h => wo_sub h) (wo_AM hI hT k hc)
def CuA (D : Dt) (E : Nat → Dt) (T : Nat → Bool) (x : Int32) (B : Dt → Prop) : Prop := (x = -1 ∧ ∃ X, Good D X) ∨ (B D ∧ ((∃ c, c < 20 ∧ T c = true ∧ x = nI c ∧ (∃ X, Good (E c) X) ∧ ∀ i, i < c → T i = true → B (E i)) ∨ (x = -1 ∧ ∀ i, i < 20 → T i = true → B (E i))))
theorem cu_f {T : Nat → Bool} {B : Nat → Prop} {j : Nat} (h : ∀ i, i < j → T i = true → B i) (hj : T j = false) : ∀ i, i < j + 1 → T i = true → B i := fun i hi ht => by
  by_cases e : i = j
  · rw [e, hj] at ht; cases ht
  · exact h i (by omega) ht
theorem cu_t {T : Nat → Bool} {B : Nat → Prop} {j : Nat} (h : ∀ i, i < j → T i = true → B i) (hj : B j) : ∀ i, i < j + 1 → T i = true → B i := fun i hi ht => by
  by_cases e : i = j
  · rw [e]; exact hj
  · exact h i (by omega) ht
theorem cu_eq {D : Dt} {E : Nat → Dt} {T Q : Nat → Bool} {x y : Int32} (h : CuA D E T x BL) (k : CuA D E Q y Bad) (hT : ∀ i, T i = Q i) (h20 : ∀ c, dA D c = true → c < 20) (hE20 : ∀ i c, dA (E i) c = true → c < 20) : x = y := by
  rcases h with ⟨rfl, X, hX⟩ | ⟨hB, h⟩
  · rcases k with ⟨rfl, -⟩ | ⟨hB, -⟩
    · rfl
    · exact (good_bad hX hB).elim
  · rcases k with ⟨rfl, X, hX⟩ | ⟨-, k⟩
    · exact (bl_no h20 hX hB).elim
    · rcases h with ⟨c, hc, ht, rfl, ⟨X, hX⟩, hl⟩ | ⟨rfl, hl⟩
      · rcases k with ⟨d, hd, kt, rfl, ⟨Y, hY⟩, kl⟩ | ⟨-, kl⟩
        · rcases Nat.lt_trichotomy c d with q | q | q
          · exact (good_bad hX (kl c q ((hT c).symm.trans ht))).elim
          · rw [q]
          · exact (bl_no (hE20 d) hY (hl d q ((hT d).trans kt))).elim
        · exact (good_bad hX (kl c hc ((hT c).symm.trans ht))).elim
      · rcases k with ⟨d, hd, kt, rfl, ⟨Y, hY⟩, kl⟩ | ⟨rfl, -⟩
        · exact (bl_no (hE20 d) hY (hl d hd ((hT d).trans kt))).elim
        · rfl
