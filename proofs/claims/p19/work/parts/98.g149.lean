/-! methods on any state that keeps the invariant -/
/-! the reference's settling -/
def DtM (D : Dt) (u b : Int32) (σ : Sg) : Prop := (∀ c, dA D c = (decide (c < TMn σ) && !decide (nI c = u))) ∧ (∀ c, dA D c = true → dg D c = lab (lkN σ) (fun i => decide (i < TMn σ) && !decide (nI i = u)) c) ∧ (∀ c f, dA D c = true → f < 8 → (dS D c f ↔ σ.2.2.1 158 (8 * c + f) = 1) ∧ (dH D c f ↔ σ.2.2.1 158 (8 * c + f) = 0)) ∧ (∀ f, f < 8 → (σ.2.2.1 156 f).toInt = dff D f ∧ (σ.2.2.1 157 f).toInt = dft D f ∧ 0 ≤ dff D f ∧ dff D f ≤ 20000 ∧ 0 ≤ dft D f ∧ dft D f ≤ 20000) ∧ (∀ a b, dA D a = true → dA D b = true → (dL D a b ↔ ∃ k, k < (σ.1 14025).toNatClampNeg ∧ σ.2.2.1 161 k = nI a ∧ σ.2.2.1 162 k = nI b)) ∧ (∀ c v, dA D c = true → (dI D c v ↔ ImI b σ c (σ.1 14047).toNatClampNeg v) ∧ (dJ D c v ↔ ImJ b σ c (σ.1 14047).toNatClampNeg v)) ∧ (∀ c v, dA D c = true → (dI D c v → 0 ≤ v ∧ v ≤ 20000) ∧ (dJ D c v → 0 ≤ v ∧ v ≤ 20000))
theorem lab_lk9u {σ τ : Sg} {u : Int32} (hI : Inv σ) (h : Cor σ τ) (hu : UT (DVm σ) (τ.2.2.1 151) (Int32.toNatClampNeg (σ.1 14000))) {c : Nat} (hc : (decide (c < TMn σ) && !decide (nI c = u)) = true) : lab (fun a b => lkM τ (nI a) (nI b)) (fun i => decide (i < TMn τ) && !decide (nI i = u)) c = lab (lkN σ) (fun i => decide (i < TMn σ) && !decide (nI i = u)) c := by
  have e : ∀ i, (decide (i < TMn τ) && !decide (nI i = u)) = (decide (i < TMn σ) && !decide (nI i = u)) := by
    intro i
    unfold TMn
    rw [h.1 14000 rfl, h.1 14013 rfl, h.2.2.1 148 rfl]
  refine lab_congr e ((e c).trans hc) (fun x y hx hy hne => ?_)
  exact lk9_D hI h hu (AMu_lt hx).1 (AMu_lt hy).1 hne
theorem dtm_lk {D : Dt} {u b : Int32} {σ τ : Sg} (h : DtM D u b σ) (k : Cor σ τ) (hl : ∀ c, dA D c = true → τ.2.2.1 152 c = nI (dg D c)) : LkM D u b τ := by
  obtain ⟨h1, h2, h3, h4, h5, h6, h7⟩ := h
  refine ⟨fun c => ?_, fun c hc => ?_, fun c f hc hf => ?_, fun f hf => ?_, fun a b ha hb => ?_, fun c v hc => ?_, h7⟩
  · unfold TMn
    rw [k.1 14000 rfl, k.1 14013 rfl, k.2.2.1 148 rfl]; exact h1 c
  · have q := AMu_lt ((h1 c).symm.trans hc)
    have r := (lab_p (R := lkN σ) (A := fun i => decide (i < TMn σ) && !decide (nI i = u)) q.2.1).2.1
    exact ⟨q.2.1, by rw [h2 c hc]; omega, hl c hc⟩
  · rw [k.2.2.1 158 rfl]; exact h3 c f hc hf
  · rw [k.2.2.1 156 rfl, k.2.2.1 157 rfl]; exact h4 f hf
  · rw [k.1 14025 rfl, k.2.2.1 161 rfl, k.2.2.1 162 rfl]; exact h5 a b ha hb
  · rw [k.1 14047 rfl]
    exact ⟨(h6 c v hc).1.trans (im_cor k v).1.symm, (h6 c v hc).2.trans (im_cor k v).2.symm⟩
theorem ini_all {D : Dt} {u b : Int32} {τ : Sg} (hK : LkM D u b τ) (h : Ini τ 20) : (∀ Y, Sol D Y → LeX D (XM τ) Y) ∧ Bg D (XM τ) ∧ 1 ≤ phD D (XM τ) + ((800001 : Nat) : Int) := by
  have F : ∀ c, dA D c = true → xf (XM τ) (dg D c) = 0 ∧ xt (XM τ) (dg D c) = 20000 ∧ yf (XM τ) c = 0 ∧ yt (XM τ) c = 20000 := by
    intro c hc
    have q := hK.2.1 c hc
    have a := h (dg D c) q.2.1
    have b := h c q.1
    refine ⟨?_, ?_, ?_, ?_⟩
    · show (τ.2.2.1 163 (dg D c)).toInt = 0
      rw [a.1]; decide
    · show (τ.2.2.1 164 (dg D c)).toInt = 20000
      rw [a.2.1]; decide
    · show (τ.2.2.1 165 c).toInt = 0
      rw [b.2.2.1]; decide
    · show (τ.2.2.1 166 c).toInt = 20000
      rw [b.2.2.2]; decide
  refine ⟨fun Y hY c hc => ?_, fun c hc => ?_, ?_⟩
  · have f := F c hc
    have y := hY.1 c hc
    have i1 := (hK.2.2.2.2.2.1 c _ hc).1.mpr (Or.inl rfl)
    have j1 := (hK.2.2.2.2.2.1 c _ hc).2.mpr (Or.inl rfl)
    have i2 := ((hK.2.2.2.2.2.2 c _ hc).1 i1).1
    have j2 := ((hK.2.2.2.2.2.2 c _ hc).2 j1).2
    have i3 := y.2.2.1 _ i1
    have j3 := y.2.2.2 _ j1
    exact ⟨by omega, by omega, by omega, by omega⟩
  · have f := F c hc
    exact ⟨by omega, by omega, by omega, by omega⟩
  · have := phD_b (D := D) (X := XM τ) (fun c hc => by have f := F c hc; omega)
    omega
theorem em_ne {D : Dt} {X : Xs} (h : EmM D X) (k : NeX D X) : False := by
  obtain ⟨c, hc, h⟩ := h
  have q := k c hc
  omega
theorem em_bad {D : Dt} {X : Xs} (hle : ∀ Y, Sol D Y → LeX D X Y) (h : EmM D X) : Bad D := by
  intro Y hY hN
  obtain ⟨c, hc, h⟩ := h
  have q := hN c hc
  have r := hle Y hY c hc
  omega
theorem bg_up {D : Dt} {X Y : Xs} (h : Bg D X) (k : LeX D X Y) : Bg D Y := fun c hc => by
  have a := h c hc
  have b := k c hc
  exact ⟨by omega, by omega, by omega, by omega⟩
/-- laters of the reference -/
theorem rlm_of {D : Dt} {u b : Int32} {σ : Sg} {X Y : Xs} {n : Nat} (hK : LkM D u b σ) (h2 : RlK D (σ.2.2.1 161) (σ.2.2.1 162) X Y n) (hn : (σ.1 14025).toNatClampNeg ≤ n) : ∀ c, dA D c = true → ∀ d, dA D d = true → dL D c d → Rl D X Y c d := by
  intro c hc d hd hl
  obtain ⟨k, hk, e1, e2⟩ := (hK.2.2.2.2.1 c d hc hd).mp hl
  exact h2 k (by omega) c d hc hd e1 e2
theorem tmn_cor {σ τ : Sg} (h : Cor σ τ) (c : Nat) (u : Int32) : (decide (c < TMn τ) && !decide (nI c = u)) = (decide (c < TMn σ) && !decide (nI c = u)) := by
  unfold TMn
  rw [h.1 14000 rfl, h.1 14013 rfl, h.2.2.1 148 rfl]
set_option maxRecDepth 100000 in
set_option maxHeartbeats 40000000 in
theorem gd_X9_areSpans {G : vG} {l : Launch} (σ : Sg) (D : Dt) (u b : Int32)  (hI : Inv σ) (hD : DtM D u b σ) : Sp G l yX9_areSpans cX9_areSpans 6 (some .boolean) 4 0 0 [.ref 140, .int u, .int b] (WW σ) (QI (fun x w2 => ∃ σ2, w2 = WW σ2 ∧ Inv σ2 ∧ Cor σ σ2 ∧ (∀ c, dA D c = true → σ2.2.2.1 152 c = nI (dg D c)) ∧ (x = 1 ∧ Good D (XM σ2) ∨ x = 0 ∧ Bad D))) := by
  refine Sp_of_R [(some (.ref 140)), (some (.int u)), (some (.int b)), none, none, none] [none, none, none] rfl (by simp) rfl (Nat.le_of_ble_eq_true rfl) ?_
  refine R_aload_n (pc := 0) dX9_areSpans_0 rfl rfl ?_
  refine k_X9_162 (pc := 1) (gn_X9_findUnlike _ hI) rfl (c_140 _) (by decide) (Nat.le_refl _) (Nat.le_refl _) (Nat.le_of_ble_eq_true rfl) dX9_areSpans_1 (fun w2 h => ?_)
  obtain ⟨σx2, rfl, hV1, hW3, hq4, hu5⟩ := h
  have hW6 := Cor.trans (show Cor σ σ from Cor.rfl' σ) hW3
  refine R_aload_n (pc := 4) dX9_areSpans_4 rfl rfl ?_
  refine R_aload_n (pc := 5) dX9_areSpans_5 rfl rfl ?_
  refine g_X9_54 (pc := 6) (v := .ref 152) rfl dX9_areSpans_6 (c_140 _) rfl ?_
  refine R_iconst (pc := 9) (v := 0) dX9_areSpans_9 (by decide) ?_
  refine R_iload_n (pc := 10) dX9_areSpans_10 rfl rfl ?_
  refine k_X9_165 (pc := 11) (gn_X9_findChains_152 _ _ hV1 (sym_lk9 hI hW6 hu5 (u := u))) rfl (c_140 _) (by decide) (Nat.le_refl _) (Nat.le_refl _) (Nat.le_of_ble_eq_true rfl) dX9_areSpans_11 (fun w2 h => ?_)
  obtain ⟨σx8, rfl, hV7, hW9, hq10, hl11⟩ := h
  have hW12 := Cor.trans hW6 hW9
  have hu13 : UT (DVm σ) (σx8.2.2.1 151) _ := (by rw [hq10.2.2.1 151 rfl]; exact hu5)
  have hld : ∀ c, dA D c = true → σx8.2.2.1 152 c = nI (dg D c) := fun c hc => by have a := (hD.1 c).symm.trans hc; have a2 : (decide (c < TMn σx2) && !decide (nI c = u)) = true := (tmn_cor hW6 c u).trans a; exact (hl11 c (AMu_lt a2).1 (AMu_lt a2).2.2).trans (congrArg nI ((lab_lk9u hI hW6 hu5 a).trans (hD.2.1 c hc).symm))
  refine R_iconst (pc := 14) (v := 0) dX9_areSpans_14 (by decide) ?_
  refine st_6_3_i_i (pc := 15) dX9_areSpans_15 ?_
  have HL16 : ∀ (q j16 : Nat) (σ16 : Sg), j16 + q = 20 → 0 ≤ j16 → Inv σ16 → Cor σ σ16 → Ini σ16 j16 → (∀ c, dA D c = true → σ16.2.2.1 152 c = nI (dg D c)) → R G l yX9_areSpans cX9_areSpans 6 (some .boolean) 4 0 0 (QI (fun x w2 => ∃ σ2, w2 = WW σ2 ∧ Inv σ2 ∧ Cor σ σ2 ∧ (∀ c, dA D c = true → σ2.2.2.1 152 c = nI (dg D c)) ∧ (x = 1 ∧ Good D (XM σ2) ∨ x = 0 ∧ Bad D))) 16 [(some (.ref 140)), (some (.int u)), (some (.int b)), (some (.int (nI j16))), none, none] [] (WW σ16) 0 0 := by
    intro q
    induction q with
    | zero =>
      intro j16 σ16 hj hs16 hI16 hC16 hX16_0 hX16_1
      obtain rfl : j16 = 20 := by omega
      refine R_iload_n (pc := 16) dX9_areSpans_16 rfl rfl ?_
      refine R_bipush (pc := 17) (v := 20) dX9_areSpans_17 (by decide) ?_
      refine R_icge (pc := 19) 60 dX9_areSpans_19 (by decide) (fun _ => ?_) (fun h => absurd (by decide) h)
      refine R_aload_n (pc := 60) dX9_areSpans_60 rfl rfl ?_
      refine R_iconst (pc := 61) (v := 1) dX9_areSpans_61 (by decide) ?_
      refine p_X9_204 (pc := 62) rfl dX9_areSpans_62 (c_140 _) (Nat.le_of_ble_eq_true rfl) rfl rfl (s_140_32 _ _) ?_
      have hW15 := cor_si 14032 1 hC16 rfl
      have hK0 : LkM D u b (uI σ16 14032 1) := dtm_lk hD hW15 (show ∀ c, dA D c = true → (uI σ16 14032 1).2.2.1 152 c = nI (dg D c) from hX16_1)
      have hi0 := ini_all hK0 (show Ini (uI σ16 14032 1) 20 from hX16_0)
      have HL : ∀ (q : Nat) (σ65 : Sg) (g3_65 : Option Value) (g4_65 : Option Value) (g5_65 : Option Value), 1 ≤ phD D (XM σ65) + (q : Int) → Inv σ65 → Cor σ σ65 → LkM D u b σ65 → (∀ Y, Sol D Y → LeX D (XM σ65) Y) → Bg D (XM σ65) → σ65.1 14032 = 1 → R G l yX9_areSpans cX9_areSpans 6 (some .boolean) 4 0 0 (QI (fun x w2 => ∃ σ2, w2 = WW σ2 ∧ Inv σ2 ∧ Cor σ σ2 ∧ (∀ c, dA D c = true → σ2.2.2.1 152 c = nI (dg D c)) ∧ (x = 1 ∧ Good D (XM σ2) ∨ x = 0 ∧ Bad D))) 65 [(some (.ref 140)), (some (.int u)), (some (.int b)), g3_65, g4_65, g5_65] [] (WW σ65) 0 0 := by
        intro q
        induction q with
        | zero =>
          intro σ65 g3_65 g4_65 g5_65 hj65 hI65 hC65 hK65 hle65 hbg65 hfl65
          refine R_aload_n (pc := 65) dX9_areSpans_65 rfl rfl ?_
          refine g_X9_204 (pc := 66) (v := .int 1) rfl dX9_areSpans_66 (c_140 _) (by show some (Value.int (σ65.1 14032)) = _; rw [hfl65]) ?_
          refine R_ifeq (pc := 69) 211 dX9_areSpans_69 (by decide) (fun h => absurd h (by decide)) (fun _ => ?_)
          refine R_aload_n (pc := 72) dX9_areSpans_72 rfl rfl ?_
          refine R_iload_n (pc := 73) dX9_areSpans_73 rfl rfl ?_
          refine k_X9_221 (pc := 74) (gd_X9_isEmpty _ D u b hI65 hK65) rfl (c_140 _) (by decide) (Nat.le_refl _) (Nat.le_refl _) (Nat.le_of_ble_eq_true rfl) dX9_areSpans_74 (fun x w2 h => ?_)
          rcases h with ⟨rfl, ⟨rfl, hem1⟩ | ⟨rfl, hne1⟩⟩
          · skip
            refine R_ifne (pc := 77) 211 dX9_areSpans_77 (by decide) (fun _ => ?_) (fun h => absurd h (by decide))
            refine R_aload_n (pc := 211) dX9_areSpans_211 rfl rfl ?_
            refine R_iload_n (pc := 212) dX9_areSpans_212 rfl rfl ?_
            refine k_X9_221 (pc := 213) (gd_X9_isEmpty _ D u b hI65 hK65) rfl (c_140 _) (by decide) (Nat.le_refl _) (Nat.le_refl _) (Nat.le_of_ble_eq_true rfl) dX9_areSpans_213 (fun x w2 h => ?_)
            rcases h with ⟨rfl, ⟨rfl, hem2⟩ | ⟨rfl, hne2⟩⟩
            · skip
              refine R_ifne (pc := 216) 223 dX9_areSpans_216 (by decide) (fun _ => ?_) (fun h => absurd h (by decide))
              refine R_iconst (pc := 223) (v := 0) dX9_areSpans_223 (by decide) ?_
              exact R_iret (pc := 224) dX9_areSpans_224 rfl rfl (Nat.zero_le _) (Nat.zero_le _) ⟨_, rfl, _, rfl, hI65, hC65, (fun c hc => (hK65.2.1 c hc).2.2), Or.inr ⟨rfl, em_bad hle65 hem2⟩⟩
            · skip
              refine R_ifne (pc := 216) 223 dX9_areSpans_216 (by decide) (fun h => absurd (by decide) h) (fun _ => ?_)
              refine R_iconst (pc := 219) (v := 1) dX9_areSpans_219 (by decide) ?_
              refine R_goto (pc := 220) 224 dX9_areSpans_220 (by decide) ?_
              exact R_iret (pc := 224) dX9_areSpans_224 rfl rfl (Nat.zero_le _) (Nat.zero_le _) (False.elim (em_ne hem1 hne2))
          · skip
            exact False.elim (by have z := phD_0 hne1; omega)
        | succ q ih =>
          intro σ65 g3_65 g4_65 g5_65 hj65 hI65 hC65 hK65 hle65 hbg65 hfl65
          refine R_aload_n (pc := 65) dX9_areSpans_65 rfl rfl ?_
          refine g_X9_204 (pc := 66) (v := .int 1) rfl dX9_areSpans_66 (c_140 _) (by show some (Value.int (σ65.1 14032)) = _; rw [hfl65]) ?_
          refine R_ifeq (pc := 69) 211 dX9_areSpans_69 (by decide) (fun h => absurd h (by decide)) (fun _ => ?_)
          refine R_aload_n (pc := 72) dX9_areSpans_72 rfl rfl ?_
          refine R_iload_n (pc := 73) dX9_areSpans_73 rfl rfl ?_
          refine k_X9_221 (pc := 74) (gd_X9_isEmpty _ D u b hI65 hK65) rfl (c_140 _) (by decide) (Nat.le_refl _) (Nat.le_refl _) (Nat.le_of_ble_eq_true rfl) dX9_areSpans_74 (fun x w2 h => ?_)
          rcases h with ⟨rfl, ⟨rfl, hem1⟩ | ⟨rfl, hne1⟩⟩
          · skip
            refine R_ifne (pc := 77) 211 dX9_areSpans_77 (by decide) (fun _ => ?_) (fun h => absurd h (by decide))
            refine R_aload_n (pc := 211) dX9_areSpans_211 rfl rfl ?_
            refine R_iload_n (pc := 212) dX9_areSpans_212 rfl rfl ?_
            refine k_X9_221 (pc := 213) (gd_X9_isEmpty _ D u b hI65 hK65) rfl (c_140 _) (by decide) (Nat.le_refl _) (Nat.le_refl _) (Nat.le_of_ble_eq_true rfl) dX9_areSpans_213 (fun x w2 h => ?_)
            rcases h with ⟨rfl, ⟨rfl, hem2⟩ | ⟨rfl, hne2⟩⟩
            · skip
              refine R_ifne (pc := 216) 223 dX9_areSpans_216 (by decide) (fun _ => ?_) (fun h => absurd h (by decide))
              refine R_iconst (pc := 223) (v := 0) dX9_areSpans_223 (by decide) ?_
              exact R_iret (pc := 224) dX9_areSpans_224 rfl rfl (Nat.zero_le _) (Nat.zero_le _) ⟨_, rfl, _, rfl, hI65, hC65, (fun c hc => (hK65.2.1 c hc).2.2), Or.inr ⟨rfl, em_bad hle65 hem2⟩⟩
            · skip
              refine R_ifne (pc := 216) 223 dX9_areSpans_216 (by decide) (fun h => absurd (by decide) h) (fun _ => ?_)
              refine R_iconst (pc := 219) (v := 1) dX9_areSpans_219 (by decide) ?_
              refine R_goto (pc := 220) 224 dX9_areSpans_220 (by decide) ?_
              exact R_iret (pc := 224) dX9_areSpans_224 rfl rfl (Nat.zero_le _) (Nat.zero_le _) (False.elim (em_ne hem1 hne2))
          · skip
            refine R_ifne (pc := 77) 211 dX9_areSpans_77 (by decide) (fun h => absurd (by decide) h) (fun _ => ?_)
            refine R_aload_n (pc := 80) dX9_areSpans_80 rfl rfl ?_
            refine R_iconst (pc := 81) (v := 0) dX9_areSpans_81 (by decide) ?_
            refine p_X9_204 (pc := 82) rfl dX9_areSpans_82 (c_140 _) (Nat.le_of_ble_eq_true rfl) rfl rfl (s_140_32 _ _) ?_
            have hW25 := cor_si 14032 0 hC65 rfl
            refine R_iconst (pc := 85) (v := 0) dX9_areSpans_85 (by decide) ?_
            refine st_6_3_i_i (pc := 86) dX9_areSpans_86 ?_
            have HL87 : ∀ (q j87 : Nat) (σ87 : Sg), j87 + q = 20 → 0 ≤ j87 → Inv σ87 → Cor σ σ87 → (StM D (uI σ65 14032 0) σ87 ∧ BnX D (XM σ87) 1) → (∀ c, c < j87 → dA D c = true → RcM D (XM σ65) (XM σ87) c) → R G l yX9_areSpans cX9_areSpans 6 (some .boolean) 4 0 0 (QI (fun x w2 => ∃ σ2, w2 = WW σ2 ∧ Inv σ2 ∧ Cor σ σ2 ∧ (∀ c, dA D c = true → σ2.2.2.1 152 c = nI (dg D c)) ∧ (x = 1 ∧ Good D (XM σ2) ∨ x = 0 ∧ Bad D))) 87 [(some (.ref 140)), (some (.int u)), (some (.int b)), (some (.int (nI j87))), g4_65, g5_65] [] (WW σ87) 0 0 := by
              intro q
              induction q with
              | zero =>
                intro j87 σ87 hj hs87 hI87 hC87 hX87_0 hX87_1
                obtain rfl : j87 = 20 := by omega
                refine R_iload_n (pc := 87) dX9_areSpans_87 rfl rfl ?_
                refine R_aload_n (pc := 88) dX9_areSpans_88 rfl rfl ?_
                refine k_X9_120 (pc := 89) (ge_X9_thereMany _ hI87) rfl (c_140 _) (by decide) (Nat.le_refl _) (Nat.le_refl _) (Nat.le_of_ble_eq_true rfl) dX9_areSpans_89 (fun x w2 h => ?_)
                obtain ⟨rfl, rfl⟩ := h
                refine R_icge (pc := 92) 112 dX9_areSpans_92 (by decide) (fun _ => ?_) (fun h => absurd (Int32.not_lt.mp (inR_up (tm_in (σ87.1 14000) (σ87.1 14013) (σ87.2.2.1 148)) (Int32.le_refl _) (by decide)).2) h)
                refine R_iconst (pc := 112) (v := 0) dX9_areSpans_112 (by decide) ?_
                refine st_6_3_i_i (pc := 113) dX9_areSpans_113 ?_
                have hX87K := (dtm_lk hD hC87 (fun c hc => by rw [hX87_0.1.2.2]; exact (hK65.2.1 c hc).2.2))
                have HL114 : ∀ (q j114 : Nat) (σ114 : Sg) (g4_114 : Option Value) (g5_114 : Option Value), j114 + q = 12 → 0 ≤ j114 → Inv σ114 → Cor σ σ114 → (StM D (uI σ65 14032 0) σ114 ∧ BnX D (XM σ114) (1 + 2 * (j114 : Int))) → (∀ c, dA D c = true → -1 ≤ yf (XM σ114) c ∧ yt (XM σ114) c ≤ 20000) → (∀ c, c < 20 → dA D c = true → RcM D (XM σ65) (XM σ114) c) → RlK D (σ65.2.2.1 161) (σ65.2.2.1 162) (XM σ65) (XM σ114) j114 → R G l yX9_areSpans cX9_areSpans 6 (some .boolean) 4 0 0 (QI (fun x w2 => ∃ σ2, w2 = WW σ2 ∧ Inv σ2 ∧ Cor σ σ2 ∧ (∀ c, dA D c = true → σ2.2.2.1 152 c = nI (dg D c)) ∧ (x = 1 ∧ Good D (XM σ2) ∨ x = 0 ∧ Bad D))) 114 [(some (.ref 140)), (some (.int u)), (some (.int b)), (some (.int (nI j114))), g4_114, g5_114] [] (WW σ114) 0 0 := by
                  intro q
                  induction q with
                  | zero =>
                    intro j114 σ114 g4_114 g5_114 hj hs114 hI114 hC114 hX114_0 hX114_1 hX114_2 hX114_3
                    obtain rfl : j114 = 12 := by omega
                    have hC6161 : σ114.2.2.1 161 = σ65.2.2.1 161 := (hC114.2.2.1 161 rfl).trans (hC65.2.2.1 161 rfl).symm
                    have hC6162 : σ114.2.2.1 162 = σ65.2.2.1 162 := (hC114.2.2.1 162 rfl).trans (hC65.2.2.1 162 rfl).symm
                    refine R_iload_n (pc := 114) dX9_areSpans_114 rfl rfl ?_
                    refine R_aload_n (pc := 115) dX9_areSpans_115 rfl rfl ?_
                    refine g_X9_201 (pc := 116) (v := .int (σ114.1 14025)) rfl dX9_areSpans_116 (c_140 _) rfl ?_
                    refine R_icge (pc := 119) 208 dX9_areSpans_119 (by decide) (fun _ => ?_) (fun h => absurd (Int32.not_lt.mp (inR_up (iv_14025 hI114) (Int32.le_refl _) (by decide)).2) h)
                    refine R_goto (pc := 208) 65 dX9_areSpans_208 (by decide) ?_
                    have hleE : ∀ Y, Sol D Y → LeX D (XM σ114) Y := fun Y hY => hX114_0.1.1.2 Y hY (hle65 Y hY)
                    have hbgE : Bg D (XM σ114) := bg_up hbg65 hX114_0.1.1.1
                    have hKE := (dtm_lk hD hC114 (fun c hc => by rw [hX114_0.1.2.2]; exact (hK65.2.1 c hc).2.2))
                    rcases hX114_0.1.2.1 with ⟨hz, z1, z2, z3, z4⟩ | ⟨hz, hsc⟩
                    · skip
                      have hsolE : Sol D (XM σ114) := sol_m (X := XM σ65) (fun c hc => ⟨(hbg65 c hc).1, (hbg65 c hc).2.1⟩) hX114_0.1.1 hX114_2 (rlm_of hKE (show RlK D (σ114.2.2.1 161) (σ114.2.2.1 162) (XM σ65) (XM σ114) 12 from by rw [hC6161, hC6162]; exact hX114_3) (clampM (M := 12) (iv_14025 hI114) (by decide))) (fun c hc => (hKE.2.1 c hc).1) (xm_eq (σ := (uI σ65 14032 0)) z1 z2 z3 z4)
                      refine R_aload_n (pc := 65) dX9_areSpans_65 rfl rfl ?_
                      refine g_X9_204 (pc := 66) (v := .int 0) rfl dX9_areSpans_66 (c_140 _) (by show some (Value.int (σ114.1 14032)) = _; rw [hz]; rfl) ?_
                      refine R_ifeq (pc := 69) 211 dX9_areSpans_69 (by decide) (fun _ => ?_) (fun h => absurd (by decide) h)
                      refine R_aload_n (pc := 211) dX9_areSpans_211 rfl rfl ?_
                      refine R_iload_n (pc := 212) dX9_areSpans_212 rfl rfl ?_
                      refine k_X9_221 (pc := 213) (gd_X9_isEmpty _ D u b hI114 hKE) rfl (c_140 _) (by decide) (Nat.le_refl _) (Nat.le_refl _) (Nat.le_of_ble_eq_true rfl) dX9_areSpans_213 (fun x w2 h => ?_)
                      rcases h with ⟨rfl, ⟨rfl, hem2⟩ | ⟨rfl, hne2⟩⟩
                      · skip
                        refine R_ifne (pc := 216) 223 dX9_areSpans_216 (by decide) (fun _ => ?_) (fun h => absurd h (by decide))
                        refine R_iconst (pc := 223) (v := 0) dX9_areSpans_223 (by decide) ?_
                        exact R_iret (pc := 224) dX9_areSpans_224 rfl rfl (Nat.zero_le _) (Nat.zero_le _) ⟨_, rfl, _, rfl, hI114, hC114, (fun c hc => (hKE.2.1 c hc).2.2), Or.inr ⟨rfl, em_bad hleE hem2⟩⟩
                      · skip
                        refine R_ifne (pc := 216) 223 dX9_areSpans_216 (by decide) (fun h => absurd (by decide) h) (fun _ => ?_)
                        refine R_iconst (pc := 219) (v := 1) dX9_areSpans_219 (by decide) ?_
                        refine R_goto (pc := 220) 224 dX9_areSpans_220 (by decide) ?_
                        exact R_iret (pc := 224) dX9_areSpans_224 rfl rfl (Nat.zero_le _) (Nat.zero_le _) ⟨_, rfl, _, rfl, hI114, hC114, (fun c hc => (hKE.2.1 c hc).2.2), Or.inl ⟨rfl, hsolE, hne2, hleE⟩⟩
                    · skip
                      exact ih _ _ _ _ (by have z := phD_lt (D := D) (X := XM σ65) (fun c hc => (hK65.2.1 c hc).1) hX114_0.1.1.1 hsc; omega) hI114 hC114 hKE hleE hbgE hz
                  | succ q ih114 =>
                    intro j114 σ114 g4_114 g5_114 hj hs114 hI114 hC114 hX114_0 hX114_1 hX114_2 hX114_3
                    have hrg114 : inR (nI j114) 0 11 := inR_ix hs114 (show j114 < 12 by omega) (by decide) (by decide) (by decide)
                    have hlt114 : j114 < 12 := by omega
                    have hC6161 : σ114.2.2.1 161 = σ65.2.2.1 161 := (hC114.2.2.1 161 rfl).trans (hC65.2.2.1 161 rfl).symm
                    have hC6162 : σ114.2.2.1 162 = σ65.2.2.1 162 := (hC114.2.2.1 162 rfl).trans (hC65.2.2.1 162 rfl).symm
                    refine R_iload_n (pc := 114) dX9_areSpans_114 rfl rfl ?_
                    refine R_aload_n (pc := 115) dX9_areSpans_115 rfl rfl ?_
                    refine g_X9_201 (pc := 116) (v := .int (σ114.1 14025)) rfl dX9_areSpans_116 (c_140 _) rfl ?_
                    refine R_icge (pc := 119) 208 dX9_areSpans_119 (by decide) (fun b119_31 => ?_) (fun b119_31 => ?_)
                    · skip
                      refine R_goto (pc := 208) 65 dX9_areSpans_208 (by decide) ?_
                      have hleE : ∀ Y, Sol D Y → LeX D (XM σ114) Y := fun Y hY => hX114_0.1.1.2 Y hY (hle65 Y hY)
                      have hbgE : Bg D (XM σ114) := bg_up hbg65 hX114_0.1.1.1
                      have hKE := (dtm_lk hD hC114 (fun c hc => by rw [hX114_0.1.2.2]; exact (hK65.2.1 c hc).2.2))
                      rcases hX114_0.1.2.1 with ⟨hz, z1, z2, z3, z4⟩ | ⟨hz, hsc⟩
                      · skip
                        have hsolE : Sol D (XM σ114) := sol_m (X := XM σ65) (fun c hc => ⟨(hbg65 c hc).1, (hbg65 c hc).2.1⟩) hX114_0.1.1 hX114_2 (rlm_of hKE (show RlK D (σ114.2.2.1 161) (σ114.2.2.1 162) (XM σ65) (XM σ114) j114 from by rw [hC6161, hC6162]; exact hX114_3) (lej_of (iv_14025 hI114) b119_31 (by omega))) (fun c hc => (hKE.2.1 c hc).1) (xm_eq (σ := (uI σ65 14032 0)) z1 z2 z3 z4)
                        refine R_aload_n (pc := 65) dX9_areSpans_65 rfl rfl ?_
                        refine g_X9_204 (pc := 66) (v := .int 0) rfl dX9_areSpans_66 (c_140 _) (by show some (Value.int (σ114.1 14032)) = _; rw [hz]; rfl) ?_
                        refine R_ifeq (pc := 69) 211 dX9_areSpans_69 (by decide) (fun _ => ?_) (fun h => absurd (by decide) h)
                        refine R_aload_n (pc := 211) dX9_areSpans_211 rfl rfl ?_
                        refine R_iload_n (pc := 212) dX9_areSpans_212 rfl rfl ?_
                        refine k_X9_221 (pc := 213) (gd_X9_isEmpty _ D u b hI114 hKE) rfl (c_140 _) (by decide) (Nat.le_refl _) (Nat.le_refl _) (Nat.le_of_ble_eq_true rfl) dX9_areSpans_213 (fun x w2 h => ?_)
                        rcases h with ⟨rfl, ⟨rfl, hem2⟩ | ⟨rfl, hne2⟩⟩
                        · skip
                          refine R_ifne (pc := 216) 223 dX9_areSpans_216 (by decide) (fun _ => ?_) (fun h => absurd h (by decide))
                          refine R_iconst (pc := 223) (v := 0) dX9_areSpans_223 (by decide) ?_
                          exact R_iret (pc := 224) dX9_areSpans_224 rfl rfl (Nat.zero_le _) (Nat.zero_le _) ⟨_, rfl, _, rfl, hI114, hC114, (fun c hc => (hKE.2.1 c hc).2.2), Or.inr ⟨rfl, em_bad hleE hem2⟩⟩
                        · skip
                          refine R_ifne (pc := 216) 223 dX9_areSpans_216 (by decide) (fun h => absurd (by decide) h) (fun _ => ?_)
                          refine R_iconst (pc := 219) (v := 1) dX9_areSpans_219 (by decide) ?_
                          refine R_goto (pc := 220) 224 dX9_areSpans_220 (by decide) ?_
                          exact R_iret (pc := 224) dX9_areSpans_224 rfl rfl (Nat.zero_le _) (Nat.zero_le _) ⟨_, rfl, _, rfl, hI114, hC114, (fun c hc => (hKE.2.1 c hc).2.2), Or.inl ⟨rfl, hsolE, hne2, hleE⟩⟩
                      · skip
                        exact ih _ _ _ _ (by have z := phD_lt (D := D) (X := XM σ65) (fun c hc => (hK65.2.1 c hc).1) hX114_0.1.1.1 hsc; omega) hI114 hC114 hKE hleE hbgE hz
                    · skip
                      refine R_aload_n (pc := 122) dX9_areSpans_122 rfl rfl ?_
                      refine g_X9_81 (pc := 123) (v := .ref 161) rfl dX9_areSpans_123 (c_140 _) rfl ?_
                      refine R_iload_n (pc := 126) dX9_areSpans_126 rfl rfl ?_
                      have hx35 : vp_in (nI j114) 12 := (vp_in_nI (by omega) (by decide))
                      refine R_iaload (pc := 127) dX9_areSpans_127 (c_161 _) hx35 ?_
                      refine st_6_4_i_i (pc := 128) dX9_areSpans_128 ?_
                      refine R_aload_n (pc := 130) dX9_areSpans_130 rfl rfl ?_
                      refine g_X9_84 (pc := 131) (v := .ref 162) rfl dX9_areSpans_131 (c_140 _) rfl ?_
                      refine R_iload_n (pc := 134) dX9_areSpans_134 rfl rfl ?_
                      have hx36 : vp_in (nI j114) 12 := (vp_in_nI (by omega) (by decide))
                      refine R_iaload (pc := 135) dX9_areSpans_135 (c_162 _) hx36 ?_
                      refine st_6_5_i_i (pc := 136) dX9_areSpans_136 ?_
                      refine R_aload_n (pc := 138) dX9_areSpans_138 rfl rfl ?_
                      refine R_iload (pc := 139) dX9_areSpans_139 rfl ?_
                      refine k_X9_135 (pc := 141) (ge_X9_isThere _ _ hI114) rfl (c_140 _) (by decide) (Nat.le_refl _) (Nat.le_refl _) (Nat.le_of_ble_eq_true rfl) dX9_areSpans_141 (fun x w2 h => ?_)
                      rcases h with ⟨rfl, ⟨h37, h37b, rfl⟩ | ⟨h37, rfl⟩⟩
                      · skip
                        refine R_ifeq (pc := 144) 202 dX9_areSpans_144 (by decide) (fun h => absurd h (by decide)) (fun _ => ?_)
                        refine R_aload_n (pc := 147) dX9_areSpans_147 rfl rfl ?_
                        refine R_iload (pc := 148) dX9_areSpans_148 rfl ?_
                        refine k_X9_135 (pc := 150) (ge_X9_isThere _ _ hI114) rfl (c_140 _) (by decide) (Nat.le_refl _) (Nat.le_refl _) (Nat.le_of_ble_eq_true rfl) dX9_areSpans_150 (fun x w2 h => ?_)
                        rcases h with ⟨rfl, ⟨h39, h39b, rfl⟩ | ⟨h39, rfl⟩⟩
                        · skip
                          refine R_ifeq (pc := 153) 202 dX9_areSpans_153 (by decide) (fun h => absurd h (by decide)) (fun _ => ?_)
                          refine R_iload (pc := 156) dX9_areSpans_156 rfl ?_
                          refine R_iload_n (pc := 158) dX9_areSpans_158 rfl rfl ?_
                          refine R_iceq (pc := 159) 202 dX9_areSpans_159 (by decide) (fun b159_41 => ?_) (fun b159_41 => ?_)
                          · skip
                            refine inc_6_3_1_i (pc := 202) dX9_areSpans_202 ?_
                            have r42 : inR ((nI j114) + 1) 1 12 := inR_add (show inR (nI j114) 0 11 from hrg114) (show inR 1 1 1 from (inR_self _)) (by decide) (by decide)
                            have e43 := ti_add (l := 1) (h := 12) (show inR (nI j114) 0 11 from hrg114) (show inR 1 1 1 from (inR_self _)) (by decide) (by decide)
                            refine R_goto (pc := 205) 114 dX9_areSpans_205 (by decide) ?_
                            rw [nI_1]
                            exact ih114 (j114 + 1) _ _ _ (by omega) (by omega) hI114 hC114 ⟨hX114_0.1, (hX114_0.2.up (by omega))⟩ hX114_1 hX114_2 (rlk_s hX114_3 (LeX.rfl' D _) (fun a2 b2 ha2 hb2 e1 e2 => absurd ((show (σ114.2.2.1 161 (Int32.toNatClampNeg (nI j114))) = nI a2 from by rw [nI_clamp (by omega), congrFun (hC6161) j114]; exact e1).symm.trans b159_41) (dAm_i (dtm_lk hD hC114 (fun c hc => by rw [hX114_0.1.2.2]; exact (hK65.2.1 c hc).2.2)) ha2).2))
                          · skip
                            refine R_iload (pc := 162) dX9_areSpans_162 rfl ?_
                            refine R_iload_n (pc := 164) dX9_areSpans_164 rfl rfl ?_
                            refine R_iceq (pc := 165) 202 dX9_areSpans_165 (by decide) (fun b165_44 => ?_) (fun b165_44 => ?_)
                            · skip
                              refine inc_6_3_1_i (pc := 202) dX9_areSpans_202 ?_
                              have r45 : inR ((nI j114) + 1) 1 12 := inR_add (show inR (nI j114) 0 11 from hrg114) (show inR 1 1 1 from (inR_self _)) (by decide) (by decide)
                              have e46 := ti_add (l := 1) (h := 12) (show inR (nI j114) 0 11 from hrg114) (show inR 1 1 1 from (inR_self _)) (by decide) (by decide)
                              refine R_goto (pc := 205) 114 dX9_areSpans_205 (by decide) ?_
                              rw [nI_1]
                              exact ih114 (j114 + 1) _ _ _ (by omega) (by omega) hI114 hC114 ⟨hX114_0.1, (hX114_0.2.up (by omega))⟩ hX114_1 hX114_2 (rlk_s hX114_3 (LeX.rfl' D _) (fun a2 b2 ha2 hb2 e1 e2 => absurd ((show (σ114.2.2.1 162 (Int32.toNatClampNeg (nI j114))) = nI b2 from by rw [nI_clamp (by omega), congrFun (hC6162) j114]; exact e2).symm.trans b165_44) (dAm_i (dtm_lk hD hC114 (fun c hc => by rw [hX114_0.1.2.2]; exact (hK65.2.1 c hc).2.2)) hb2).2))
                            · skip
                              obtain ⟨a, ha20, eaa⟩ := nI_in20 h37
                              obtain ⟨b9, hb20, ebb⟩ := nI_in20 h39
                              have eac : Int32.toNatClampNeg (σ114.2.2.1 161 (Int32.toNatClampNeg (nI j114))) = a := by rw [eaa, nI_clamp (by omega)]
                              have ebc : Int32.toNatClampNeg (σ114.2.2.1 162 (Int32.toNatClampNeg (nI j114))) = b9 := by rw [ebb, nI_clamp (by omega)]
                              have haD : dA D a = true := dAm_t (dtm_lk hD hC114 (fun c hc => by rw [hX114_0.1.2.2]; exact (hK65.2.1 c hc).2.2)) (by have q := h37b; rw [eac] at q; exact q) (fun e => b159_41 (eaa.trans e))
                              have hbD : dA D b9 = true := dAm_t (dtm_lk hD hC114 (fun c hc => by rw [hX114_0.1.2.2]; exact (hK65.2.1 c hc).2.2)) (by have q := h39b; rw [ebc] at q; exact q) (fun e => b165_44 (ebb.trans e))
                              have hdl : dL D a b9 := ((dtm_lk hD hC114 (fun c hc => by rw [hX114_0.1.2.2]; exact (hK65.2.1 c hc).2.2)).2.2.2.2.1 a b9 haD hbD).mpr ⟨j114, ltj_of (iv_14025 hI114) (show nI j114 < σ114.1 14025 from (Int32.not_le.mp b119_31)) (by omega), (by have q := eaa; rw [nI_clamp (by omega)] at q; exact q), (by have q := ebb; rw [nI_clamp (by omega)] at q; exact q)⟩
                              refine R_aload_n (pc := 168) dX9_areSpans_168 rfl rfl ?_
                              refine R_iload (pc := 169) dX9_areSpans_169 rfl ?_
                              refine R_aload_n (pc := 171) dX9_areSpans_171 rfl rfl ?_
                              refine g_X9_93 (pc := 172) (v := .ref 165) rfl dX9_areSpans_172 (c_140 _) rfl ?_
                              refine R_iload (pc := 175) dX9_areSpans_175 rfl ?_
                              have hx47 : vp_in (σ114.2.2.1 162 (Int32.toNatClampNeg (nI j114))) 20 := (vp_of_inR h39 (by decide))
                              refine R_iaload (pc := 177) dX9_areSpans_177 (c_165 _) hx47 ?_
                              refine R_cv (σ114.2.2.1 165 b9) (by rw [ebc]) ?_
                              refine R_iconst (pc := 178) (v := 1) dX9_areSpans_178 (by decide) ?_
                              refine R_iadd (pc := 179) dX9_areSpans_179 ?_
                              refine R_sipush (pc := 180) (v := 20000) dX9_areSpans_180 (by decide) ?_
                              have hB2 : BnX D (XM σ114) (2 + 2 * (j114 : Int)) := hX114_0.2.up (by omega)
                              have hp1 : ((σ114.2.2.1 165 b9) + 1).toInt = yf (XM σ114) b9 + 1 := as_1 (show -100 ≤ yf (XM σ114) b9 from by have q := (hX114_1 b9 hbD).1; omega) (show yf (XM σ114) b9 ≤ 30000 from by have q := (hB2 b9 hbD).2.2.1; omega)
                              refine k_X9_212 (pc := 183) (ge_X9_outIn _ _ _ _ hI114 h37) rfl (c_140 _) (by decide) (Nat.le_refl _) (Nat.le_refl _) (Nat.le_of_ble_eq_true rfl) dX9_areSpans_183 (fun w2 h => ?_)
                              obtain ⟨σx49, rfl, hV48, hW50, he51⟩ := h
                              have hW53 := Cor.trans hC114 hW50
                              have hS52 := stM_o (D := D) (c := a) (m := (2 + 2 * (j114 : Int))) he51 eac haD (fun Z hZ hle => by rw [hp1]; have q1 := (hle b9 hbD).2.2.1; have q2 := ((hZ.2 a haD).2.2.2 b9 hbD hdl).1; omega) (fun Z hZ _ => by rw [z2_ti]; exact Int.le_trans ((hZ.1 a haD).2.2.2 _ ((hK65.2.2.2.2.2.1 a _ haD).2.mpr (Or.inl rfl))) (((hK65.2.2.2.2.2.2 a _ haD).2 ((hK65.2.2.2.2.2.1 a _ haD).2.mpr (Or.inl rfl))).2)) (by rw [hp1]; have q1 := (hX114_0.2 b9 hbD).2.2.1; omega) (by rw [z2_ti]; omega)
                              have hT54 := StM.tr hX114_0.1 hS52.1
                              have hB55 := hS52.2.2 hB2
                              have hK56 := lkm_st (dtm_lk hD hC114 (fun c hc => by rw [hX114_0.1.2.2]; exact (hK65.2.1 c hc).2.2)) hW50 hS52.1.2.2
                              have hL1 := hS52.2.1
                              have hL1e := hS52.1.1.1
                              refine R_aload_n (pc := 186) dX9_areSpans_186 rfl rfl ?_
                              refine R_iload (pc := 187) dX9_areSpans_187 rfl ?_
                              refine R_iconst (pc := 189) (v := 0) dX9_areSpans_189 (by decide) ?_
                              refine R_aload_n (pc := 190) dX9_areSpans_190 rfl rfl ?_
                              refine g_X9_96 (pc := 191) (v := .ref 166) rfl dX9_areSpans_191 (c_140 _) rfl ?_
                              refine R_iload (pc := 194) dX9_areSpans_194 rfl ?_
                              have hx57 : vp_in (σ114.2.2.1 161 (Int32.toNatClampNeg (nI j114))) 20 := (vp_of_inR h37 (by decide))
                              refine R_iaload (pc := 196) dX9_areSpans_196 (c_166 _) hx57 ?_
                              refine R_cv (σx49.2.2.1 166 a) (by rw [eac]) ?_
                              refine R_iconst (pc := 197) (v := 1) dX9_areSpans_197 (by decide) ?_
                              refine R_isub (pc := 198) dX9_areSpans_198 ?_
                              have hbl : ∀ c, dA D c = true → -(2 + 2 * (j114 : Int)) ≤ yt (XM σx49) c := fun c hc => (hB55 c hc).2.2.2
                              have hB3 : BnX D (XM σx49) (3 + 2 * (j114 : Int)) := hB55.up (by omega)
                              have hp2 : ((σx49.2.2.1 166 a) - 1).toInt = yt (XM σx49) a - 1 := as_2 (show -100 ≤ yt (XM σx49) a from by have q := hbl a haD; omega) (show yt (XM σx49) a ≤ 30000 from by have q1 := (hX114_1 a haD).2; have q2 := (hL1e a haD).2.2.2; omega)
                              refine k_X9_212 (pc := 199) (ge_X9_outIn _ _ _ _ hV48 h39) rfl (c_140 _) (by decide) (Nat.le_refl _) (Nat.le_refl _) (Nat.le_of_ble_eq_true rfl) dX9_areSpans_199 (fun w2 h => ?_)
                              obtain ⟨σx59, rfl, hV58, hW60, he61⟩ := h
                              have hW63 := Cor.trans hW53 hW60
                              have hS62 := stM_o (D := D) (c := b9) (m := (3 + 2 * (j114 : Int))) he61 ebc hbD (fun Z hZ _ => by rw [z0_ti]; exact Int.le_trans (((hK65.2.2.2.2.2.2 b9 _ hbD).1 ((hK65.2.2.2.2.2.1 b9 _ hbD).1.mpr (Or.inl rfl))).1) ((hZ.1 b9 hbD).2.2.1 _ ((hK65.2.2.2.2.2.1 b9 _ hbD).1.mpr (Or.inl rfl)))) (fun Z hZ hle => by rw [hp2]; have q1 := (hle a haD).2.2.2; have q2 := ((hZ.2 a haD).2.2.2 b9 hbD hdl).2; omega) (by rw [z0_ti]; omega) (by rw [hp2]; have q := hbl a haD; omega)
                              have hT64 := StM.tr hT54 hS62.1
                              have hB65 := hS62.2.2 hB3
                              have hK66 := lkm_st hK56 hW60 hS62.1.2.2
                              have hL2 := hS62.2.1
                              have hL2e := hS62.1.1.1
                              refine inc_6_3_1_i (pc := 202) dX9_areSpans_202 ?_
                              have r67 : inR ((nI j114) + 1) 1 12 := inR_add (show inR (nI j114) 0 11 from hrg114) (show inR 1 1 1 from (inR_self _)) (by decide) (by decide)
                              have e68 := ti_add (l := 1) (h := 12) (show inR (nI j114) 0 11 from hrg114) (show inR 1 1 1 from (inR_self _)) (by decide) (by decide)
                              refine R_goto (pc := 205) 114 dX9_areSpans_205 (by decide) ?_
                              rw [nI_1]
                              exact ih114 (j114 + 1) _ _ _ (by omega) (by omega) hV58 hW63 ⟨hT64, (hB65.up (by omega))⟩ (ord_0 hX114_1 (LeX.tr hL1e hL2e)) (fun c hc ha => (hX114_2 c hc ha).up ha (LeX.tr hL1e hL2e)) (rlk_s hX114_3 (LeX.tr hL1e hL2e) (fun a2 b2 ha2 hb2 e1 e2 => by have z1 : a2 = a := nI_20 (by have q := (hK65.2.1 a2 ha2).1; omega) (by omega) ((show (σ114.2.2.1 161 (Int32.toNatClampNeg (nI j114))) = nI a2 from by rw [nI_clamp (by omega), congrFun (hC6161) j114]; exact e1).symm.trans eaa); have z2 : b2 = b9 := nI_20 (by have q := (hK65.2.1 b2 hb2).1; omega) (by omega) ((show (σ114.2.2.1 162 (Int32.toNatClampNeg (nI j114))) = nI b2 from by rw [nI_clamp (by omega), congrFun (hC6162) j114]; exact e2).symm.trans ebb); rw [z1, z2]; exact rl_of haD hbD hX114_0.1.1.1 hL1e hL2e hp1 hL1.1 hp2 hL2.2))
                        · skip
                          refine R_ifeq (pc := 153) 202 dX9_areSpans_153 (by decide) (fun _ => ?_) (fun h => absurd (by decide) h)
                          refine inc_6_3_1_i (pc := 202) dX9_areSpans_202 ?_
                          have r70 : inR ((nI j114) + 1) 1 12 := inR_add (show inR (nI j114) 0 11 from hrg114) (show inR 1 1 1 from (inR_self _)) (by decide) (by decide)
                          have e71 := ti_add (l := 1) (h := 12) (show inR (nI j114) 0 11 from hrg114) (show inR 1 1 1 from (inR_self _)) (by decide) (by decide)
                          refine R_goto (pc := 205) 114 dX9_areSpans_205 (by decide) ?_
                          rw [nI_1]
                          exact ih114 (j114 + 1) _ _ _ (by omega) (by omega) hI114 hC114 ⟨hX114_0.1, (hX114_0.2.up (by omega))⟩ hX114_1 hX114_2 (rlk_s hX114_3 (LeX.rfl' D _) (fun a2 b2 ha2 hb2 e1 e2 => absurd (show inR (σ114.2.2.1 162 (Int32.toNatClampNeg (nI j114))) 0 19 ∧ Int32.toNatClampNeg (σ114.2.2.1 162 (Int32.toNatClampNeg (nI j114))) < tm (σ114.1 14000) (σ114.1 14013) (σ114.2.2.1 148) from by have q := AMu_lt (((dtm_lk hD hC114 (fun c hc => by rw [hX114_0.1.2.2]; exact (hK65.2.1 c hc).2.2)).1 b2).symm.trans hb2); rw [(show (σ114.2.2.1 162 (Int32.toNatClampNeg (nI j114))) = nI b2 from by rw [nI_clamp (by omega), congrFun (hC6162) j114]; exact e2), nI_clamp (by omega)]; exact ⟨inR_nI (M := 19) (by omega) (by decide), q.1⟩) h39))
                      · skip
                        refine R_ifeq (pc := 144) 202 dX9_areSpans_144 (by decide) (fun _ => ?_) (fun h => absurd (by decide) h)
                        refine inc_6_3_1_i (pc := 202) dX9_areSpans_202 ?_
                        have r73 : inR ((nI j114) + 1) 1 12 := inR_add (show inR (nI j114) 0 11 from hrg114) (show inR 1 1 1 from (inR_self _)) (by decide) (by decide)
                        have e74 := ti_add (l := 1) (h := 12) (show inR (nI j114) 0 11 from hrg114) (show inR 1 1 1 from (inR_self _)) (by decide) (by decide)
                        refine R_goto (pc := 205) 114 dX9_areSpans_205 (by decide) ?_
                        rw [nI_1]
                        exact ih114 (j114 + 1) _ _ _ (by omega) (by omega) hI114 hC114 ⟨hX114_0.1, (hX114_0.2.up (by omega))⟩ hX114_1 hX114_2 (rlk_s hX114_3 (LeX.rfl' D _) (fun a2 b2 ha2 hb2 e1 e2 => absurd (show inR (σ114.2.2.1 161 (Int32.toNatClampNeg (nI j114))) 0 19 ∧ Int32.toNatClampNeg (σ114.2.2.1 161 (Int32.toNatClampNeg (nI j114))) < tm (σ114.1 14000) (σ114.1 14013) (σ114.2.2.1 148) from by have q := AMu_lt (((dtm_lk hD hC114 (fun c hc => by rw [hX114_0.1.2.2]; exact (hK65.2.1 c hc).2.2)).1 a2).symm.trans ha2); rw [(show (σ114.2.2.1 161 (Int32.toNatClampNeg (nI j114))) = nI a2 from by rw [nI_clamp (by omega), congrFun (hC6161) j114]; exact e1), nI_clamp (by omega)]; exact ⟨inR_nI (M := 19) (by omega) (by decide), q.1⟩) h37))
                exact HL114 12 0 _ _ _ (by omega) (by omega) hI87 hC87 ⟨hX87_0.1, hX87_0.2.up (by omega)⟩ (ord_0 (fun c hc => ⟨by have q := (hbg65 c hc).2.2.1; omega, (hbg65 c hc).2.2.2⟩) hX87_0.1.1.1) (fun c hc ha => hX87_1 c (by have z := (dAm_i hX87K ha).1; have z2 : tm (σ87.1 14000) (σ87.1 14013) (σ87.2.2.1 148) ≤ 20 := (tm_le _ _ _); unfold TMn at z; omega) ha) (fun k hk => absurd hk (by omega))
              | succ q ih87 =>
                intro j87 σ87 hj hs87 hI87 hC87 hX87_0 hX87_1
                have hrg87 : inR (nI j87) 0 19 := inR_ix hs87 (show j87 < 20 by omega) (by decide) (by decide) (by decide)
                have hlt87 : j87 < 20 := by omega
                refine R_iload_n (pc := 87) dX9_areSpans_87 rfl rfl ?_
                refine R_aload_n (pc := 88) dX9_areSpans_88 rfl rfl ?_
                refine k_X9_120 (pc := 89) (ge_X9_thereMany _ hI87) rfl (c_140 _) (by decide) (Nat.le_refl _) (Nat.le_refl _) (Nat.le_of_ble_eq_true rfl) dX9_areSpans_89 (fun x w2 h => ?_)
                obtain ⟨rfl, rfl⟩ := h
                refine R_icge (pc := 92) 112 dX9_areSpans_92 (by decide) (fun b92_75 => ?_) (fun b92_75 => ?_)
                · skip
                  refine R_iconst (pc := 112) (v := 0) dX9_areSpans_112 (by decide) ?_
                  refine st_6_3_i_i (pc := 113) dX9_areSpans_113 ?_
                  have hX87K := (dtm_lk hD hC87 (fun c hc => by rw [hX87_0.1.2.2]; exact (hK65.2.1 c hc).2.2))
                  have HL114 : ∀ (q j114 : Nat) (σ114 : Sg) (g4_114 : Option Value) (g5_114 : Option Value), j114 + q = 12 → 0 ≤ j114 → Inv σ114 → Cor σ σ114 → (StM D (uI σ65 14032 0) σ114 ∧ BnX D (XM σ114) (1 + 2 * (j114 : Int))) → (∀ c, dA D c = true → -1 ≤ yf (XM σ114) c ∧ yt (XM σ114) c ≤ 20000) → (∀ c, c < 20 → dA D c = true → RcM D (XM σ65) (XM σ114) c) → RlK D (σ65.2.2.1 161) (σ65.2.2.1 162) (XM σ65) (XM σ114) j114 → R G l yX9_areSpans cX9_areSpans 6 (some .boolean) 4 0 0 (QI (fun x w2 => ∃ σ2, w2 = WW σ2 ∧ Inv σ2 ∧ Cor σ σ2 ∧ (∀ c, dA D c = true → σ2.2.2.1 152 c = nI (dg D c)) ∧ (x = 1 ∧ Good D (XM σ2) ∨ x = 0 ∧ Bad D))) 114 [(some (.ref 140)), (some (.int u)), (some (.int b)), (some (.int (nI j114))), g4_114, g5_114] [] (WW σ114) 0 0 := by
                    intro q
                    induction q with
                    | zero =>
                      intro j114 σ114 g4_114 g5_114 hj hs114 hI114 hC114 hX114_0 hX114_1 hX114_2 hX114_3
                      obtain rfl : j114 = 12 := by omega
                      have hC6161 : σ114.2.2.1 161 = σ65.2.2.1 161 := (hC114.2.2.1 161 rfl).trans (hC65.2.2.1 161 rfl).symm
                      have hC6162 : σ114.2.2.1 162 = σ65.2.2.1 162 := (hC114.2.2.1 162 rfl).trans (hC65.2.2.1 162 rfl).symm
                      refine R_iload_n (pc := 114) dX9_areSpans_114 rfl rfl ?_
                      refine R_aload_n (pc := 115) dX9_areSpans_115 rfl rfl ?_
                      refine g_X9_201 (pc := 116) (v := .int (σ114.1 14025)) rfl dX9_areSpans_116 (c_140 _) rfl ?_
                      refine R_icge (pc := 119) 208 dX9_areSpans_119 (by decide) (fun _ => ?_) (fun h => absurd (Int32.not_lt.mp (inR_up (iv_14025 hI114) (Int32.le_refl _) (by decide)).2) h)
                      refine R_goto (pc := 208) 65 dX9_areSpans_208 (by decide) ?_
                      have hleE : ∀ Y, Sol D Y → LeX D (XM σ114) Y := fun Y hY => hX114_0.1.1.2 Y hY (hle65 Y hY)
                      have hbgE : Bg D (XM σ114) := bg_up hbg65 hX114_0.1.1.1
                      have hKE := (dtm_lk hD hC114 (fun c hc => by rw [hX114_0.1.2.2]; exact (hK65.2.1 c hc).2.2))
                      rcases hX114_0.1.2.1 with ⟨hz, z1, z2, z3, z4⟩ | ⟨hz, hsc⟩
                      · skip
                        have hsolE : Sol D (XM σ114) := sol_m (X := XM σ65) (fun c hc => ⟨(hbg65 c hc).1, (hbg65 c hc).2.1⟩) hX114_0.1.1 hX114_2 (rlm_of hKE (show RlK D (σ114.2.2.1 161) (σ114.2.2.1 162) (XM σ65) (XM σ114) 12 from by rw [hC6161, hC6162]; exact hX114_3) (clampM (M := 12) (iv_14025 hI114) (by decide))) (fun c hc => (hKE.2.1 c hc).1) (xm_eq (σ := (uI σ65 14032 0)) z1 z2 z3 z4)
                        refine R_aload_n (pc := 65) dX9_areSpans_65 rfl rfl ?_
                        refine g_X9_204 (pc := 66) (v := .int 0) rfl dX9_areSpans_66 (c_140 _) (by show some (Value.int (σ114.1 14032)) = _; rw [hz]; rfl) ?_
                        refine R_ifeq (pc := 69) 211 dX9_areSpans_69 (by decide) (fun _ => ?_) (fun h => absurd (by decide) h)
                        refine R_aload_n (pc := 211) dX9_areSpans_211 rfl rfl ?_
                        refine R_iload_n (pc := 212) dX9_areSpans_212 rfl rfl ?_
                        refine k_X9_221 (pc := 213) (gd_X9_isEmpty _ D u b hI114 hKE) rfl (c_140 _) (by decide) (Nat.le_refl _) (Nat.le_refl _) (Nat.le_of_ble_eq_true rfl) dX9_areSpans_213 (fun x w2 h => ?_)
                        rcases h with ⟨rfl, ⟨rfl, hem2⟩ | ⟨rfl, hne2⟩⟩
                        · skip
                          refine R_ifne (pc := 216) 223 dX9_areSpans_216 (by decide) (fun _ => ?_) (fun h => absurd h (by decide))
                          refine R_iconst (pc := 223) (v := 0) dX9_areSpans_223 (by decide) ?_
                          exact R_iret (pc := 224) dX9_areSpans_224 rfl rfl (Nat.zero_le _) (Nat.zero_le _) ⟨_, rfl, _, rfl, hI114, hC114, (fun c hc => (hKE.2.1 c hc).2.2), Or.inr ⟨rfl, em_bad hleE hem2⟩⟩
                        · skip
                          refine R_ifne (pc := 216) 223 dX9_areSpans_216 (by decide) (fun h => absurd (by decide) h) (fun _ => ?_)
                          refine R_iconst (pc := 219) (v := 1) dX9_areSpans_219 (by decide) ?_
                          refine R_goto (pc := 220) 224 dX9_areSpans_220 (by decide) ?_
                          exact R_iret (pc := 224) dX9_areSpans_224 rfl rfl (Nat.zero_le _) (Nat.zero_le _) ⟨_, rfl, _, rfl, hI114, hC114, (fun c hc => (hKE.2.1 c hc).2.2), Or.inl ⟨rfl, hsolE, hne2, hleE⟩⟩
                      · skip
                        exact ih _ _ _ _ (by have z := phD_lt (D := D) (X := XM σ65) (fun c hc => (hK65.2.1 c hc).1) hX114_0.1.1.1 hsc; omega) hI114 hC114 hKE hleE hbgE hz
                    | succ q ih114 =>
                      intro j114 σ114 g4_114 g5_114 hj hs114 hI114 hC114 hX114_0 hX114_1 hX114_2 hX114_3
                      have hrg114 : inR (nI j114) 0 11 := inR_ix hs114 (show j114 < 12 by omega) (by decide) (by decide) (by decide)
                      have hlt114 : j114 < 12 := by omega
                      have hC6161 : σ114.2.2.1 161 = σ65.2.2.1 161 := (hC114.2.2.1 161 rfl).trans (hC65.2.2.1 161 rfl).symm
                      have hC6162 : σ114.2.2.1 162 = σ65.2.2.1 162 := (hC114.2.2.1 162 rfl).trans (hC65.2.2.1 162 rfl).symm
                      refine R_iload_n (pc := 114) dX9_areSpans_114 rfl rfl ?_
                      refine R_aload_n (pc := 115) dX9_areSpans_115 rfl rfl ?_
                      refine g_X9_201 (pc := 116) (v := .int (σ114.1 14025)) rfl dX9_areSpans_116 (c_140 _) rfl ?_
                      refine R_icge (pc := 119) 208 dX9_areSpans_119 (by decide) (fun b119_80 => ?_) (fun b119_80 => ?_)
                      · skip
                        refine R_goto (pc := 208) 65 dX9_areSpans_208 (by decide) ?_
                        have hleE : ∀ Y, Sol D Y → LeX D (XM σ114) Y := fun Y hY => hX114_0.1.1.2 Y hY (hle65 Y hY)
                        have hbgE : Bg D (XM σ114) := bg_up hbg65 hX114_0.1.1.1
                        have hKE := (dtm_lk hD hC114 (fun c hc => by rw [hX114_0.1.2.2]; exact (hK65.2.1 c hc).2.2))
                        rcases hX114_0.1.2.1 with ⟨hz, z1, z2, z3, z4⟩ | ⟨hz, hsc⟩
                        · skip
                          have hsolE : Sol D (XM σ114) := sol_m (X := XM σ65) (fun c hc => ⟨(hbg65 c hc).1, (hbg65 c hc).2.1⟩) hX114_0.1.1 hX114_2 (rlm_of hKE (show RlK D (σ114.2.2.1 161) (σ114.2.2.1 162) (XM σ65) (XM σ114) j114 from by rw [hC6161, hC6162]; exact hX114_3) (lej_of (iv_14025 hI114) b119_80 (by omega))) (fun c hc => (hKE.2.1 c hc).1) (xm_eq (σ := (uI σ65 14032 0)) z1 z2 z3 z4)
                          refine R_aload_n (pc := 65) dX9_areSpans_65 rfl rfl ?_
                          refine g_X9_204 (pc := 66) (v := .int 0) rfl dX9_areSpans_66 (c_140 _) (by show some (Value.int (σ114.1 14032)) = _; rw [hz]; rfl) ?_
                          refine R_ifeq (pc := 69) 211 dX9_areSpans_69 (by decide) (fun _ => ?_) (fun h => absurd (by decide) h)
                          refine R_aload_n (pc := 211) dX9_areSpans_211 rfl rfl ?_
                          refine R_iload_n (pc := 212) dX9_areSpans_212 rfl rfl ?_
                          refine k_X9_221 (pc := 213) (gd_X9_isEmpty _ D u b hI114 hKE) rfl (c_140 _) (by decide) (Nat.le_refl _) (Nat.le_refl _) (Nat.le_of_ble_eq_true rfl) dX9_areSpans_213 (fun x w2 h => ?_)
                          rcases h with ⟨rfl, ⟨rfl, hem2⟩ | ⟨rfl, hne2⟩⟩
                          · skip
                            refine R_ifne (pc := 216) 223 dX9_areSpans_216 (by decide) (fun _ => ?_) (fun h => absurd h (by decide))
                            refine R_iconst (pc := 223) (v := 0) dX9_areSpans_223 (by decide) ?_
                            exact R_iret (pc := 224) dX9_areSpans_224 rfl rfl (Nat.zero_le _) (Nat.zero_le _) ⟨_, rfl, _, rfl, hI114, hC114, (fun c hc => (hKE.2.1 c hc).2.2), Or.inr ⟨rfl, em_bad hleE hem2⟩⟩
                          · skip
                            refine R_ifne (pc := 216) 223 dX9_areSpans_216 (by decide) (fun h => absurd (by decide) h) (fun _ => ?_)
                            refine R_iconst (pc := 219) (v := 1) dX9_areSpans_219 (by decide) ?_
                            refine R_goto (pc := 220) 224 dX9_areSpans_220 (by decide) ?_
                            exact R_iret (pc := 224) dX9_areSpans_224 rfl rfl (Nat.zero_le _) (Nat.zero_le _) ⟨_, rfl, _, rfl, hI114, hC114, (fun c hc => (hKE.2.1 c hc).2.2), Or.inl ⟨rfl, hsolE, hne2, hleE⟩⟩
                        · skip
                          exact ih _ _ _ _ (by have z := phD_lt (D := D) (X := XM σ65) (fun c hc => (hK65.2.1 c hc).1) hX114_0.1.1.1 hsc; omega) hI114 hC114 hKE hleE hbgE hz
                      · skip
                        refine R_aload_n (pc := 122) dX9_areSpans_122 rfl rfl ?_
                        refine g_X9_81 (pc := 123) (v := .ref 161) rfl dX9_areSpans_123 (c_140 _) rfl ?_
                        refine R_iload_n (pc := 126) dX9_areSpans_126 rfl rfl ?_
                        have hx84 : vp_in (nI j114) 12 := (vp_in_nI (by omega) (by decide))
                        refine R_iaload (pc := 127) dX9_areSpans_127 (c_161 _) hx84 ?_
                        refine st_6_4_i_i (pc := 128) dX9_areSpans_128 ?_
                        refine R_aload_n (pc := 130) dX9_areSpans_130 rfl rfl ?_
                        refine g_X9_84 (pc := 131) (v := .ref 162) rfl dX9_areSpans_131 (c_140 _) rfl ?_
                        refine R_iload_n (pc := 134) dX9_areSpans_134 rfl rfl ?_
                        have hx85 : vp_in (nI j114) 12 := (vp_in_nI (by omega) (by decide))
                        refine R_iaload (pc := 135) dX9_areSpans_135 (c_162 _) hx85 ?_
                        refine st_6_5_i_i (pc := 136) dX9_areSpans_136 ?_
                        refine R_aload_n (pc := 138) dX9_areSpans_138 rfl rfl ?_
                        refine R_iload (pc := 139) dX9_areSpans_139 rfl ?_
                        refine k_X9_135 (pc := 141) (ge_X9_isThere _ _ hI114) rfl (c_140 _) (by decide) (Nat.le_refl _) (Nat.le_refl _) (Nat.le_of_ble_eq_true rfl) dX9_areSpans_141 (fun x w2 h => ?_)
                        rcases h with ⟨rfl, ⟨h86, h86b, rfl⟩ | ⟨h86, rfl⟩⟩
                        · skip
                          refine R_ifeq (pc := 144) 202 dX9_areSpans_144 (by decide) (fun h => absurd h (by decide)) (fun _ => ?_)
                          refine R_aload_n (pc := 147) dX9_areSpans_147 rfl rfl ?_
                          refine R_iload (pc := 148) dX9_areSpans_148 rfl ?_
                          refine k_X9_135 (pc := 150) (ge_X9_isThere _ _ hI114) rfl (c_140 _) (by decide) (Nat.le_refl _) (Nat.le_refl _) (Nat.le_of_ble_eq_true rfl) dX9_areSpans_150 (fun x w2 h => ?_)
                          rcases h with ⟨rfl, ⟨h88, h88b, rfl⟩ | ⟨h88, rfl⟩⟩
                          · skip
                            refine R_ifeq (pc := 153) 202 dX9_areSpans_153 (by decide) (fun h => absurd h (by decide)) (fun _ => ?_)
                            refine R_iload (pc := 156) dX9_areSpans_156 rfl ?_
                            refine R_iload_n (pc := 158) dX9_areSpans_158 rfl rfl ?_
                            refine R_iceq (pc := 159) 202 dX9_areSpans_159 (by decide) (fun b159_90 => ?_) (fun b159_90 => ?_)
                            · skip
                              refine inc_6_3_1_i (pc := 202) dX9_areSpans_202 ?_
                              have r91 : inR ((nI j114) + 1) 1 12 := inR_add (show inR (nI j114) 0 11 from hrg114) (show inR 1 1 1 from (inR_self _)) (by decide) (by decide)
                              have e92 := ti_add (l := 1) (h := 12) (show inR (nI j114) 0 11 from hrg114) (show inR 1 1 1 from (inR_self _)) (by decide) (by decide)
                              refine R_goto (pc := 205) 114 dX9_areSpans_205 (by decide) ?_
                              rw [nI_1]
                              exact ih114 (j114 + 1) _ _ _ (by omega) (by omega) hI114 hC114 ⟨hX114_0.1, (hX114_0.2.up (by omega))⟩ hX114_1 hX114_2 (rlk_s hX114_3 (LeX.rfl' D _) (fun a2 b2 ha2 hb2 e1 e2 => absurd ((show (σ114.2.2.1 161 (Int32.toNatClampNeg (nI j114))) = nI a2 from by rw [nI_clamp (by omega), congrFun (hC6161) j114]; exact e1).symm.trans b159_90) (dAm_i (dtm_lk hD hC114 (fun c hc => by rw [hX114_0.1.2.2]; exact (hK65.2.1 c hc).2.2)) ha2).2))
                            · skip
                              refine R_iload (pc := 162) dX9_areSpans_162 rfl ?_
                              refine R_iload_n (pc := 164) dX9_areSpans_164 rfl rfl ?_
                              refine R_iceq (pc := 165) 202 dX9_areSpans_165 (by decide) (fun b165_93 => ?_) (fun b165_93 => ?_)
                              · skip
                                refine inc_6_3_1_i (pc := 202) dX9_areSpans_202 ?_
                                have r94 : inR ((nI j114) + 1) 1 12 := inR_add (show inR (nI j114) 0 11 from hrg114) (show inR 1 1 1 from (inR_self _)) (by decide) (by decide)
                                have e95 := ti_add (l := 1) (h := 12) (show inR (nI j114) 0 11 from hrg114) (show inR 1 1 1 from (inR_self _)) (by decide) (by decide)
                                refine R_goto (pc := 205) 114 dX9_areSpans_205 (by decide) ?_
                                rw [nI_1]
                                exact ih114 (j114 + 1) _ _ _ (by omega) (by omega) hI114 hC114 ⟨hX114_0.1, (hX114_0.2.up (by omega))⟩ hX114_1 hX114_2 (rlk_s hX114_3 (LeX.rfl' D _) (fun a2 b2 ha2 hb2 e1 e2 => absurd ((show (σ114.2.2.1 162 (Int32.toNatClampNeg (nI j114))) = nI b2 from by rw [nI_clamp (by omega), congrFun (hC6162) j114]; exact e2).symm.trans b165_93) (dAm_i (dtm_lk hD hC114 (fun c hc => by rw [hX114_0.1.2.2]; exact (hK65.2.1 c hc).2.2)) hb2).2))
                              · skip
                                obtain ⟨a, ha20, eaa⟩ := nI_in20 h86
                                obtain ⟨b9, hb20, ebb⟩ := nI_in20 h88
                                have eac : Int32.toNatClampNeg (σ114.2.2.1 161 (Int32.toNatClampNeg (nI j114))) = a := by rw [eaa, nI_clamp (by omega)]
                                have ebc : Int32.toNatClampNeg (σ114.2.2.1 162 (Int32.toNatClampNeg (nI j114))) = b9 := by rw [ebb, nI_clamp (by omega)]
                                have haD : dA D a = true := dAm_t (dtm_lk hD hC114 (fun c hc => by rw [hX114_0.1.2.2]; exact (hK65.2.1 c hc).2.2)) (by have q := h86b; rw [eac] at q; exact q) (fun e => b159_90 (eaa.trans e))
                                have hbD : dA D b9 = true := dAm_t (dtm_lk hD hC114 (fun c hc => by rw [hX114_0.1.2.2]; exact (hK65.2.1 c hc).2.2)) (by have q := h88b; rw [ebc] at q; exact q) (fun e => b165_93 (ebb.trans e))
                                have hdl : dL D a b9 := ((dtm_lk hD hC114 (fun c hc => by rw [hX114_0.1.2.2]; exact (hK65.2.1 c hc).2.2)).2.2.2.2.1 a b9 haD hbD).mpr ⟨j114, ltj_of (iv_14025 hI114) (show nI j114 < σ114.1 14025 from (Int32.not_le.mp b119_80)) (by omega), (by have q := eaa; rw [nI_clamp (by omega)] at q; exact q), (by have q := ebb; rw [nI_clamp (by omega)] at q; exact q)⟩
                                refine R_aload_n (pc := 168) dX9_areSpans_168 rfl rfl ?_
                                refine R_iload (pc := 169) dX9_areSpans_169 rfl ?_
                                refine R_aload_n (pc := 171) dX9_areSpans_171 rfl rfl ?_
                                refine g_X9_93 (pc := 172) (v := .ref 165) rfl dX9_areSpans_172 (c_140 _) rfl ?_
                                refine R_iload (pc := 175) dX9_areSpans_175 rfl ?_
                                have hx96 : vp_in (σ114.2.2.1 162 (Int32.toNatClampNeg (nI j114))) 20 := (vp_of_inR h88 (by decide))
                                refine R_iaload (pc := 177) dX9_areSpans_177 (c_165 _) hx96 ?_
                                refine R_cv (σ114.2.2.1 165 b9) (by rw [ebc]) ?_
                                refine R_iconst (pc := 178) (v := 1) dX9_areSpans_178 (by decide) ?_
                                refine R_iadd (pc := 179) dX9_areSpans_179 ?_
                                refine R_sipush (pc := 180) (v := 20000) dX9_areSpans_180 (by decide) ?_
                                have hB2 : BnX D (XM σ114) (2 + 2 * (j114 : Int)) := hX114_0.2.up (by omega)
                                have hp1 : ((σ114.2.2.1 165 b9) + 1).toInt = yf (XM σ114) b9 + 1 := as_1 (show -100 ≤ yf (XM σ114) b9 from by have q := (hX114_1 b9 hbD).1; omega) (show yf (XM σ114) b9 ≤ 30000 from by have q := (hB2 b9 hbD).2.2.1; omega)
                                refine k_X9_212 (pc := 183) (ge_X9_outIn _ _ _ _ hI114 h86) rfl (c_140 _) (by decide) (Nat.le_refl _) (Nat.le_refl _) (Nat.le_of_ble_eq_true rfl) dX9_areSpans_183 (fun w2 h => ?_)
                                obtain ⟨σx98, rfl, hV97, hW99, he100⟩ := h
                                have hW102 := Cor.trans hC114 hW99
                                have hS101 := stM_o (D := D) (c := a) (m := (2 + 2 * (j114 : Int))) he100 eac haD (fun Z hZ hle => by rw [hp1]; have q1 := (hle b9 hbD).2.2.1; have q2 := ((hZ.2 a haD).2.2.2 b9 hbD hdl).1; omega) (fun Z hZ _ => by rw [z2_ti]; exact Int.le_trans ((hZ.1 a haD).2.2.2 _ ((hK65.2.2.2.2.2.1 a _ haD).2.mpr (Or.inl rfl))) (((hK65.2.2.2.2.2.2 a _ haD).2 ((hK65.2.2.2.2.2.1 a _ haD).2.mpr (Or.inl rfl))).2)) (by rw [hp1]; have q1 := (hX114_0.2 b9 hbD).2.2.1; omega) (by rw [z2_ti]; omega)
                                have hT103 := StM.tr hX114_0.1 hS101.1
                                have hB104 := hS101.2.2 hB2
                                have hK105 := lkm_st (dtm_lk hD hC114 (fun c hc => by rw [hX114_0.1.2.2]; exact (hK65.2.1 c hc).2.2)) hW99 hS101.1.2.2
                                have hL1 := hS101.2.1
                                have hL1e := hS101.1.1.1
                                refine R_aload_n (pc := 186) dX9_areSpans_186 rfl rfl ?_
                                refine R_iload (pc := 187) dX9_areSpans_187 rfl ?_
                                refine R_iconst (pc := 189) (v := 0) dX9_areSpans_189 (by decide) ?_
                                refine R_aload_n (pc := 190) dX9_areSpans_190 rfl rfl ?_
                                refine g_X9_96 (pc := 191) (v := .ref 166) rfl dX9_areSpans_191 (c_140 _) rfl ?_
                                refine R_iload (pc := 194) dX9_areSpans_194 rfl ?_
                                have hx106 : vp_in (σ114.2.2.1 161 (Int32.toNatClampNeg (nI j114))) 20 := (vp_of_inR h86 (by decide))
                                refine R_iaload (pc := 196) dX9_areSpans_196 (c_166 _) hx106 ?_
                                refine R_cv (σx98.2.2.1 166 a) (by rw [eac]) ?_
                                refine R_iconst (pc := 197) (v := 1) dX9_areSpans_197 (by decide) ?_
                                refine R_isub (pc := 198) dX9_areSpans_198 ?_
                                have hbl : ∀ c, dA D c = true → -(2 + 2 * (j114 : Int)) ≤ yt (XM σx98) c := fun c hc => (hB104 c hc).2.2.2
                                have hB3 : BnX D (XM σx98) (3 + 2 * (j114 : Int)) := hB104.up (by omega)
                                have hp2 : ((σx98.2.2.1 166 a) - 1).toInt = yt (XM σx98) a - 1 := as_2 (show -100 ≤ yt (XM σx98) a from by have q := hbl a haD; omega) (show yt (XM σx98) a ≤ 30000 from by have q1 := (hX114_1 a haD).2; have q2 := (hL1e a haD).2.2.2; omega)
                                refine k_X9_212 (pc := 199) (ge_X9_outIn _ _ _ _ hV97 h88) rfl (c_140 _) (by decide) (Nat.le_refl _) (Nat.le_refl _) (Nat.le_of_ble_eq_true rfl) dX9_areSpans_199 (fun w2 h => ?_)
                                obtain ⟨σx108, rfl, hV107, hW109, he110⟩ := h
                                have hW112 := Cor.trans hW102 hW109
                                have hS111 := stM_o (D := D) (c := b9) (m := (3 + 2 * (j114 : Int))) he110 ebc hbD (fun Z hZ _ => by rw [z0_ti]; exact Int.le_trans (((hK65.2.2.2.2.2.2 b9 _ hbD).1 ((hK65.2.2.2.2.2.1 b9 _ hbD).1.mpr (Or.inl rfl))).1) ((hZ.1 b9 hbD).2.2.1 _ ((hK65.2.2.2.2.2.1 b9 _ hbD).1.mpr (Or.inl rfl)))) (fun Z hZ hle => by rw [hp2]; have q1 := (hle a haD).2.2.2; have q2 := ((hZ.2 a haD).2.2.2 b9 hbD hdl).2; omega) (by rw [z0_ti]; omega) (by rw [hp2]; have q := hbl a haD; omega)
                                have hT113 := StM.tr hT103 hS111.1
                                have hB114 := hS111.2.2 hB3
                                have hK115 := lkm_st hK105 hW109 hS111.1.2.2
                                have hL2 := hS111.2.1
                                have hL2e := hS111.1.1.1
                                refine inc_6_3_1_i (pc := 202) dX9_areSpans_202 ?_
                                have r116 : inR ((nI j114) + 1) 1 12 := inR_add (show inR (nI j114) 0 11 from hrg114) (show inR 1 1 1 from (inR_self _)) (by decide) (by decide)
                                have e117 := ti_add (l := 1) (h := 12) (show inR (nI j114) 0 11 from hrg114) (show inR 1 1 1 from (inR_self _)) (by decide) (by decide)
                                refine R_goto (pc := 205) 114 dX9_areSpans_205 (by decide) ?_
                                rw [nI_1]
                                exact ih114 (j114 + 1) _ _ _ (by omega) (by omega) hV107 hW112 ⟨hT113, (hB114.up (by omega))⟩ (ord_0 hX114_1 (LeX.tr hL1e hL2e)) (fun c hc ha => (hX114_2 c hc ha).up ha (LeX.tr hL1e hL2e)) (rlk_s hX114_3 (LeX.tr hL1e hL2e) (fun a2 b2 ha2 hb2 e1 e2 => by have z1 : a2 = a := nI_20 (by have q := (hK65.2.1 a2 ha2).1; omega) (by omega) ((show (σ114.2.2.1 161 (Int32.toNatClampNeg (nI j114))) = nI a2 from by rw [nI_clamp (by omega), congrFun (hC6161) j114]; exact e1).symm.trans eaa); have z2 : b2 = b9 := nI_20 (by have q := (hK65.2.1 b2 hb2).1; omega) (by omega) ((show (σ114.2.2.1 162 (Int32.toNatClampNeg (nI j114))) = nI b2 from by rw [nI_clamp (by omega), congrFun (hC6162) j114]; exact e2).symm.trans ebb); rw [z1, z2]; exact rl_of haD hbD hX114_0.1.1.1 hL1e hL2e hp1 hL1.1 hp2 hL2.2))
                          · skip
                            refine R_ifeq (pc := 153) 202 dX9_areSpans_153 (by decide) (fun _ => ?_) (fun h => absurd (by decide) h)
                            refine inc_6_3_1_i (pc := 202) dX9_areSpans_202 ?_
                            have r119 : inR ((nI j114) + 1) 1 12 := inR_add (show inR (nI j114) 0 11 from hrg114) (show inR 1 1 1 from (inR_self _)) (by decide) (by decide)
                            have e120 := ti_add (l := 1) (h := 12) (show inR (nI j114) 0 11 from hrg114) (show inR 1 1 1 from (inR_self _)) (by decide) (by decide)
                            refine R_goto (pc := 205) 114 dX9_areSpans_205 (by decide) ?_
                            rw [nI_1]
                            exact ih114 (j114 + 1) _ _ _ (by omega) (by omega) hI114 hC114 ⟨hX114_0.1, (hX114_0.2.up (by omega))⟩ hX114_1 hX114_2 (rlk_s hX114_3 (LeX.rfl' D _) (fun a2 b2 ha2 hb2 e1 e2 => absurd (show inR (σ114.2.2.1 162 (Int32.toNatClampNeg (nI j114))) 0 19 ∧ Int32.toNatClampNeg (σ114.2.2.1 162 (Int32.toNatClampNeg (nI j114))) < tm (σ114.1 14000) (σ114.1 14013) (σ114.2.2.1 148) from by have q := AMu_lt (((dtm_lk hD hC114 (fun c hc => by rw [hX114_0.1.2.2]; exact (hK65.2.1 c hc).2.2)).1 b2).symm.trans hb2); rw [(show (σ114.2.2.1 162 (Int32.toNatClampNeg (nI j114))) = nI b2 from by rw [nI_clamp (by omega), congrFun (hC6162) j114]; exact e2), nI_clamp (by omega)]; exact ⟨inR_nI (M := 19) (by omega) (by decide), q.1⟩) h88))
                        · skip
                          refine R_ifeq (pc := 144) 202 dX9_areSpans_144 (by decide) (fun _ => ?_) (fun h => absurd (by decide) h)
                          refine inc_6_3_1_i (pc := 202) dX9_areSpans_202 ?_
                          have r122 : inR ((nI j114) + 1) 1 12 := inR_add (show inR (nI j114) 0 11 from hrg114) (show inR 1 1 1 from (inR_self _)) (by decide) (by decide)
                          have e123 := ti_add (l := 1) (h := 12) (show inR (nI j114) 0 11 from hrg114) (show inR 1 1 1 from (inR_self _)) (by decide) (by decide)
                          refine R_goto (pc := 205) 114 dX9_areSpans_205 (by decide) ?_
                          rw [nI_1]
                          exact ih114 (j114 + 1) _ _ _ (by omega) (by omega) hI114 hC114 ⟨hX114_0.1, (hX114_0.2.up (by omega))⟩ hX114_1 hX114_2 (rlk_s hX114_3 (LeX.rfl' D _) (fun a2 b2 ha2 hb2 e1 e2 => absurd (show inR (σ114.2.2.1 161 (Int32.toNatClampNeg (nI j114))) 0 19 ∧ Int32.toNatClampNeg (σ114.2.2.1 161 (Int32.toNatClampNeg (nI j114))) < tm (σ114.1 14000) (σ114.1 14013) (σ114.2.2.1 148) from by have q := AMu_lt (((dtm_lk hD hC114 (fun c hc => by rw [hX114_0.1.2.2]; exact (hK65.2.1 c hc).2.2)).1 a2).symm.trans ha2); rw [(show (σ114.2.2.1 161 (Int32.toNatClampNeg (nI j114))) = nI a2 from by rw [nI_clamp (by omega), congrFun (hC6161) j114]; exact e1), nI_clamp (by omega)]; exact ⟨inR_nI (M := 19) (by omega) (by decide), q.1⟩) h86))
                  exact HL114 12 0 _ _ _ (by omega) (by omega) hI87 hC87 ⟨hX87_0.1, hX87_0.2.up (by omega)⟩ (ord_0 (fun c hc => ⟨by have q := (hbg65 c hc).2.2.1; omega, (hbg65 c hc).2.2.2⟩) hX87_0.1.1.1) (fun c hc ha => hX87_1 c (by have z := (dAm_i hX87K ha).1; have z2 : tm (σ87.1 14000) (σ87.1 14013) (σ87.2.2.1 148) ≤ j87 := (tm_leJ (by omega) b92_75); unfold TMn at z; omega) ha) (fun k hk => absurd hk (by omega))
                · skip
                  refine R_iload_n (pc := 95) dX9_areSpans_95 rfl rfl ?_
                  refine R_iload_n (pc := 96) dX9_areSpans_96 rfl rfl ?_
                  refine R_iceq (pc := 97) 106 dX9_areSpans_97 (by decide) (fun b97_124 => ?_) (fun b97_124 => ?_)
                  · skip
                    refine inc_6_3_1_i (pc := 106) dX9_areSpans_106 ?_
                    have r125 : inR ((nI j87) + 1) 1 20 := inR_add (show inR (nI j87) 0 19 from hrg87) (show inR 1 1 1 from (inR_self _)) (by decide) (by decide)
                    have e126 := ti_add (l := 1) (h := 20) (show inR (nI j87) 0 19 from hrg87) (show inR 1 1 1 from (inR_self _)) (by decide) (by decide)
                    refine R_goto (pc := 109) 87 dX9_areSpans_109 (by decide) ?_
                    rw [nI_1]
                    exact ih87 (j87 + 1) _ (by omega) (by omega) hI87 hC87 ⟨hX87_0.1, hX87_0.2⟩ (rcm_s hX87_1 (LeX.rfl' D _) (fun q => absurd (q.symm.trans (dAm_f hK65 b97_124)) (by decide)))
                  · skip
                    have hA9 : dA D j87 = true := dAm_t (dtm_lk hD hC87 (fun c hc => by rw [hX87_0.1.2.2]; exact (hK65.2.1 c hc).2.2)) (tm_ltJ (by omega) b92_75) b97_124
                    refine R_aload_n (pc := 100) dX9_areSpans_100 rfl rfl ?_
                    refine R_iload_n (pc := 101) dX9_areSpans_101 rfl rfl ?_
                    refine R_iload_n (pc := 102) dX9_areSpans_102 rfl rfl ?_
                    refine k_X9_224 (pc := 103) (gd_X9_narrow _ D u b j87 hI87 (dtm_lk hD hC87 (fun c hc => by rw [hX87_0.1.2.2]; exact (hK65.2.1 c hc).2.2)) hX87_0.2 hA9) rfl (c_140 _) (by decide) (Nat.le_refl _) (Nat.le_refl _) (Nat.le_of_ble_eq_true rfl) dX9_areSpans_103 (fun w2 h => ?_)
                    obtain ⟨σx128, rfl, hV127, hW129, hSf, hBf, hRc⟩ := h
                    have hW130 := Cor.trans hC87 hW129
                    have hKf := lkm_st (dtm_lk hD hC87 (fun c hc => by rw [hX87_0.1.2.2]; exact (hK65.2.1 c hc).2.2)) hW129 hSf.2.2
                    refine inc_6_3_1_i (pc := 106) dX9_areSpans_106 ?_
                    have r131 : inR ((nI j87) + 1) 1 20 := inR_add (show inR (nI j87) 0 19 from hrg87) (show inR 1 1 1 from (inR_self _)) (by decide) (by decide)
                    have e132 := ti_add (l := 1) (h := 20) (show inR (nI j87) 0 19 from hrg87) (show inR 1 1 1 from (inR_self _)) (by decide) (by decide)
                    refine R_goto (pc := 109) 87 dX9_areSpans_109 (by decide) ?_
                    rw [nI_1]
                    exact ih87 (j87 + 1) _ (by omega) (by omega) hV127 hW130 ⟨(StM.tr hX87_0.1 hSf), hBf⟩ (rcm_s hX87_1 hSf.1.1 (fun _ => hRc.dn hA9 hX87_0.1.1.1 hSf.1.1))
            exact HL87 20 0 _ (by omega) (by omega) hI65 hW25 ⟨StM.rfl' D _, (show BnX D (XM σ65) 1 from bn_of hbg65 (LeX.rfl' D _) hne1)⟩ (fun c hc => absurd hc (by omega))
      exact HL 800001 _ _ _ _ hi0.2.2 hI16 hW15 hK0 hi0.1 hi0.2.1 rfl
    | succ q ih16 =>
      intro j16 σ16 hj hs16 hI16 hC16 hX16_0 hX16_1
      have hrg16 : inR (nI j16) 0 19 := inR_ix hs16 (show j16 < 20 by omega) (by decide) (by decide) (by decide)
      have hlt16 : j16 < 20 := by omega
      refine R_iload_n (pc := 16) dX9_areSpans_16 rfl rfl ?_
      refine R_bipush (pc := 17) (v := 20) dX9_areSpans_17 (by decide) ?_
      refine R_icge (pc := 19) 60 dX9_areSpans_19 (by decide) (fun h => False.elim (by have q1 := ti_le h; have q2 := ti_in (show inR (nI j16) 0 19 from hrg16); have q3 := ti_in (show inR 20 20 20 from (inR_self _)); have z0 : (0 : Int32).toInt = 0 := (by decide);  have z1 : (19 : Int32).toInt = 19 := (by decide);  have z2 : (20 : Int32).toInt = 20 := (by decide); omega)) (fun _ => ?_)
      refine R_aload_n (pc := 22) dX9_areSpans_22 rfl rfl ?_
      refine g_X9_87 (pc := 23) (v := .ref 163) rfl dX9_areSpans_23 (c_140 _) rfl ?_
      refine R_iload_n (pc := 26) dX9_areSpans_26 rfl rfl ?_
      refine R_iconst (pc := 27) (v := 0) dX9_areSpans_27 (by decide) ?_
      have hx134 : vp_in (nI j16) 20 := (vp_in_nI (by omega) (by decide))
      refine W_iastore (pc := 28) dX9_areSpans_28 (c_163 _) hx134 (a_163 _ _) ?_
      have hW135 := cor_sa 163 (upd (σ16.2.2.1 163) (Int32.toNatClampNeg (nI j16)) 0) hC16 rfl
      refine R_aload_n (pc := 29) dX9_areSpans_29 rfl rfl ?_
      refine g_X9_90 (pc := 30) (v := .ref 164) rfl dX9_areSpans_30 (c_140 _) rfl ?_
      refine R_iload_n (pc := 33) dX9_areSpans_33 rfl rfl ?_
      refine R_sipush (pc := 34) (v := 20000) dX9_areSpans_34 (by decide) ?_
      have hx136 : vp_in (nI j16) 20 := (vp_in_nI (by omega) (by decide))
      refine W_iastore (pc := 37) dX9_areSpans_37 (c_164 _) hx136 (a_164 _ _) ?_
      have hW137 := cor_sa 164 (upd ((uA σ16 163 (upd (σ16.2.2.1 163) (Int32.toNatClampNeg (nI j16)) 0)).2.2.1 164) (Int32.toNatClampNeg (nI j16)) 20000) hW135 rfl
      refine R_aload_n (pc := 38) dX9_areSpans_38 rfl rfl ?_
      refine g_X9_93 (pc := 39) (v := .ref 165) rfl dX9_areSpans_39 (c_140 _) rfl ?_
      refine R_iload_n (pc := 42) dX9_areSpans_42 rfl rfl ?_
      refine R_iconst (pc := 43) (v := 0) dX9_areSpans_43 (by decide) ?_
      have hx138 : vp_in (nI j16) 20 := (vp_in_nI (by omega) (by decide))
      refine W_iastore (pc := 44) dX9_areSpans_44 (c_165 _) hx138 (a_165 _ _) ?_
      have hW139 := cor_sa 165 (upd ((uA (uA σ16 163 (upd (σ16.2.2.1 163) (Int32.toNatClampNeg (nI j16)) 0)) 164 (upd ((uA σ16 163 (upd (σ16.2.2.1 163) (Int32.toNatClampNeg (nI j16)) 0)).2.2.1 164) (Int32.toNatClampNeg (nI j16)) 20000)).2.2.1 165) (Int32.toNatClampNeg (nI j16)) 0) hW137 rfl
      refine R_aload_n (pc := 45) dX9_areSpans_45 rfl rfl ?_
      refine g_X9_96 (pc := 46) (v := .ref 166) rfl dX9_areSpans_46 (c_140 _) rfl ?_
      refine R_iload_n (pc := 49) dX9_areSpans_49 rfl rfl ?_
      refine R_sipush (pc := 50) (v := 20000) dX9_areSpans_50 (by decide) ?_
      have hx140 : vp_in (nI j16) 20 := (vp_in_nI (by omega) (by decide))
      refine W_iastore (pc := 53) dX9_areSpans_53 (c_166 _) hx140 (a_166 _ _) ?_
      have hW141 := cor_sa 166 (upd ((uA (uA (uA σ16 163 (upd (σ16.2.2.1 163) (Int32.toNatClampNeg (nI j16)) 0)) 164 (upd ((uA σ16 163 (upd (σ16.2.2.1 163) (Int32.toNatClampNeg (nI j16)) 0)).2.2.1 164) (Int32.toNatClampNeg (nI j16)) 20000)) 165 (upd ((uA (uA σ16 163 (upd (σ16.2.2.1 163) (Int32.toNatClampNeg (nI j16)) 0)) 164 (upd ((uA σ16 163 (upd (σ16.2.2.1 163) (Int32.toNatClampNeg (nI j16)) 0)).2.2.1 164) (Int32.toNatClampNeg (nI j16)) 20000)).2.2.1 165) (Int32.toNatClampNeg (nI j16)) 0)).2.2.1 166) (Int32.toNatClampNeg (nI j16)) 20000) hW139 rfl
      refine inc_6_3_1_i (pc := 54) dX9_areSpans_54 ?_
      have r142 : inR ((nI j16) + 1) 1 20 := inR_add (show inR (nI j16) 0 19 from hrg16) (show inR 1 1 1 from (inR_self _)) (by decide) (by decide)
      have e143 := ti_add (l := 1) (h := 20) (show inR (nI j16) 0 19 from hrg16) (show inR 1 1 1 from (inR_self _)) (by decide) (by decide)
      refine R_goto (pc := 57) 16 dX9_areSpans_57 (by decide) ?_
      rw [nI_1]
      exact ih16 (j16 + 1) _ (by omega) (by omega) hI16 hW141 (ini_s hX16_0 (by omega)) hX16_1
  exact HL16 20 0 _ (by omega) (by omega) hV7 hW12 (ini_0 _) hld
