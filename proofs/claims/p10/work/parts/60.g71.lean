/-! methods on any state that keeps the invariant -/
/-- only the arrays of P have changed -/
def Fq (P : Nat → Bool) (σ τ : Sg) : Prop := τ.1 = σ.1 ∧ τ.2.1 = σ.2.1 ∧ (∀ p : Nat, P p = false → τ.2.2.1 p = σ.2.2.1 p) ∧ τ.2.2.2 = σ.2.2.2
theorem fq_rfl (P : Nat → Bool) (σ : Sg) : Fq P σ σ := ⟨rfl, rfl, fun _ _ => rfl, rfl⟩
theorem fq_a {P : Nat → Bool} {σ τ : Sg} (p : Nat) (f : Nat → Int32) (h : Fq P σ τ) (hp : P p = true) : Fq P σ (uA τ p f) := by
  refine ⟨h.1, h.2.1, fun q hq => ?_, h.2.2.2⟩
  show va_up τ.2.2.1 p f q = _
  rw [up_ne _ (fun e => by rw [e, hp] at hq; cases hq)]
  exact h.2.2.1 q hq
theorem fq_trans {P : Nat → Bool} {σ τ υ : Sg} (h : Fq P σ τ) (k : Fq P τ υ) : Fq P σ υ := ⟨k.1.trans h.1, k.2.1.trans h.2.1, fun q hq => (k.2.2.1 q hq).trans (h.2.2.1 q hq), k.2.2.2.trans h.2.2.2⟩
theorem fq_up {P Q : Nat → Bool} {σ τ : Sg} (h : Fq P σ τ) (hPQ : ∀ p, Q p = false → P p = false) : Fq Q σ τ := ⟨h.1, h.2.1, fun q hq => h.2.2.1 q (hPQ q hq), h.2.2.2⟩
def fqF (p : Nat) : Bool := p == 154 || p == 155
def wM (σ : Sg) (c : Int32) : Nat → Int32 := fun i => σ.2.2.1 150 (8 * Int32.toNatClampNeg c + i)
theorem ix8 {c : Int32} {j : Nat} (hc : inR c 0 19) (h1 : 1 ≤ j) (h2 : j ≤ 8) : Int32.toNatClampNeg (((8 * c) + nI j) - 1) = 8 * Int32.toNatClampNeg c + (j - 1) := by
  rw [Int32.sub_eq_add_neg, Int32.add_assoc, ← Int32.sub_eq_add_neg, nI_p h1]
  exact idx8n hc (by omega)
theorem cost_t0 {f g : Nat → Int32} {i j : Nat} {u : Int32} (e : f i = g j) (hu : u = nI (lev f g i j)) : u + 0 = nI (lev f g i j + (bif decide (f i = g j) then 0 else 1)) := (Int32.add_zero u).trans (cost_t e hu)
theorem lj_0 {f g : Nat → Int32} {r : Nat → Int32} {i n : Nat} (hi : 1 ≤ i) : ∀ k : Nat, k < 1 → k ≤ n → upd r (Int32.toNatClampNeg 0) (nI i) k = nI (lev f g (i - 1 + 1) k) := by
  intro k hk _
  obtain rfl : k = 0 := by omega
  show upd r 0 (nI i) 0 = _
  rw [upd_at, lev_z]
  congr 1
  omega
theorem lj_s {f g : Nat → Int32} {r : Nat → Int32} {i j n : Nat} {v : Int32} (hj : 1 ≤ j) (hj2 : j < 100) (h : ∀ k : Nat, k < j → k ≤ n → r k = nI (lev f g (i - 1 + 1) k)) (hv : v = nI (lev f g (i - 1 + 1) (j - 1 + 1))) : ∀ k : Nat, k < j + 1 → k ≤ n → upd r (Int32.toNatClampNeg (nI j)) v k = nI (lev f g (i - 1 + 1) k) := by
  intro k hk hn
  rw [nI_clamp (by omega)]
  by_cases e : k = j
  · subst e; rw [upd_at, hv, show k - 1 + 1 = k by omega]
  · rw [upd_ne _ e]; exact h k (by omega) hn
theorem li_s0 {f g : Nat → Int32} {r : Nat → Int32} {i j n : Nat} {v : Int32} (hj2 : j < 100) (h : ∀ k : Nat, k ≤ n → r k = nI (levM f g (i - 1) j k)) (hv : v = nI (lev f g (i - 1 + 1) j)) : ∀ k : Nat, k ≤ n → upd r (Int32.toNatClampNeg (nI j)) v k = nI (levM f g (i - 1) (j + 1) k) := by
  intro k hk
  rw [nI_clamp (by omega)]
  by_cases e : k = j
  · subst e
    rw [upd_at, hv]
    unfold levM
    rw [if_pos (by omega)]
  · rw [upd_ne _ e, h k hk]
    unfold levM
    by_cases q : k < j
    · rw [if_pos q, if_pos (by omega)]
    · rw [if_neg q, if_neg (by omega)]
set_option maxRecDepth 100000 in
set_option maxHeartbeats 40000000 in
theorem gn_X9_farOf {G : vG} {l : Launch} (σ : Sg) (a b : Int32) (hI : Inv σ) (ha : inR a 0 19) (hb : inR b 0 19) : Sp G l yX9_farOf cX9_farOf 6 (some .int) 0 0 0 [.ref 140, .int a, .int b] (WW σ) (QI (fun x w2 => ∃ σ2, w2 = WW σ2 ∧ Inv σ2 ∧ Cor σ σ2 ∧ x = nI (lev (wM σ a) (wM σ b) (Int32.toNatClampNeg (σ.2.2.1 149 (Int32.toNatClampNeg a))) (Int32.toNatClampNeg (σ.2.2.1 149 (Int32.toNatClampNeg b)))) ∧ Fq fqF σ σ2)) := by
  refine Sp_of_R [(some (.ref 140)), (some (.int a)), (some (.int b)), none, none, none] [none, none, none] rfl (by simp) rfl (Nat.le_of_ble_eq_true rfl) ?_
  refine R_iconst (pc := 0) (v := 0) dX9_farOf_0 (by decide) ?_
  refine st_6_3_i_i (pc := 1) dX9_farOf_1 ?_
  have HL2 : ∀ (q j2 : Nat) (σ2 : Sg), j2 + q = 9 → 0 ≤ j2 → Inv σ2 → Cor σ σ2 → (∀ k : Nat, k < j2 → σ2.2.2.1 154 k = nI k) → Fq fqF σ σ2 → R G l yX9_farOf cX9_farOf 6 (some .int) 0 0 0 (QI (fun x w2 => ∃ σ2, w2 = WW σ2 ∧ Inv σ2 ∧ Cor σ σ2 ∧ x = nI (lev (wM σ a) (wM σ b) (Int32.toNatClampNeg (σ.2.2.1 149 (Int32.toNatClampNeg a))) (Int32.toNatClampNeg (σ.2.2.1 149 (Int32.toNatClampNeg b)))) ∧ Fq fqF σ σ2)) 2 [(some (.ref 140)), (some (.int a)), (some (.int b)), (some (.int (nI j2))), none, none] [] (WW σ2) 0 0 := by
    intro q
    induction q with
    | zero =>
      intro j2 σ2 hj hs2 hI2 hC2 hX2_0 hX2_1
      obtain rfl : j2 = 9 := by omega
      refine R_iload_n (pc := 2) dX9_farOf_2 rfl rfl ?_
      refine R_aload_n (pc := 3) dX9_farOf_3 rfl rfl ?_
      refine g_X9_35 (pc := 4) (v := .ref 149) rfl dX9_farOf_4 (c_140 _) rfl ?_
      refine R_iload_n (pc := 7) dX9_farOf_7 rfl rfl ?_
      have hx1 : vp_in b 20 := (vp_of_inR hb (by decide))
      refine R_iaload (pc := 8) dX9_farOf_8 (c_149 _) hx1 ?_
      refine R_icgt (pc := 9) 25 dX9_farOf_9 (by decide) (fun _ => ?_) (fun h => False.elim (by have q1 := ti_nlt h; have q2 := ti_in (show inR (nI 9) 9 9 from (inR_self _)); have q3 := ti_in (show inR (σ2.2.2.1 149 (Int32.toNatClampNeg b)) 0 8 from (iva_149 hI2 _ (lt_of_vp hx1))); have z0 : (0 : Int32).toInt = 0 := (by decide);  have z1 : (149 : Int32).toInt = 149 := (by decide);  have z2 : (8 : Int32).toInt = 8 := (by decide);  have z3 : (9 : Int32).toInt = 9 := (by decide); omega))
      refine R_iconst (pc := 25) (v := 1) dX9_farOf_25 (by decide) ?_
      refine st_6_3_i_i (pc := 26) dX9_farOf_26 ?_
      have HL27 : ∀ (q j27 : Nat) (σ27 : Sg) (g4_27 : Option Value) (g5_27 : Option Value), j27 + q = 9 → 1 ≤ j27 → Inv σ27 → Cor σ σ27 → (∀ k : Nat, k ≤ (Int32.toNatClampNeg (σ.2.2.1 149 (Int32.toNatClampNeg b))) → σ27.2.2.1 154 k = nI (lev (wM σ a) (wM σ b) (j27 - 1) k)) → j27 - 1 ≤ (Int32.toNatClampNeg (σ.2.2.1 149 (Int32.toNatClampNeg a))) → Fq fqF σ σ27 → R G l yX9_farOf cX9_farOf 6 (some .int) 0 0 0 (QI (fun x w2 => ∃ σ2, w2 = WW σ2 ∧ Inv σ2 ∧ Cor σ σ2 ∧ x = nI (lev (wM σ a) (wM σ b) (Int32.toNatClampNeg (σ.2.2.1 149 (Int32.toNatClampNeg a))) (Int32.toNatClampNeg (σ.2.2.1 149 (Int32.toNatClampNeg b)))) ∧ Fq fqF σ σ2)) 27 [(some (.ref 140)), (some (.int a)), (some (.int b)), (some (.int (nI j27))), g4_27, g5_27] [] (WW σ27) 0 0 := by
        intro q
        induction q with
        | zero =>
          intro j27 σ27 g4_27 g5_27 hj hs27 hI27 hC27 hX27_0 hX27_1 hX27_2
          obtain rfl : j27 = 9 := by omega
          refine R_iload_n (pc := 27) dX9_farOf_27 rfl rfl ?_
          refine R_aload_n (pc := 28) dX9_farOf_28 rfl rfl ?_
          refine g_X9_35 (pc := 29) (v := .ref 149) rfl dX9_farOf_29 (c_140 _) rfl ?_
          refine R_iload_n (pc := 32) dX9_farOf_32 rfl rfl ?_
          have hx3 : vp_in a 20 := (vp_of_inR ha (by decide))
          refine R_iaload (pc := 33) dX9_farOf_33 (c_149 _) hx3 ?_
          refine R_icgt (pc := 34) 220 dX9_farOf_34 (by decide) (fun _ => ?_) (fun h => False.elim (by have q1 := ti_nlt h; have q2 := ti_in (show inR (nI 9) 9 9 from (inR_self _)); have q3 := ti_in (show inR (σ27.2.2.1 149 (Int32.toNatClampNeg a)) 0 8 from (iva_149 hI27 _ (lt_of_vp hx3))); have z0 : (0 : Int32).toInt = 0 := (by decide);  have z1 : (149 : Int32).toInt = 149 := (by decide);  have z2 : (8 : Int32).toInt = 8 := (by decide);  have z3 : (9 : Int32).toInt = 9 := (by decide); omega))
          refine R_aload_n (pc := 220) dX9_farOf_220 rfl rfl ?_
          refine g_X9_60 (pc := 221) (v := .ref 154) rfl dX9_farOf_221 (c_140 _) rfl ?_
          refine R_aload_n (pc := 224) dX9_farOf_224 rfl rfl ?_
          refine g_X9_35 (pc := 225) (v := .ref 149) rfl dX9_farOf_225 (c_140 _) rfl ?_
          refine R_iload_n (pc := 228) dX9_farOf_228 rfl rfl ?_
          have hx5 : vp_in b 20 := (vp_of_inR hb (by decide))
          refine R_iaload (pc := 229) dX9_farOf_229 (c_149 _) hx5 ?_
          have hx6 : vp_in (σ27.2.2.1 149 (Int32.toNatClampNeg b)) 9 := (vp_of_inR (iva_149 hI27 _ (lt_of_vp hx5)) (by decide))
          refine R_iaload (pc := 230) dX9_farOf_230 (c_154 _) hx6 ?_
          exact R_iret (pc := 231) dX9_farOf_231 rfl rfl (Nat.zero_le _) (Nat.zero_le _) ⟨_, rfl, _, rfl, hI27, hC27, (by rw [hC27.2.2.1 149 rfl, ← (show 9 - 1 = (Int32.toNatClampNeg (σ.2.2.1 149 (Int32.toNatClampNeg a))) from by have q := (show (Int32.toNatClampNeg (σ.2.2.1 149 (Int32.toNatClampNeg a))) < 9 from Nat.lt_succ_of_le (clamp8 (iva_149 hI _ (clamp19 ha)))); omega)]; exact hX27_0 _ (Nat.le_refl _)), hX27_2⟩
        | succ q ih27 =>
          intro j27 σ27 g4_27 g5_27 hj hs27 hI27 hC27 hX27_0 hX27_1 hX27_2
          have hrg27 : inR (nI j27) 1 8 := inR_ix hs27 (show j27 < 9 by omega) (by decide) (by decide) (by decide)
          have hlt27 : j27 < 9 := by omega
          refine R_iload_n (pc := 27) dX9_farOf_27 rfl rfl ?_
          refine R_aload_n (pc := 28) dX9_farOf_28 rfl rfl ?_
          refine g_X9_35 (pc := 29) (v := .ref 149) rfl dX9_farOf_29 (c_140 _) rfl ?_
          refine R_iload_n (pc := 32) dX9_farOf_32 rfl rfl ?_
          have hx7 : vp_in a 20 := (vp_of_inR ha (by decide))
          refine R_iaload (pc := 33) dX9_farOf_33 (c_149 _) hx7 ?_
          refine R_icgt (pc := 34) 220 dX9_farOf_34 (by decide) (fun b34_8 => ?_) (fun b34_8 => ?_)
          · skip
            refine R_aload_n (pc := 220) dX9_farOf_220 rfl rfl ?_
            refine g_X9_60 (pc := 221) (v := .ref 154) rfl dX9_farOf_221 (c_140 _) rfl ?_
            refine R_aload_n (pc := 224) dX9_farOf_224 rfl rfl ?_
            refine g_X9_35 (pc := 225) (v := .ref 149) rfl dX9_farOf_225 (c_140 _) rfl ?_
            refine R_iload_n (pc := 228) dX9_farOf_228 rfl rfl ?_
            have hx9 : vp_in b 20 := (vp_of_inR hb (by decide))
            refine R_iaload (pc := 229) dX9_farOf_229 (c_149 _) hx9 ?_
            have hx10 : vp_in (σ27.2.2.1 149 (Int32.toNatClampNeg b)) 9 := (vp_of_inR (iva_149 hI27 _ (lt_of_vp hx9)) (by decide))
            refine R_iaload (pc := 230) dX9_farOf_230 (c_154 _) hx10 ?_
            exact R_iret (pc := 231) dX9_farOf_231 rfl rfl (Nat.zero_le _) (Nat.zero_le _) ⟨_, rfl, _, rfl, hI27, hC27, (by rw [hC27.2.2.1 149 rfl, ← (show j27 - 1 = (Int32.toNatClampNeg (σ.2.2.1 149 (Int32.toNatClampNeg a))) from by have q := (show (Int32.toNatClampNeg (σ.2.2.1 149 (Int32.toNatClampNeg a))) < j27 from lt_jc (by omega) (by have q := b34_8; rw [hC27.2.2.1 149 rfl] at q; exact q) (iva_149 hI _ (clamp19 ha))); omega)]; exact hX27_0 _ (Nat.le_refl _)), hX27_2⟩
          · skip
            refine R_aload_n (pc := 37) dX9_farOf_37 rfl rfl ?_
            refine g_X9_63 (pc := 38) (v := .ref 155) rfl dX9_farOf_38 (c_140 _) rfl ?_
            refine R_iconst (pc := 41) (v := 0) dX9_farOf_41 (by decide) ?_
            refine R_iload_n (pc := 42) dX9_farOf_42 rfl rfl ?_
            have hx11 : vp_in 0 9 := (by unfold vp_in; decide)
            refine W_iastore (pc := 43) dX9_farOf_43 (c_155 _) hx11 (a_155 _ _) ?_
            have hW12 := cor_sa 155 (upd (σ27.2.2.1 155) (Int32.toNatClampNeg 0) (nI j27)) hC27 rfl
            refine R_iconst (pc := 44) (v := 1) dX9_farOf_44 (by decide) ?_
            refine st_6_4_i_i (pc := 45) dX9_farOf_45 ?_
            have HL47 : ∀ (q j47 : Nat) (σ47 : Sg) (g5_47 : Option Value), j47 + q = 9 → 1 ≤ j47 → Inv σ47 → Cor σ σ47 → (∀ k : Nat, k ≤ (Int32.toNatClampNeg (σ.2.2.1 149 (Int32.toNatClampNeg b))) → σ47.2.2.1 154 k = nI (lev (wM σ a) (wM σ b) (j27 - 1) k)) → (∀ k : Nat, k < j47 → k ≤ (Int32.toNatClampNeg (σ.2.2.1 149 (Int32.toNatClampNeg b))) → σ47.2.2.1 155 k = nI (lev (wM σ a) (wM σ b) (j27 - 1 + 1) k)) → Fq fqF σ σ47 → R G l yX9_farOf cX9_farOf 6 (some .int) 0 0 0 (QI (fun x w2 => ∃ σ2, w2 = WW σ2 ∧ Inv σ2 ∧ Cor σ σ2 ∧ x = nI (lev (wM σ a) (wM σ b) (Int32.toNatClampNeg (σ.2.2.1 149 (Int32.toNatClampNeg a))) (Int32.toNatClampNeg (σ.2.2.1 149 (Int32.toNatClampNeg b)))) ∧ Fq fqF σ σ2)) 47 [(some (.ref 140)), (some (.int a)), (some (.int b)), (some (.int (nI j27))), (some (.int (nI j47))), g5_47] [] (WW σ47) 0 0 := by
              intro q
              induction q with
              | zero =>
                intro j47 σ47 g5_47 hj hs47 hI47 hC47 hX47_0 hX47_1 hX47_2
                obtain rfl : j47 = 9 := by omega
                refine R_iload (pc := 47) dX9_farOf_47 rfl ?_
                refine R_aload_n (pc := 49) dX9_farOf_49 rfl rfl ?_
                refine g_X9_35 (pc := 50) (v := .ref 149) rfl dX9_farOf_50 (c_140 _) rfl ?_
                refine R_iload_n (pc := 53) dX9_farOf_53 rfl rfl ?_
                have hx13 : vp_in b 20 := (vp_of_inR hb (by decide))
                refine R_iaload (pc := 54) dX9_farOf_54 (c_149 _) hx13 ?_
                refine R_icgt (pc := 55) 180 dX9_farOf_55 (by decide) (fun _ => ?_) (fun h => False.elim (by have q1 := ti_nlt h; have q2 := ti_in (show inR (nI 9) 9 9 from (inR_self _)); have q3 := ti_in (show inR (σ47.2.2.1 149 (Int32.toNatClampNeg b)) 0 8 from (iva_149 hI47 _ (lt_of_vp hx13))); have z0 : (0 : Int32).toInt = 0 := (by decide);  have z1 : (149 : Int32).toInt = 149 := (by decide);  have z2 : (8 : Int32).toInt = 8 := (by decide);  have z3 : (9 : Int32).toInt = 9 := (by decide); omega))
                refine R_iconst (pc := 180) (v := 0) dX9_farOf_180 (by decide) ?_
                refine st_6_4_i_i (pc := 181) dX9_farOf_181 ?_
                have HL183 : ∀ (q j183 : Nat) (σ183 : Sg), j183 + q = 9 → 0 ≤ j183 → Inv σ183 → Cor σ σ183 → (∀ k : Nat, k ≤ (Int32.toNatClampNeg (σ.2.2.1 149 (Int32.toNatClampNeg b))) → σ183.2.2.1 154 k = nI (levM (wM σ a) (wM σ b) (j27 - 1) j183 k)) → (∀ k : Nat, k ≤ (Int32.toNatClampNeg (σ.2.2.1 149 (Int32.toNatClampNeg b))) → σ183.2.2.1 155 k = nI (lev (wM σ a) (wM σ b) (j27 - 1 + 1) k)) → Fq fqF σ σ183 → R G l yX9_farOf cX9_farOf 6 (some .int) 0 0 0 (QI (fun x w2 => ∃ σ2, w2 = WW σ2 ∧ Inv σ2 ∧ Cor σ σ2 ∧ x = nI (lev (wM σ a) (wM σ b) (Int32.toNatClampNeg (σ.2.2.1 149 (Int32.toNatClampNeg a))) (Int32.toNatClampNeg (σ.2.2.1 149 (Int32.toNatClampNeg b)))) ∧ Fq fqF σ σ2)) 183 [(some (.ref 140)), (some (.int a)), (some (.int b)), (some (.int (nI j27))), (some (.int (nI j183))), g5_47] [] (WW σ183) 0 0 := by
                  intro q
                  induction q with
                  | zero =>
                    intro j183 σ183 hj hs183 hI183 hC183 hX183_0 hX183_1 hX183_2
                    obtain rfl : j183 = 9 := by omega
                    refine R_iload (pc := 183) dX9_farOf_183 rfl ?_
                    refine R_aload_n (pc := 185) dX9_farOf_185 rfl rfl ?_
                    refine g_X9_35 (pc := 186) (v := .ref 149) rfl dX9_farOf_186 (c_140 _) rfl ?_
                    refine R_iload_n (pc := 189) dX9_farOf_189 rfl rfl ?_
                    have hx15 : vp_in b 20 := (vp_of_inR hb (by decide))
                    refine R_iaload (pc := 190) dX9_farOf_190 (c_149 _) hx15 ?_
                    refine R_icgt (pc := 191) 214 dX9_farOf_191 (by decide) (fun _ => ?_) (fun h => False.elim (by have q1 := ti_nlt h; have q2 := ti_in (show inR (nI 9) 9 9 from (inR_self _)); have q3 := ti_in (show inR (σ183.2.2.1 149 (Int32.toNatClampNeg b)) 0 8 from (iva_149 hI183 _ (lt_of_vp hx15))); have z0 : (0 : Int32).toInt = 0 := (by decide);  have z1 : (149 : Int32).toInt = 149 := (by decide);  have z2 : (8 : Int32).toInt = 8 := (by decide);  have z3 : (9 : Int32).toInt = 9 := (by decide); omega))
                    refine inc_6_3_1_i (pc := 214) dX9_farOf_214 ?_
                    have r17 : inR ((nI j27) + 1) 2 9 := inR_add (show inR (nI j27) 1 8 from hrg27) (show inR 1 1 1 from (inR_self _)) (by decide) (by decide)
                    have e18 := ti_add (l := 2) (h := 9) (show inR (nI j27) 1 8 from hrg27) (show inR 1 1 1 from (inR_self _)) (by decide) (by decide)
                    refine R_goto (pc := 217) 27 dX9_farOf_217 (by decide) ?_
                    rw [nI_1]
                    exact ih27 (j27 + 1) _ _ _ (by omega) (by omega) hI183 hC183 (li_e (by omega) (show (Int32.toNatClampNeg (σ.2.2.1 149 (Int32.toNatClampNeg b))) < 9 from Nat.lt_succ_of_le (clamp8 (iva_149 hI _ (clamp19 hb)))) hX183_0) (show j27 + 1 - 1 ≤ (Int32.toNatClampNeg (σ.2.2.1 149 (Int32.toNatClampNeg a))) from (show j27 ≤ (Int32.toNatClampNeg (σ.2.2.1 149 (Int32.toNatClampNeg a))) from le_jc (by omega) (by have q := b34_8; rw [hC27.2.2.1 149 rfl] at q; exact q))) hX183_2
                  | succ q ih183 =>
                    intro j183 σ183 hj hs183 hI183 hC183 hX183_0 hX183_1 hX183_2
                    have hrg183 : inR (nI j183) 0 8 := inR_ix hs183 (show j183 < 9 by omega) (by decide) (by decide) (by decide)
                    have hlt183 : j183 < 9 := by omega
                    refine R_iload (pc := 183) dX9_farOf_183 rfl ?_
                    refine R_aload_n (pc := 185) dX9_farOf_185 rfl rfl ?_
                    refine g_X9_35 (pc := 186) (v := .ref 149) rfl dX9_farOf_186 (c_140 _) rfl ?_
                    refine R_iload_n (pc := 189) dX9_farOf_189 rfl rfl ?_
                    have hx19 : vp_in b 20 := (vp_of_inR hb (by decide))
                    refine R_iaload (pc := 190) dX9_farOf_190 (c_149 _) hx19 ?_
                    refine R_icgt (pc := 191) 214 dX9_farOf_191 (by decide) (fun b191_20 => ?_) (fun b191_20 => ?_)
                    · skip
                      refine inc_6_3_1_i (pc := 214) dX9_farOf_214 ?_
                      have r21 : inR ((nI j27) + 1) 2 9 := inR_add (show inR (nI j27) 1 8 from hrg27) (show inR 1 1 1 from (inR_self _)) (by decide) (by decide)
                      have e22 := ti_add (l := 2) (h := 9) (show inR (nI j27) 1 8 from hrg27) (show inR 1 1 1 from (inR_self _)) (by decide) (by decide)
                      refine R_goto (pc := 217) 27 dX9_farOf_217 (by decide) ?_
                      rw [nI_1]
                      exact ih27 (j27 + 1) _ _ _ (by omega) (by omega) hI183 hC183 (li_e (by omega) (show (Int32.toNatClampNeg (σ.2.2.1 149 (Int32.toNatClampNeg b))) < j183 from lt_jc (by omega) (by have q := b191_20; rw [hC183.2.2.1 149 rfl] at q; exact q) (iva_149 hI _ (clamp19 hb))) hX183_0) (show j27 + 1 - 1 ≤ (Int32.toNatClampNeg (σ.2.2.1 149 (Int32.toNatClampNeg a))) from (show j27 ≤ (Int32.toNatClampNeg (σ.2.2.1 149 (Int32.toNatClampNeg a))) from le_jc (by omega) (by have q := b34_8; rw [hC27.2.2.1 149 rfl] at q; exact q))) hX183_2
                    · skip
                      refine R_aload_n (pc := 194) dX9_farOf_194 rfl rfl ?_
                      refine g_X9_60 (pc := 195) (v := .ref 154) rfl dX9_farOf_195 (c_140 _) rfl ?_
                      refine R_iload (pc := 198) dX9_farOf_198 rfl ?_
                      refine R_aload_n (pc := 200) dX9_farOf_200 rfl rfl ?_
                      refine g_X9_63 (pc := 201) (v := .ref 155) rfl dX9_farOf_201 (c_140 _) rfl ?_
                      refine R_iload (pc := 204) dX9_farOf_204 rfl ?_
                      have hx23 : vp_in (nI j183) 9 := (vp_in_nI (by omega) (by decide))
                      refine R_iaload (pc := 206) dX9_farOf_206 (c_155 _) hx23 ?_
                      have hx24 : vp_in (nI j183) 9 := (vp_in_nI (by omega) (by decide))
                      refine W_iastore (pc := 207) dX9_farOf_207 (c_154 _) hx24 (a_154 _ _) ?_
                      have hW25 := cor_sa 154 (upd (σ183.2.2.1 154) (Int32.toNatClampNeg (nI j183)) (σ183.2.2.1 155 (Int32.toNatClampNeg (nI j183)))) hC183 rfl
                      refine inc_6_4_1_i (pc := 208) dX9_farOf_208 ?_
                      have r26 : inR ((nI j183) + 1) 1 9 := inR_add (show inR (nI j183) 0 8 from hrg183) (show inR 1 1 1 from (inR_self _)) (by decide) (by decide)
                      have e27 := ti_add (l := 1) (h := 9) (show inR (nI j183) 0 8 from hrg183) (show inR 1 1 1 from (inR_self _)) (by decide) (by decide)
                      refine R_goto (pc := 211) 183 dX9_farOf_211 (by decide) ?_
                      rw [nI_1]
                      exact ih183 (j183 + 1) _ (by omega) (by omega) hI183 hW25 (li_s0 (by omega) hX183_0 (show σ183.2.2.1 155 (Int32.toNatClampNeg (nI j183)) = _ from by rw [nI_clamp (by omega)]; exact hX183_1 _ (show j183 ≤ (Int32.toNatClampNeg (σ.2.2.1 149 (Int32.toNatClampNeg b))) from le_jc (by omega) (by have q := b191_20; rw [hC183.2.2.1 149 rfl] at q; exact q)))) hX183_1 (fq_a 154 _ hX183_2 rfl)
                exact HL183 9 0 _ (by omega) (by omega) hI47 hC47 (fun k hk => by unfold levM; rw [if_neg (Nat.not_lt_zero k)]; exact hX47_0 k hk) (fun k hk => hX47_1 k (by have q := (show (Int32.toNatClampNeg (σ.2.2.1 149 (Int32.toNatClampNeg b))) < 9 from Nat.lt_succ_of_le (clamp8 (iva_149 hI _ (clamp19 hb)))); omega) hk) hX47_2
              | succ q ih47 =>
                intro j47 σ47 g5_47 hj hs47 hI47 hC47 hX47_0 hX47_1 hX47_2
                have hrg47 : inR (nI j47) 1 8 := inR_ix hs47 (show j47 < 9 by omega) (by decide) (by decide) (by decide)
                have hlt47 : j47 < 9 := by omega
                refine R_iload (pc := 47) dX9_farOf_47 rfl ?_
                refine R_aload_n (pc := 49) dX9_farOf_49 rfl rfl ?_
                refine g_X9_35 (pc := 50) (v := .ref 149) rfl dX9_farOf_50 (c_140 _) rfl ?_
                refine R_iload_n (pc := 53) dX9_farOf_53 rfl rfl ?_
                have hx28 : vp_in b 20 := (vp_of_inR hb (by decide))
                refine R_iaload (pc := 54) dX9_farOf_54 (c_149 _) hx28 ?_
                refine R_icgt (pc := 55) 180 dX9_farOf_55 (by decide) (fun b55_29 => ?_) (fun b55_29 => ?_)
                · skip
                  refine R_iconst (pc := 180) (v := 0) dX9_farOf_180 (by decide) ?_
                  refine st_6_4_i_i (pc := 181) dX9_farOf_181 ?_
                  have HL183 : ∀ (q j183 : Nat) (σ183 : Sg), j183 + q = 9 → 0 ≤ j183 → Inv σ183 → Cor σ σ183 → (∀ k : Nat, k ≤ (Int32.toNatClampNeg (σ.2.2.1 149 (Int32.toNatClampNeg b))) → σ183.2.2.1 154 k = nI (levM (wM σ a) (wM σ b) (j27 - 1) j183 k)) → (∀ k : Nat, k ≤ (Int32.toNatClampNeg (σ.2.2.1 149 (Int32.toNatClampNeg b))) → σ183.2.2.1 155 k = nI (lev (wM σ a) (wM σ b) (j27 - 1 + 1) k)) → Fq fqF σ σ183 → R G l yX9_farOf cX9_farOf 6 (some .int) 0 0 0 (QI (fun x w2 => ∃ σ2, w2 = WW σ2 ∧ Inv σ2 ∧ Cor σ σ2 ∧ x = nI (lev (wM σ a) (wM σ b) (Int32.toNatClampNeg (σ.2.2.1 149 (Int32.toNatClampNeg a))) (Int32.toNatClampNeg (σ.2.2.1 149 (Int32.toNatClampNeg b)))) ∧ Fq fqF σ σ2)) 183 [(some (.ref 140)), (some (.int a)), (some (.int b)), (some (.int (nI j27))), (some (.int (nI j183))), g5_47] [] (WW σ183) 0 0 := by
                    intro q
                    induction q with
                    | zero =>
                      intro j183 σ183 hj hs183 hI183 hC183 hX183_0 hX183_1 hX183_2
                      obtain rfl : j183 = 9 := by omega
                      refine R_iload (pc := 183) dX9_farOf_183 rfl ?_
                      refine R_aload_n (pc := 185) dX9_farOf_185 rfl rfl ?_
                      refine g_X9_35 (pc := 186) (v := .ref 149) rfl dX9_farOf_186 (c_140 _) rfl ?_
                      refine R_iload_n (pc := 189) dX9_farOf_189 rfl rfl ?_
                      have hx30 : vp_in b 20 := (vp_of_inR hb (by decide))
                      refine R_iaload (pc := 190) dX9_farOf_190 (c_149 _) hx30 ?_
                      refine R_icgt (pc := 191) 214 dX9_farOf_191 (by decide) (fun _ => ?_) (fun h => False.elim (by have q1 := ti_nlt h; have q2 := ti_in (show inR (nI 9) 9 9 from (inR_self _)); have q3 := ti_in (show inR (σ183.2.2.1 149 (Int32.toNatClampNeg b)) 0 8 from (iva_149 hI183 _ (lt_of_vp hx30))); have z0 : (0 : Int32).toInt = 0 := (by decide);  have z1 : (149 : Int32).toInt = 149 := (by decide);  have z2 : (8 : Int32).toInt = 8 := (by decide);  have z3 : (9 : Int32).toInt = 9 := (by decide); omega))
                      refine inc_6_3_1_i (pc := 214) dX9_farOf_214 ?_
                      have r32 : inR ((nI j27) + 1) 2 9 := inR_add (show inR (nI j27) 1 8 from hrg27) (show inR 1 1 1 from (inR_self _)) (by decide) (by decide)
                      have e33 := ti_add (l := 2) (h := 9) (show inR (nI j27) 1 8 from hrg27) (show inR 1 1 1 from (inR_self _)) (by decide) (by decide)
                      refine R_goto (pc := 217) 27 dX9_farOf_217 (by decide) ?_
                      rw [nI_1]
                      exact ih27 (j27 + 1) _ _ _ (by omega) (by omega) hI183 hC183 (li_e (by omega) (show (Int32.toNatClampNeg (σ.2.2.1 149 (Int32.toNatClampNeg b))) < 9 from Nat.lt_succ_of_le (clamp8 (iva_149 hI _ (clamp19 hb)))) hX183_0) (show j27 + 1 - 1 ≤ (Int32.toNatClampNeg (σ.2.2.1 149 (Int32.toNatClampNeg a))) from (show j27 ≤ (Int32.toNatClampNeg (σ.2.2.1 149 (Int32.toNatClampNeg a))) from le_jc (by omega) (by have q := b34_8; rw [hC27.2.2.1 149 rfl] at q; exact q))) hX183_2
                    | succ q ih183 =>
                      intro j183 σ183 hj hs183 hI183 hC183 hX183_0 hX183_1 hX183_2
                      have hrg183 : inR (nI j183) 0 8 := inR_ix hs183 (show j183 < 9 by omega) (by decide) (by decide) (by decide)
                      have hlt183 : j183 < 9 := by omega
                      refine R_iload (pc := 183) dX9_farOf_183 rfl ?_
                      refine R_aload_n (pc := 185) dX9_farOf_185 rfl rfl ?_
                      refine g_X9_35 (pc := 186) (v := .ref 149) rfl dX9_farOf_186 (c_140 _) rfl ?_
                      refine R_iload_n (pc := 189) dX9_farOf_189 rfl rfl ?_
                      have hx34 : vp_in b 20 := (vp_of_inR hb (by decide))
                      refine R_iaload (pc := 190) dX9_farOf_190 (c_149 _) hx34 ?_
                      refine R_icgt (pc := 191) 214 dX9_farOf_191 (by decide) (fun b191_35 => ?_) (fun b191_35 => ?_)
                      · skip
                        refine inc_6_3_1_i (pc := 214) dX9_farOf_214 ?_
                        have r36 : inR ((nI j27) + 1) 2 9 := inR_add (show inR (nI j27) 1 8 from hrg27) (show inR 1 1 1 from (inR_self _)) (by decide) (by decide)
                        have e37 := ti_add (l := 2) (h := 9) (show inR (nI j27) 1 8 from hrg27) (show inR 1 1 1 from (inR_self _)) (by decide) (by decide)
                        refine R_goto (pc := 217) 27 dX9_farOf_217 (by decide) ?_
                        rw [nI_1]
                        exact ih27 (j27 + 1) _ _ _ (by omega) (by omega) hI183 hC183 (li_e (by omega) (show (Int32.toNatClampNeg (σ.2.2.1 149 (Int32.toNatClampNeg b))) < j183 from lt_jc (by omega) (by have q := b191_35; rw [hC183.2.2.1 149 rfl] at q; exact q) (iva_149 hI _ (clamp19 hb))) hX183_0) (show j27 + 1 - 1 ≤ (Int32.toNatClampNeg (σ.2.2.1 149 (Int32.toNatClampNeg a))) from (show j27 ≤ (Int32.toNatClampNeg (σ.2.2.1 149 (Int32.toNatClampNeg a))) from le_jc (by omega) (by have q := b34_8; rw [hC27.2.2.1 149 rfl] at q; exact q))) hX183_2
                      · skip
                        refine R_aload_n (pc := 194) dX9_farOf_194 rfl rfl ?_
                        refine g_X9_60 (pc := 195) (v := .ref 154) rfl dX9_farOf_195 (c_140 _) rfl ?_
                        refine R_iload (pc := 198) dX9_farOf_198 rfl ?_
                        refine R_aload_n (pc := 200) dX9_farOf_200 rfl rfl ?_
                        refine g_X9_63 (pc := 201) (v := .ref 155) rfl dX9_farOf_201 (c_140 _) rfl ?_
                        refine R_iload (pc := 204) dX9_farOf_204 rfl ?_
                        have hx38 : vp_in (nI j183) 9 := (vp_in_nI (by omega) (by decide))
                        refine R_iaload (pc := 206) dX9_farOf_206 (c_155 _) hx38 ?_
                        have hx39 : vp_in (nI j183) 9 := (vp_in_nI (by omega) (by decide))
                        refine W_iastore (pc := 207) dX9_farOf_207 (c_154 _) hx39 (a_154 _ _) ?_
                        have hW40 := cor_sa 154 (upd (σ183.2.2.1 154) (Int32.toNatClampNeg (nI j183)) (σ183.2.2.1 155 (Int32.toNatClampNeg (nI j183)))) hC183 rfl
                        refine inc_6_4_1_i (pc := 208) dX9_farOf_208 ?_
                        have r41 : inR ((nI j183) + 1) 1 9 := inR_add (show inR (nI j183) 0 8 from hrg183) (show inR 1 1 1 from (inR_self _)) (by decide) (by decide)
                        have e42 := ti_add (l := 1) (h := 9) (show inR (nI j183) 0 8 from hrg183) (show inR 1 1 1 from (inR_self _)) (by decide) (by decide)
                        refine R_goto (pc := 211) 183 dX9_farOf_211 (by decide) ?_
                        rw [nI_1]
                        exact ih183 (j183 + 1) _ (by omega) (by omega) hI183 hW40 (li_s0 (by omega) hX183_0 (show σ183.2.2.1 155 (Int32.toNatClampNeg (nI j183)) = _ from by rw [nI_clamp (by omega)]; exact hX183_1 _ (show j183 ≤ (Int32.toNatClampNeg (σ.2.2.1 149 (Int32.toNatClampNeg b))) from le_jc (by omega) (by have q := b191_35; rw [hC183.2.2.1 149 rfl] at q; exact q)))) hX183_1 (fq_a 154 _ hX183_2 rfl)
                  exact HL183 9 0 _ (by omega) (by omega) hI47 hC47 (fun k hk => by unfold levM; rw [if_neg (Nat.not_lt_zero k)]; exact hX47_0 k hk) (fun k hk => hX47_1 k (by have q := (show (Int32.toNatClampNeg (σ.2.2.1 149 (Int32.toNatClampNeg b))) < j47 from lt_jc (by omega) (by have q := b55_29; rw [hC47.2.2.1 149 rfl] at q; exact q) (iva_149 hI _ (clamp19 hb))); omega) hk) hX47_2
                · skip
                  refine R_aload_n (pc := 58) dX9_farOf_58 rfl rfl ?_
                  refine g_X9_60 (pc := 59) (v := .ref 154) rfl dX9_farOf_59 (c_140 _) rfl ?_
                  refine R_iload (pc := 62) dX9_farOf_62 rfl ?_
                  refine R_iconst (pc := 64) (v := 1) dX9_farOf_64 (by decide) ?_
                  refine R_isub (pc := 65) dX9_farOf_65 ?_
                  have r43 : inR ((nI j47) - 1) 0 7 := inR_sub (show inR (nI j47) 1 8 from hrg47) (show inR 1 1 1 from (inR_self _)) (by decide) (by decide)
                  have e44 := ti_sub (l := 0) (h := 7) (show inR (nI j47) 1 8 from hrg47) (show inR 1 1 1 from (inR_self _)) (by decide) (by decide)
                  have hx45 : vp_in ((nI j47) - 1) 9 := (vp_of_inR r43 (by decide))
                  refine R_iaload (pc := 66) dX9_farOf_66 (c_154 _) hx45 ?_
                  refine R_aload_n (pc := 67) dX9_farOf_67 rfl rfl ?_
                  refine g_X9_38 (pc := 68) (v := .ref 150) rfl dX9_farOf_68 (c_140 _) rfl ?_
                  refine R_bipush (pc := 71) (v := 8) dX9_farOf_71 (by decide) ?_
                  refine R_iload_n (pc := 73) dX9_farOf_73 rfl rfl ?_
                  refine R_imul (pc := 74) dX9_farOf_74 ?_
                  have r46 : inR (8 * a) 0 152 := inR_mulc (c := 8) (l := 0) (h := 152) 8 (by decide) (show inR a 0 19 from ha) (by decide) (by decide)
                  have e47 := ti_mulc (c := 8) (l := 0) (h := 152) 8 (by decide) (show inR a 0 19 from ha) (by decide) (by decide)
                  refine R_iload_n (pc := 75) dX9_farOf_75 rfl rfl ?_
                  refine R_iadd (pc := 76) dX9_farOf_76 ?_
                  have r48 : inR ((8 * a) + (nI j27)) 1 160 := inR_add (show inR (8 * a) 0 152 from r46) (show inR (nI j27) 1 8 from hrg27) (by decide) (by decide)
                  have e49 := ti_add (l := 1) (h := 160) (show inR (8 * a) 0 152 from r46) (show inR (nI j27) 1 8 from hrg27) (by decide) (by decide)
                  refine R_iconst (pc := 77) (v := 1) dX9_farOf_77 (by decide) ?_
                  refine R_isub (pc := 78) dX9_farOf_78 ?_
                  have r50 : inR (((8 * a) + (nI j27)) - 1) 0 159 := inR_sub (show inR ((8 * a) + (nI j27)) 1 160 from r48) (show inR 1 1 1 from (inR_self _)) (by decide) (by decide)
                  have e51 := ti_sub (l := 0) (h := 159) (show inR ((8 * a) + (nI j27)) 1 160 from r48) (show inR 1 1 1 from (inR_self _)) (by decide) (by decide)
                  have hx52 : vp_in (((8 * a) + (nI j27)) - 1) 160 := (vp_of_inR r50 (by decide))
                  refine R_iaload (pc := 79) dX9_farOf_79 (c_150 _) hx52 ?_
                  refine R_aload_n (pc := 80) dX9_farOf_80 rfl rfl ?_
                  refine g_X9_38 (pc := 81) (v := .ref 150) rfl dX9_farOf_81 (c_140 _) rfl ?_
                  refine R_bipush (pc := 84) (v := 8) dX9_farOf_84 (by decide) ?_
                  refine R_iload_n (pc := 86) dX9_farOf_86 rfl rfl ?_
                  refine R_imul (pc := 87) dX9_farOf_87 ?_
                  have r53 : inR (8 * b) 0 152 := inR_mulc (c := 8) (l := 0) (h := 152) 8 (by decide) (show inR b 0 19 from hb) (by decide) (by decide)
                  have e54 := ti_mulc (c := 8) (l := 0) (h := 152) 8 (by decide) (show inR b 0 19 from hb) (by decide) (by decide)
                  refine R_iload (pc := 88) dX9_farOf_88 rfl ?_
                  refine R_iadd (pc := 90) dX9_farOf_90 ?_
                  have r55 : inR ((8 * b) + (nI j47)) 1 160 := inR_add (show inR (8 * b) 0 152 from r53) (show inR (nI j47) 1 8 from hrg47) (by decide) (by decide)
                  have e56 := ti_add (l := 1) (h := 160) (show inR (8 * b) 0 152 from r53) (show inR (nI j47) 1 8 from hrg47) (by decide) (by decide)
                  refine R_iconst (pc := 91) (v := 1) dX9_farOf_91 (by decide) ?_
                  refine R_isub (pc := 92) dX9_farOf_92 ?_
                  have r57 : inR (((8 * b) + (nI j47)) - 1) 0 159 := inR_sub (show inR ((8 * b) + (nI j47)) 1 160 from r55) (show inR 1 1 1 from (inR_self _)) (by decide) (by decide)
                  have e58 := ti_sub (l := 0) (h := 159) (show inR ((8 * b) + (nI j47)) 1 160 from r55) (show inR 1 1 1 from (inR_self _)) (by decide) (by decide)
                  have hx59 : vp_in (((8 * b) + (nI j47)) - 1) 160 := (vp_of_inR r57 (by decide))
                  refine R_iaload (pc := 93) dX9_farOf_93 (c_150 _) hx59 ?_
                  refine R_icne (pc := 94) 101 dX9_farOf_94 (by decide) (fun b94_60 => ?_) (fun b94_60 => ?_)
                  · skip
                    refine R_iconst (pc := 101) (v := 1) dX9_farOf_101 (by decide) ?_
                    refine R_iadd (pc := 102) dX9_farOf_102 ?_
                    refine st_6_5_i_i (pc := 103) dX9_farOf_103 ?_
                    refine R_aload_n (pc := 105) dX9_farOf_105 rfl rfl ?_
                    refine g_X9_60 (pc := 106) (v := .ref 154) rfl dX9_farOf_106 (c_140 _) rfl ?_
                    refine R_iload (pc := 109) dX9_farOf_109 rfl ?_
                    have hx61 : vp_in (nI j47) 9 := (vp_in_nI (by omega) (by decide))
                    refine R_iaload (pc := 111) dX9_farOf_111 (c_154 _) hx61 ?_
                    refine R_iconst (pc := 112) (v := 1) dX9_farOf_112 (by decide) ?_
                    refine R_iadd (pc := 113) dX9_farOf_113 ?_
                    refine R_iload (pc := 114) dX9_farOf_114 rfl ?_
                    refine R_icge (pc := 116) 131 dX9_farOf_116 (by decide) (fun b116_62 => ?_) (fun b116_62 => ?_)
                    · skip
                      refine R_iload (pc := 131) dX9_farOf_131 rfl ?_
                      refine st_6_5_i_i (pc := 133) dX9_farOf_133 ?_
                      refine R_aload_n (pc := 135) dX9_farOf_135 rfl rfl ?_
                      refine g_X9_63 (pc := 136) (v := .ref 155) rfl dX9_farOf_136 (c_140 _) rfl ?_
                      refine R_iload (pc := 139) dX9_farOf_139 rfl ?_
                      refine R_aload_n (pc := 141) dX9_farOf_141 rfl rfl ?_
                      refine g_X9_63 (pc := 142) (v := .ref 155) rfl dX9_farOf_142 (c_140 _) rfl ?_
                      refine R_iload (pc := 145) dX9_farOf_145 rfl ?_
                      refine R_iconst (pc := 147) (v := 1) dX9_farOf_147 (by decide) ?_
                      refine R_isub (pc := 148) dX9_farOf_148 ?_
                      have r63 : inR ((nI j47) - 1) 0 7 := inR_sub (show inR (nI j47) 1 8 from hrg47) (show inR 1 1 1 from (inR_self _)) (by decide) (by decide)
                      have e64 := ti_sub (l := 0) (h := 7) (show inR (nI j47) 1 8 from hrg47) (show inR 1 1 1 from (inR_self _)) (by decide) (by decide)
                      have hx65 : vp_in ((nI j47) - 1) 9 := (vp_of_inR r63 (by decide))
                      refine R_iaload (pc := 149) dX9_farOf_149 (c_155 _) hx65 ?_
                      refine R_iconst (pc := 150) (v := 1) dX9_farOf_150 (by decide) ?_
                      refine R_iadd (pc := 151) dX9_farOf_151 ?_
                      refine R_iload (pc := 152) dX9_farOf_152 rfl ?_
                      refine R_icge (pc := 154) 171 dX9_farOf_154 (by decide) (fun b154_66 => ?_) (fun b154_66 => ?_)
                      · skip
                        refine R_iload (pc := 171) dX9_farOf_171 rfl ?_
                        have hx67 : vp_in (nI j47) 9 := (vp_in_nI (by omega) (by decide))
                        refine W_iastore (pc := 173) dX9_farOf_173 (c_155 _) hx67 (a_155 _ _) ?_
                        have hW68 := cor_sa 155 (upd (σ47.2.2.1 155) (Int32.toNatClampNeg (nI j47)) ((σ47.2.2.1 154 (Int32.toNatClampNeg ((nI j47) - 1))) + 1)) hC47 rfl
                        refine inc_6_4_1_i (pc := 174) dX9_farOf_174 ?_
                        have r69 : inR ((nI j47) + 1) 2 9 := inR_add (show inR (nI j47) 1 8 from hrg47) (show inR 1 1 1 from (inR_self _)) (by decide) (by decide)
                        have e70 := ti_add (l := 2) (h := 9) (show inR (nI j47) 1 8 from hrg47) (show inR 1 1 1 from (inR_self _)) (by decide) (by decide)
                        refine R_goto (pc := 177) 47 dX9_farOf_177 (by decide) ?_
                        rw [nI_1]
                        exact ih47 (j47 + 1) _ _ (by omega) (by omega) hI47 hW68 hX47_0 (lj_s (by omega) (by omega) hX47_1 (by rw [← levR_s (by omega) (cost_f (show ¬ (wM σ a) (j27 - 1) = (wM σ b) (j47 - 1) from (by have q := b94_60; rw [hC47.2.2.1 150 rfl, ix8 ha (by omega) (by omega), ix8 hb (by omega) (by omega)] at q; exact q)) (show σ47.2.2.1 154 (Int32.toNatClampNeg ((nI j47) - 1)) = nI (lev (wM σ a) (wM σ b) (j27 - 1) (j47 - 1)) from by rw [nI_p (by omega), nI_clamp (by omega)]; exact hX47_0 _ (by have q := (show j47 ≤ (Int32.toNatClampNeg (σ.2.2.1 149 (Int32.toNatClampNeg b))) from le_jc (by omega) (by have q := b55_29; rw [hC47.2.2.1 149 rfl] at q; exact q)); omega))) (show σ47.2.2.1 154 (Int32.toNatClampNeg (nI j47)) = nI (lev (wM σ a) (wM σ b) (j27 - 1) (j47 - 1 + 1)) from by rw [nI_clamp (by omega), hX47_0 _ (show j47 ≤ (Int32.toNatClampNeg (σ.2.2.1 149 (Int32.toNatClampNeg b))) from le_jc (by omega) (by have q := b55_29; rw [hC47.2.2.1 149 rfl] at q; exact q)), show j47 - 1 + 1 = j47 from by omega]) (show σ47.2.2.1 155 (Int32.toNatClampNeg ((nI j47) - 1)) = nI (lev (wM σ a) (wM σ b) (j27 - 1 + 1) (j47 - 1)) from by rw [nI_p (by omega), nI_clamp (by omega)]; exact hX47_1 _ (by omega) (by have q := (show j47 ≤ (Int32.toNatClampNeg (σ.2.2.1 149 (Int32.toNatClampNeg b))) from le_jc (by omega) (by have q := b55_29; rw [hC47.2.2.1 149 rfl] at q; exact q)); omega)), if_neg (Int32.not_lt.mpr b116_62), if_neg (Int32.not_lt.mpr b154_66)])) (fq_a 155 _ hX47_2 rfl)
                      · skip
                        refine R_aload_n (pc := 157) dX9_farOf_157 rfl rfl ?_
                        refine g_X9_63 (pc := 158) (v := .ref 155) rfl dX9_farOf_158 (c_140 _) rfl ?_
                        refine R_iload (pc := 161) dX9_farOf_161 rfl ?_
                        refine R_iconst (pc := 163) (v := 1) dX9_farOf_163 (by decide) ?_
                        refine R_isub (pc := 164) dX9_farOf_164 ?_
                        have r71 : inR ((nI j47) - 1) 0 7 := inR_sub (show inR (nI j47) 1 8 from hrg47) (show inR 1 1 1 from (inR_self _)) (by decide) (by decide)
                        have e72 := ti_sub (l := 0) (h := 7) (show inR (nI j47) 1 8 from hrg47) (show inR 1 1 1 from (inR_self _)) (by decide) (by decide)
                        have hx73 : vp_in ((nI j47) - 1) 9 := (vp_of_inR r71 (by decide))
                        refine R_iaload (pc := 165) dX9_farOf_165 (c_155 _) hx73 ?_
                        refine R_iconst (pc := 166) (v := 1) dX9_farOf_166 (by decide) ?_
                        refine R_iadd (pc := 167) dX9_farOf_167 ?_
                        refine R_goto (pc := 168) 173 dX9_farOf_168 (by decide) ?_
                        have hx74 : vp_in (nI j47) 9 := (vp_in_nI (by omega) (by decide))
                        refine W_iastore (pc := 173) dX9_farOf_173 (c_155 _) hx74 (a_155 _ _) ?_
                        have hW75 := cor_sa 155 (upd (σ47.2.2.1 155) (Int32.toNatClampNeg (nI j47)) ((σ47.2.2.1 155 (Int32.toNatClampNeg ((nI j47) - 1))) + 1)) hC47 rfl
                        refine inc_6_4_1_i (pc := 174) dX9_farOf_174 ?_
                        have r76 : inR ((nI j47) + 1) 2 9 := inR_add (show inR (nI j47) 1 8 from hrg47) (show inR 1 1 1 from (inR_self _)) (by decide) (by decide)
                        have e77 := ti_add (l := 2) (h := 9) (show inR (nI j47) 1 8 from hrg47) (show inR 1 1 1 from (inR_self _)) (by decide) (by decide)
                        refine R_goto (pc := 177) 47 dX9_farOf_177 (by decide) ?_
                        rw [nI_1]
                        exact ih47 (j47 + 1) _ _ (by omega) (by omega) hI47 hW75 hX47_0 (lj_s (by omega) (by omega) hX47_1 (by rw [← levR_s (by omega) (cost_f (show ¬ (wM σ a) (j27 - 1) = (wM σ b) (j47 - 1) from (by have q := b94_60; rw [hC47.2.2.1 150 rfl, ix8 ha (by omega) (by omega), ix8 hb (by omega) (by omega)] at q; exact q)) (show σ47.2.2.1 154 (Int32.toNatClampNeg ((nI j47) - 1)) = nI (lev (wM σ a) (wM σ b) (j27 - 1) (j47 - 1)) from by rw [nI_p (by omega), nI_clamp (by omega)]; exact hX47_0 _ (by have q := (show j47 ≤ (Int32.toNatClampNeg (σ.2.2.1 149 (Int32.toNatClampNeg b))) from le_jc (by omega) (by have q := b55_29; rw [hC47.2.2.1 149 rfl] at q; exact q)); omega))) (show σ47.2.2.1 154 (Int32.toNatClampNeg (nI j47)) = nI (lev (wM σ a) (wM σ b) (j27 - 1) (j47 - 1 + 1)) from by rw [nI_clamp (by omega), hX47_0 _ (show j47 ≤ (Int32.toNatClampNeg (σ.2.2.1 149 (Int32.toNatClampNeg b))) from le_jc (by omega) (by have q := b55_29; rw [hC47.2.2.1 149 rfl] at q; exact q)), show j47 - 1 + 1 = j47 from by omega]) (show σ47.2.2.1 155 (Int32.toNatClampNeg ((nI j47) - 1)) = nI (lev (wM σ a) (wM σ b) (j27 - 1 + 1) (j47 - 1)) from by rw [nI_p (by omega), nI_clamp (by omega)]; exact hX47_1 _ (by omega) (by have q := (show j47 ≤ (Int32.toNatClampNeg (σ.2.2.1 149 (Int32.toNatClampNeg b))) from le_jc (by omega) (by have q := b55_29; rw [hC47.2.2.1 149 rfl] at q; exact q)); omega)), if_neg (Int32.not_lt.mpr b116_62), if_pos (Int32.not_le.mp b154_66)])) (fq_a 155 _ hX47_2 rfl)
                    · skip
                      refine R_aload_n (pc := 119) dX9_farOf_119 rfl rfl ?_
                      refine g_X9_60 (pc := 120) (v := .ref 154) rfl dX9_farOf_120 (c_140 _) rfl ?_
                      refine R_iload (pc := 123) dX9_farOf_123 rfl ?_
                      have hx78 : vp_in (nI j47) 9 := (vp_in_nI (by omega) (by decide))
                      refine R_iaload (pc := 125) dX9_farOf_125 (c_154 _) hx78 ?_
                      refine R_iconst (pc := 126) (v := 1) dX9_farOf_126 (by decide) ?_
                      refine R_iadd (pc := 127) dX9_farOf_127 ?_
                      refine R_goto (pc := 128) 133 dX9_farOf_128 (by decide) ?_
                      refine st_6_5_i_i (pc := 133) dX9_farOf_133 ?_
                      refine R_aload_n (pc := 135) dX9_farOf_135 rfl rfl ?_
                      refine g_X9_63 (pc := 136) (v := .ref 155) rfl dX9_farOf_136 (c_140 _) rfl ?_
                      refine R_iload (pc := 139) dX9_farOf_139 rfl ?_
                      refine R_aload_n (pc := 141) dX9_farOf_141 rfl rfl ?_
                      refine g_X9_63 (pc := 142) (v := .ref 155) rfl dX9_farOf_142 (c_140 _) rfl ?_
                      refine R_iload (pc := 145) dX9_farOf_145 rfl ?_
                      refine R_iconst (pc := 147) (v := 1) dX9_farOf_147 (by decide) ?_
                      refine R_isub (pc := 148) dX9_farOf_148 ?_
                      have r79 : inR ((nI j47) - 1) 0 7 := inR_sub (show inR (nI j47) 1 8 from hrg47) (show inR 1 1 1 from (inR_self _)) (by decide) (by decide)
                      have e80 := ti_sub (l := 0) (h := 7) (show inR (nI j47) 1 8 from hrg47) (show inR 1 1 1 from (inR_self _)) (by decide) (by decide)
                      have hx81 : vp_in ((nI j47) - 1) 9 := (vp_of_inR r79 (by decide))
                      refine R_iaload (pc := 149) dX9_farOf_149 (c_155 _) hx81 ?_
                      refine R_iconst (pc := 150) (v := 1) dX9_farOf_150 (by decide) ?_
                      refine R_iadd (pc := 151) dX9_farOf_151 ?_
                      refine R_iload (pc := 152) dX9_farOf_152 rfl ?_
                      refine R_icge (pc := 154) 171 dX9_farOf_154 (by decide) (fun b154_82 => ?_) (fun b154_82 => ?_)
                      · skip
                        refine R_iload (pc := 171) dX9_farOf_171 rfl ?_
                        have hx83 : vp_in (nI j47) 9 := (vp_in_nI (by omega) (by decide))
                        refine W_iastore (pc := 173) dX9_farOf_173 (c_155 _) hx83 (a_155 _ _) ?_
                        have hW84 := cor_sa 155 (upd (σ47.2.2.1 155) (Int32.toNatClampNeg (nI j47)) ((σ47.2.2.1 154 (Int32.toNatClampNeg (nI j47))) + 1)) hC47 rfl
                        refine inc_6_4_1_i (pc := 174) dX9_farOf_174 ?_
                        have r85 : inR ((nI j47) + 1) 2 9 := inR_add (show inR (nI j47) 1 8 from hrg47) (show inR 1 1 1 from (inR_self _)) (by decide) (by decide)
                        have e86 := ti_add (l := 2) (h := 9) (show inR (nI j47) 1 8 from hrg47) (show inR 1 1 1 from (inR_self _)) (by decide) (by decide)
                        refine R_goto (pc := 177) 47 dX9_farOf_177 (by decide) ?_
                        rw [nI_1]
                        exact ih47 (j47 + 1) _ _ (by omega) (by omega) hI47 hW84 hX47_0 (lj_s (by omega) (by omega) hX47_1 (by rw [← levR_s (by omega) (cost_f (show ¬ (wM σ a) (j27 - 1) = (wM σ b) (j47 - 1) from (by have q := b94_60; rw [hC47.2.2.1 150 rfl, ix8 ha (by omega) (by omega), ix8 hb (by omega) (by omega)] at q; exact q)) (show σ47.2.2.1 154 (Int32.toNatClampNeg ((nI j47) - 1)) = nI (lev (wM σ a) (wM σ b) (j27 - 1) (j47 - 1)) from by rw [nI_p (by omega), nI_clamp (by omega)]; exact hX47_0 _ (by have q := (show j47 ≤ (Int32.toNatClampNeg (σ.2.2.1 149 (Int32.toNatClampNeg b))) from le_jc (by omega) (by have q := b55_29; rw [hC47.2.2.1 149 rfl] at q; exact q)); omega))) (show σ47.2.2.1 154 (Int32.toNatClampNeg (nI j47)) = nI (lev (wM σ a) (wM σ b) (j27 - 1) (j47 - 1 + 1)) from by rw [nI_clamp (by omega), hX47_0 _ (show j47 ≤ (Int32.toNatClampNeg (σ.2.2.1 149 (Int32.toNatClampNeg b))) from le_jc (by omega) (by have q := b55_29; rw [hC47.2.2.1 149 rfl] at q; exact q)), show j47 - 1 + 1 = j47 from by omega]) (show σ47.2.2.1 155 (Int32.toNatClampNeg ((nI j47) - 1)) = nI (lev (wM σ a) (wM σ b) (j27 - 1 + 1) (j47 - 1)) from by rw [nI_p (by omega), nI_clamp (by omega)]; exact hX47_1 _ (by omega) (by have q := (show j47 ≤ (Int32.toNatClampNeg (σ.2.2.1 149 (Int32.toNatClampNeg b))) from le_jc (by omega) (by have q := b55_29; rw [hC47.2.2.1 149 rfl] at q; exact q)); omega)), if_pos (Int32.not_le.mp b116_62), if_neg (Int32.not_lt.mpr b154_82)])) (fq_a 155 _ hX47_2 rfl)
                      · skip
                        refine R_aload_n (pc := 157) dX9_farOf_157 rfl rfl ?_
                        refine g_X9_63 (pc := 158) (v := .ref 155) rfl dX9_farOf_158 (c_140 _) rfl ?_
                        refine R_iload (pc := 161) dX9_farOf_161 rfl ?_
                        refine R_iconst (pc := 163) (v := 1) dX9_farOf_163 (by decide) ?_
                        refine R_isub (pc := 164) dX9_farOf_164 ?_
                        have r87 : inR ((nI j47) - 1) 0 7 := inR_sub (show inR (nI j47) 1 8 from hrg47) (show inR 1 1 1 from (inR_self _)) (by decide) (by decide)
                        have e88 := ti_sub (l := 0) (h := 7) (show inR (nI j47) 1 8 from hrg47) (show inR 1 1 1 from (inR_self _)) (by decide) (by decide)
                        have hx89 : vp_in ((nI j47) - 1) 9 := (vp_of_inR r87 (by decide))
                        refine R_iaload (pc := 165) dX9_farOf_165 (c_155 _) hx89 ?_
                        refine R_iconst (pc := 166) (v := 1) dX9_farOf_166 (by decide) ?_
                        refine R_iadd (pc := 167) dX9_farOf_167 ?_
                        refine R_goto (pc := 168) 173 dX9_farOf_168 (by decide) ?_
                        have hx90 : vp_in (nI j47) 9 := (vp_in_nI (by omega) (by decide))
                        refine W_iastore (pc := 173) dX9_farOf_173 (c_155 _) hx90 (a_155 _ _) ?_
                        have hW91 := cor_sa 155 (upd (σ47.2.2.1 155) (Int32.toNatClampNeg (nI j47)) ((σ47.2.2.1 155 (Int32.toNatClampNeg ((nI j47) - 1))) + 1)) hC47 rfl
                        refine inc_6_4_1_i (pc := 174) dX9_farOf_174 ?_
                        have r92 : inR ((nI j47) + 1) 2 9 := inR_add (show inR (nI j47) 1 8 from hrg47) (show inR 1 1 1 from (inR_self _)) (by decide) (by decide)
                        have e93 := ti_add (l := 2) (h := 9) (show inR (nI j47) 1 8 from hrg47) (show inR 1 1 1 from (inR_self _)) (by decide) (by decide)
                        refine R_goto (pc := 177) 47 dX9_farOf_177 (by decide) ?_
                        rw [nI_1]
                        exact ih47 (j47 + 1) _ _ (by omega) (by omega) hI47 hW91 hX47_0 (lj_s (by omega) (by omega) hX47_1 (by rw [← levR_s (by omega) (cost_f (show ¬ (wM σ a) (j27 - 1) = (wM σ b) (j47 - 1) from (by have q := b94_60; rw [hC47.2.2.1 150 rfl, ix8 ha (by omega) (by omega), ix8 hb (by omega) (by omega)] at q; exact q)) (show σ47.2.2.1 154 (Int32.toNatClampNeg ((nI j47) - 1)) = nI (lev (wM σ a) (wM σ b) (j27 - 1) (j47 - 1)) from by rw [nI_p (by omega), nI_clamp (by omega)]; exact hX47_0 _ (by have q := (show j47 ≤ (Int32.toNatClampNeg (σ.2.2.1 149 (Int32.toNatClampNeg b))) from le_jc (by omega) (by have q := b55_29; rw [hC47.2.2.1 149 rfl] at q; exact q)); omega))) (show σ47.2.2.1 154 (Int32.toNatClampNeg (nI j47)) = nI (lev (wM σ a) (wM σ b) (j27 - 1) (j47 - 1 + 1)) from by rw [nI_clamp (by omega), hX47_0 _ (show j47 ≤ (Int32.toNatClampNeg (σ.2.2.1 149 (Int32.toNatClampNeg b))) from le_jc (by omega) (by have q := b55_29; rw [hC47.2.2.1 149 rfl] at q; exact q)), show j47 - 1 + 1 = j47 from by omega]) (show σ47.2.2.1 155 (Int32.toNatClampNeg ((nI j47) - 1)) = nI (lev (wM σ a) (wM σ b) (j27 - 1 + 1) (j47 - 1)) from by rw [nI_p (by omega), nI_clamp (by omega)]; exact hX47_1 _ (by omega) (by have q := (show j47 ≤ (Int32.toNatClampNeg (σ.2.2.1 149 (Int32.toNatClampNeg b))) from le_jc (by omega) (by have q := b55_29; rw [hC47.2.2.1 149 rfl] at q; exact q)); omega)), if_pos (Int32.not_le.mp b116_62), if_pos (Int32.not_le.mp b154_82)])) (fq_a 155 _ hX47_2 rfl)
                  · skip
                    refine R_iconst (pc := 97) (v := 0) dX9_farOf_97 (by decide) ?_
                    refine R_goto (pc := 98) 102 dX9_farOf_98 (by decide) ?_
                    refine R_iadd (pc := 102) dX9_farOf_102 ?_
                    refine st_6_5_i_i (pc := 103) dX9_farOf_103 ?_
                    refine R_aload_n (pc := 105) dX9_farOf_105 rfl rfl ?_
                    refine g_X9_60 (pc := 106) (v := .ref 154) rfl dX9_farOf_106 (c_140 _) rfl ?_
                    refine R_iload (pc := 109) dX9_farOf_109 rfl ?_
                    have hx94 : vp_in (nI j47) 9 := (vp_in_nI (by omega) (by decide))
                    refine R_iaload (pc := 111) dX9_farOf_111 (c_154 _) hx94 ?_
                    refine R_iconst (pc := 112) (v := 1) dX9_farOf_112 (by decide) ?_
                    refine R_iadd (pc := 113) dX9_farOf_113 ?_
                    refine R_iload (pc := 114) dX9_farOf_114 rfl ?_
                    refine R_icge (pc := 116) 131 dX9_farOf_116 (by decide) (fun b116_95 => ?_) (fun b116_95 => ?_)
                    · skip
                      refine R_iload (pc := 131) dX9_farOf_131 rfl ?_
                      refine st_6_5_i_i (pc := 133) dX9_farOf_133 ?_
                      refine R_aload_n (pc := 135) dX9_farOf_135 rfl rfl ?_
                      refine g_X9_63 (pc := 136) (v := .ref 155) rfl dX9_farOf_136 (c_140 _) rfl ?_
                      refine R_iload (pc := 139) dX9_farOf_139 rfl ?_
                      refine R_aload_n (pc := 141) dX9_farOf_141 rfl rfl ?_
                      refine g_X9_63 (pc := 142) (v := .ref 155) rfl dX9_farOf_142 (c_140 _) rfl ?_
                      refine R_iload (pc := 145) dX9_farOf_145 rfl ?_
                      refine R_iconst (pc := 147) (v := 1) dX9_farOf_147 (by decide) ?_
                      refine R_isub (pc := 148) dX9_farOf_148 ?_
                      have r96 : inR ((nI j47) - 1) 0 7 := inR_sub (show inR (nI j47) 1 8 from hrg47) (show inR 1 1 1 from (inR_self _)) (by decide) (by decide)
                      have e97 := ti_sub (l := 0) (h := 7) (show inR (nI j47) 1 8 from hrg47) (show inR 1 1 1 from (inR_self _)) (by decide) (by decide)
                      have hx98 : vp_in ((nI j47) - 1) 9 := (vp_of_inR r96 (by decide))
                      refine R_iaload (pc := 149) dX9_farOf_149 (c_155 _) hx98 ?_
                      refine R_iconst (pc := 150) (v := 1) dX9_farOf_150 (by decide) ?_
                      refine R_iadd (pc := 151) dX9_farOf_151 ?_
                      refine R_iload (pc := 152) dX9_farOf_152 rfl ?_
                      refine R_icge (pc := 154) 171 dX9_farOf_154 (by decide) (fun b154_99 => ?_) (fun b154_99 => ?_)
                      · skip
                        refine R_iload (pc := 171) dX9_farOf_171 rfl ?_
                        have hx100 : vp_in (nI j47) 9 := (vp_in_nI (by omega) (by decide))
                        refine W_iastore (pc := 173) dX9_farOf_173 (c_155 _) hx100 (a_155 _ _) ?_
                        have hW101 := cor_sa 155 (upd (σ47.2.2.1 155) (Int32.toNatClampNeg (nI j47)) ((σ47.2.2.1 154 (Int32.toNatClampNeg ((nI j47) - 1))) + 0)) hC47 rfl
                        refine inc_6_4_1_i (pc := 174) dX9_farOf_174 ?_
                        have r102 : inR ((nI j47) + 1) 2 9 := inR_add (show inR (nI j47) 1 8 from hrg47) (show inR 1 1 1 from (inR_self _)) (by decide) (by decide)
                        have e103 := ti_add (l := 2) (h := 9) (show inR (nI j47) 1 8 from hrg47) (show inR 1 1 1 from (inR_self _)) (by decide) (by decide)
                        refine R_goto (pc := 177) 47 dX9_farOf_177 (by decide) ?_
                        rw [nI_1]
                        exact ih47 (j47 + 1) _ _ (by omega) (by omega) hI47 hW101 hX47_0 (lj_s (by omega) (by omega) hX47_1 (by rw [← levR_s (by omega) (cost_t0 (show (wM σ a) (j27 - 1) = (wM σ b) (j47 - 1) from (by have q := b94_60; rw [hC47.2.2.1 150 rfl, ix8 ha (by omega) (by omega), ix8 hb (by omega) (by omega)] at q; exact q)) (show σ47.2.2.1 154 (Int32.toNatClampNeg ((nI j47) - 1)) = nI (lev (wM σ a) (wM σ b) (j27 - 1) (j47 - 1)) from by rw [nI_p (by omega), nI_clamp (by omega)]; exact hX47_0 _ (by have q := (show j47 ≤ (Int32.toNatClampNeg (σ.2.2.1 149 (Int32.toNatClampNeg b))) from le_jc (by omega) (by have q := b55_29; rw [hC47.2.2.1 149 rfl] at q; exact q)); omega))) (show σ47.2.2.1 154 (Int32.toNatClampNeg (nI j47)) = nI (lev (wM σ a) (wM σ b) (j27 - 1) (j47 - 1 + 1)) from by rw [nI_clamp (by omega), hX47_0 _ (show j47 ≤ (Int32.toNatClampNeg (σ.2.2.1 149 (Int32.toNatClampNeg b))) from le_jc (by omega) (by have q := b55_29; rw [hC47.2.2.1 149 rfl] at q; exact q)), show j47 - 1 + 1 = j47 from by omega]) (show σ47.2.2.1 155 (Int32.toNatClampNeg ((nI j47) - 1)) = nI (lev (wM σ a) (wM σ b) (j27 - 1 + 1) (j47 - 1)) from by rw [nI_p (by omega), nI_clamp (by omega)]; exact hX47_1 _ (by omega) (by have q := (show j47 ≤ (Int32.toNatClampNeg (σ.2.2.1 149 (Int32.toNatClampNeg b))) from le_jc (by omega) (by have q := b55_29; rw [hC47.2.2.1 149 rfl] at q; exact q)); omega)), if_neg (Int32.not_lt.mpr b116_95), if_neg (Int32.not_lt.mpr b154_99)])) (fq_a 155 _ hX47_2 rfl)
                      · skip
                        refine R_aload_n (pc := 157) dX9_farOf_157 rfl rfl ?_
                        refine g_X9_63 (pc := 158) (v := .ref 155) rfl dX9_farOf_158 (c_140 _) rfl ?_
                        refine R_iload (pc := 161) dX9_farOf_161 rfl ?_
                        refine R_iconst (pc := 163) (v := 1) dX9_farOf_163 (by decide) ?_
                        refine R_isub (pc := 164) dX9_farOf_164 ?_
                        have r104 : inR ((nI j47) - 1) 0 7 := inR_sub (show inR (nI j47) 1 8 from hrg47) (show inR 1 1 1 from (inR_self _)) (by decide) (by decide)
                        have e105 := ti_sub (l := 0) (h := 7) (show inR (nI j47) 1 8 from hrg47) (show inR 1 1 1 from (inR_self _)) (by decide) (by decide)
                        have hx106 : vp_in ((nI j47) - 1) 9 := (vp_of_inR r104 (by decide))
                        refine R_iaload (pc := 165) dX9_farOf_165 (c_155 _) hx106 ?_
                        refine R_iconst (pc := 166) (v := 1) dX9_farOf_166 (by decide) ?_
                        refine R_iadd (pc := 167) dX9_farOf_167 ?_
                        refine R_goto (pc := 168) 173 dX9_farOf_168 (by decide) ?_
                        have hx107 : vp_in (nI j47) 9 := (vp_in_nI (by omega) (by decide))
                        refine W_iastore (pc := 173) dX9_farOf_173 (c_155 _) hx107 (a_155 _ _) ?_
                        have hW108 := cor_sa 155 (upd (σ47.2.2.1 155) (Int32.toNatClampNeg (nI j47)) ((σ47.2.2.1 155 (Int32.toNatClampNeg ((nI j47) - 1))) + 1)) hC47 rfl
                        refine inc_6_4_1_i (pc := 174) dX9_farOf_174 ?_
                        have r109 : inR ((nI j47) + 1) 2 9 := inR_add (show inR (nI j47) 1 8 from hrg47) (show inR 1 1 1 from (inR_self _)) (by decide) (by decide)
                        have e110 := ti_add (l := 2) (h := 9) (show inR (nI j47) 1 8 from hrg47) (show inR 1 1 1 from (inR_self _)) (by decide) (by decide)
                        refine R_goto (pc := 177) 47 dX9_farOf_177 (by decide) ?_
                        rw [nI_1]
                        exact ih47 (j47 + 1) _ _ (by omega) (by omega) hI47 hW108 hX47_0 (lj_s (by omega) (by omega) hX47_1 (by rw [← levR_s (by omega) (cost_t0 (show (wM σ a) (j27 - 1) = (wM σ b) (j47 - 1) from (by have q := b94_60; rw [hC47.2.2.1 150 rfl, ix8 ha (by omega) (by omega), ix8 hb (by omega) (by omega)] at q; exact q)) (show σ47.2.2.1 154 (Int32.toNatClampNeg ((nI j47) - 1)) = nI (lev (wM σ a) (wM σ b) (j27 - 1) (j47 - 1)) from by rw [nI_p (by omega), nI_clamp (by omega)]; exact hX47_0 _ (by have q := (show j47 ≤ (Int32.toNatClampNeg (σ.2.2.1 149 (Int32.toNatClampNeg b))) from le_jc (by omega) (by have q := b55_29; rw [hC47.2.2.1 149 rfl] at q; exact q)); omega))) (show σ47.2.2.1 154 (Int32.toNatClampNeg (nI j47)) = nI (lev (wM σ a) (wM σ b) (j27 - 1) (j47 - 1 + 1)) from by rw [nI_clamp (by omega), hX47_0 _ (show j47 ≤ (Int32.toNatClampNeg (σ.2.2.1 149 (Int32.toNatClampNeg b))) from le_jc (by omega) (by have q := b55_29; rw [hC47.2.2.1 149 rfl] at q; exact q)), show j47 - 1 + 1 = j47 from by omega]) (show σ47.2.2.1 155 (Int32.toNatClampNeg ((nI j47) - 1)) = nI (lev (wM σ a) (wM σ b) (j27 - 1 + 1) (j47 - 1)) from by rw [nI_p (by omega), nI_clamp (by omega)]; exact hX47_1 _ (by omega) (by have q := (show j47 ≤ (Int32.toNatClampNeg (σ.2.2.1 149 (Int32.toNatClampNeg b))) from le_jc (by omega) (by have q := b55_29; rw [hC47.2.2.1 149 rfl] at q; exact q)); omega)), if_neg (Int32.not_lt.mpr b116_95), if_pos (Int32.not_le.mp b154_99)])) (fq_a 155 _ hX47_2 rfl)
                    · skip
                      refine R_aload_n (pc := 119) dX9_farOf_119 rfl rfl ?_
                      refine g_X9_60 (pc := 120) (v := .ref 154) rfl dX9_farOf_120 (c_140 _) rfl ?_
                      refine R_iload (pc := 123) dX9_farOf_123 rfl ?_
                      have hx111 : vp_in (nI j47) 9 := (vp_in_nI (by omega) (by decide))
                      refine R_iaload (pc := 125) dX9_farOf_125 (c_154 _) hx111 ?_
                      refine R_iconst (pc := 126) (v := 1) dX9_farOf_126 (by decide) ?_
                      refine R_iadd (pc := 127) dX9_farOf_127 ?_
                      refine R_goto (pc := 128) 133 dX9_farOf_128 (by decide) ?_
                      refine st_6_5_i_i (pc := 133) dX9_farOf_133 ?_
                      refine R_aload_n (pc := 135) dX9_farOf_135 rfl rfl ?_
                      refine g_X9_63 (pc := 136) (v := .ref 155) rfl dX9_farOf_136 (c_140 _) rfl ?_
                      refine R_iload (pc := 139) dX9_farOf_139 rfl ?_
                      refine R_aload_n (pc := 141) dX9_farOf_141 rfl rfl ?_
                      refine g_X9_63 (pc := 142) (v := .ref 155) rfl dX9_farOf_142 (c_140 _) rfl ?_
                      refine R_iload (pc := 145) dX9_farOf_145 rfl ?_
                      refine R_iconst (pc := 147) (v := 1) dX9_farOf_147 (by decide) ?_
                      refine R_isub (pc := 148) dX9_farOf_148 ?_
                      have r112 : inR ((nI j47) - 1) 0 7 := inR_sub (show inR (nI j47) 1 8 from hrg47) (show inR 1 1 1 from (inR_self _)) (by decide) (by decide)
                      have e113 := ti_sub (l := 0) (h := 7) (show inR (nI j47) 1 8 from hrg47) (show inR 1 1 1 from (inR_self _)) (by decide) (by decide)
                      have hx114 : vp_in ((nI j47) - 1) 9 := (vp_of_inR r112 (by decide))
                      refine R_iaload (pc := 149) dX9_farOf_149 (c_155 _) hx114 ?_
                      refine R_iconst (pc := 150) (v := 1) dX9_farOf_150 (by decide) ?_
                      refine R_iadd (pc := 151) dX9_farOf_151 ?_
                      refine R_iload (pc := 152) dX9_farOf_152 rfl ?_
                      refine R_icge (pc := 154) 171 dX9_farOf_154 (by decide) (fun b154_115 => ?_) (fun b154_115 => ?_)
                      · skip
                        refine R_iload (pc := 171) dX9_farOf_171 rfl ?_
                        have hx116 : vp_in (nI j47) 9 := (vp_in_nI (by omega) (by decide))
                        refine W_iastore (pc := 173) dX9_farOf_173 (c_155 _) hx116 (a_155 _ _) ?_
                        have hW117 := cor_sa 155 (upd (σ47.2.2.1 155) (Int32.toNatClampNeg (nI j47)) ((σ47.2.2.1 154 (Int32.toNatClampNeg (nI j47))) + 1)) hC47 rfl
                        refine inc_6_4_1_i (pc := 174) dX9_farOf_174 ?_
                        have r118 : inR ((nI j47) + 1) 2 9 := inR_add (show inR (nI j47) 1 8 from hrg47) (show inR 1 1 1 from (inR_self _)) (by decide) (by decide)
                        have e119 := ti_add (l := 2) (h := 9) (show inR (nI j47) 1 8 from hrg47) (show inR 1 1 1 from (inR_self _)) (by decide) (by decide)
                        refine R_goto (pc := 177) 47 dX9_farOf_177 (by decide) ?_
                        rw [nI_1]
                        exact ih47 (j47 + 1) _ _ (by omega) (by omega) hI47 hW117 hX47_0 (lj_s (by omega) (by omega) hX47_1 (by rw [← levR_s (by omega) (cost_t0 (show (wM σ a) (j27 - 1) = (wM σ b) (j47 - 1) from (by have q := b94_60; rw [hC47.2.2.1 150 rfl, ix8 ha (by omega) (by omega), ix8 hb (by omega) (by omega)] at q; exact q)) (show σ47.2.2.1 154 (Int32.toNatClampNeg ((nI j47) - 1)) = nI (lev (wM σ a) (wM σ b) (j27 - 1) (j47 - 1)) from by rw [nI_p (by omega), nI_clamp (by omega)]; exact hX47_0 _ (by have q := (show j47 ≤ (Int32.toNatClampNeg (σ.2.2.1 149 (Int32.toNatClampNeg b))) from le_jc (by omega) (by have q := b55_29; rw [hC47.2.2.1 149 rfl] at q; exact q)); omega))) (show σ47.2.2.1 154 (Int32.toNatClampNeg (nI j47)) = nI (lev (wM σ a) (wM σ b) (j27 - 1) (j47 - 1 + 1)) from by rw [nI_clamp (by omega), hX47_0 _ (show j47 ≤ (Int32.toNatClampNeg (σ.2.2.1 149 (Int32.toNatClampNeg b))) from le_jc (by omega) (by have q := b55_29; rw [hC47.2.2.1 149 rfl] at q; exact q)), show j47 - 1 + 1 = j47 from by omega]) (show σ47.2.2.1 155 (Int32.toNatClampNeg ((nI j47) - 1)) = nI (lev (wM σ a) (wM σ b) (j27 - 1 + 1) (j47 - 1)) from by rw [nI_p (by omega), nI_clamp (by omega)]; exact hX47_1 _ (by omega) (by have q := (show j47 ≤ (Int32.toNatClampNeg (σ.2.2.1 149 (Int32.toNatClampNeg b))) from le_jc (by omega) (by have q := b55_29; rw [hC47.2.2.1 149 rfl] at q; exact q)); omega)), if_pos (Int32.not_le.mp b116_95), if_neg (Int32.not_lt.mpr b154_115)])) (fq_a 155 _ hX47_2 rfl)
                      · skip
                        refine R_aload_n (pc := 157) dX9_farOf_157 rfl rfl ?_
                        refine g_X9_63 (pc := 158) (v := .ref 155) rfl dX9_farOf_158 (c_140 _) rfl ?_
                        refine R_iload (pc := 161) dX9_farOf_161 rfl ?_
                        refine R_iconst (pc := 163) (v := 1) dX9_farOf_163 (by decide) ?_
                        refine R_isub (pc := 164) dX9_farOf_164 ?_
                        have r120 : inR ((nI j47) - 1) 0 7 := inR_sub (show inR (nI j47) 1 8 from hrg47) (show inR 1 1 1 from (inR_self _)) (by decide) (by decide)
                        have e121 := ti_sub (l := 0) (h := 7) (show inR (nI j47) 1 8 from hrg47) (show inR 1 1 1 from (inR_self _)) (by decide) (by decide)
                        have hx122 : vp_in ((nI j47) - 1) 9 := (vp_of_inR r120 (by decide))
                        refine R_iaload (pc := 165) dX9_farOf_165 (c_155 _) hx122 ?_
                        refine R_iconst (pc := 166) (v := 1) dX9_farOf_166 (by decide) ?_
                        refine R_iadd (pc := 167) dX9_farOf_167 ?_
                        refine R_goto (pc := 168) 173 dX9_farOf_168 (by decide) ?_
                        have hx123 : vp_in (nI j47) 9 := (vp_in_nI (by omega) (by decide))
                        refine W_iastore (pc := 173) dX9_farOf_173 (c_155 _) hx123 (a_155 _ _) ?_
                        have hW124 := cor_sa 155 (upd (σ47.2.2.1 155) (Int32.toNatClampNeg (nI j47)) ((σ47.2.2.1 155 (Int32.toNatClampNeg ((nI j47) - 1))) + 1)) hC47 rfl
                        refine inc_6_4_1_i (pc := 174) dX9_farOf_174 ?_
                        have r125 : inR ((nI j47) + 1) 2 9 := inR_add (show inR (nI j47) 1 8 from hrg47) (show inR 1 1 1 from (inR_self _)) (by decide) (by decide)
                        have e126 := ti_add (l := 2) (h := 9) (show inR (nI j47) 1 8 from hrg47) (show inR 1 1 1 from (inR_self _)) (by decide) (by decide)
                        refine R_goto (pc := 177) 47 dX9_farOf_177 (by decide) ?_
                        rw [nI_1]
                        exact ih47 (j47 + 1) _ _ (by omega) (by omega) hI47 hW124 hX47_0 (lj_s (by omega) (by omega) hX47_1 (by rw [← levR_s (by omega) (cost_t0 (show (wM σ a) (j27 - 1) = (wM σ b) (j47 - 1) from (by have q := b94_60; rw [hC47.2.2.1 150 rfl, ix8 ha (by omega) (by omega), ix8 hb (by omega) (by omega)] at q; exact q)) (show σ47.2.2.1 154 (Int32.toNatClampNeg ((nI j47) - 1)) = nI (lev (wM σ a) (wM σ b) (j27 - 1) (j47 - 1)) from by rw [nI_p (by omega), nI_clamp (by omega)]; exact hX47_0 _ (by have q := (show j47 ≤ (Int32.toNatClampNeg (σ.2.2.1 149 (Int32.toNatClampNeg b))) from le_jc (by omega) (by have q := b55_29; rw [hC47.2.2.1 149 rfl] at q; exact q)); omega))) (show σ47.2.2.1 154 (Int32.toNatClampNeg (nI j47)) = nI (lev (wM σ a) (wM σ b) (j27 - 1) (j47 - 1 + 1)) from by rw [nI_clamp (by omega), hX47_0 _ (show j47 ≤ (Int32.toNatClampNeg (σ.2.2.1 149 (Int32.toNatClampNeg b))) from le_jc (by omega) (by have q := b55_29; rw [hC47.2.2.1 149 rfl] at q; exact q)), show j47 - 1 + 1 = j47 from by omega]) (show σ47.2.2.1 155 (Int32.toNatClampNeg ((nI j47) - 1)) = nI (lev (wM σ a) (wM σ b) (j27 - 1 + 1) (j47 - 1)) from by rw [nI_p (by omega), nI_clamp (by omega)]; exact hX47_1 _ (by omega) (by have q := (show j47 ≤ (Int32.toNatClampNeg (σ.2.2.1 149 (Int32.toNatClampNeg b))) from le_jc (by omega) (by have q := b55_29; rw [hC47.2.2.1 149 rfl] at q; exact q)); omega)), if_pos (Int32.not_le.mp b116_95), if_pos (Int32.not_le.mp b154_115)])) (fq_a 155 _ hX47_2 rfl)
            exact HL47 8 1 _ _ (by omega) (by omega) hI27 hW12 hX27_0 (lj_0 (by omega)) (fq_a 155 _ hX27_2 rfl)
      exact HL27 8 1 _ _ _ (by omega) (by omega) hI2 hC2 (fun k hk => hX2_0 k (by have q := (show (Int32.toNatClampNeg (σ.2.2.1 149 (Int32.toNatClampNeg b))) < 9 from Nat.lt_succ_of_le (clamp8 (iva_149 hI _ (clamp19 hb)))); omega)) (Nat.zero_le _) hX2_1
    | succ q ih2 =>
      intro j2 σ2 hj hs2 hI2 hC2 hX2_0 hX2_1
      have hrg2 : inR (nI j2) 0 8 := inR_ix hs2 (show j2 < 9 by omega) (by decide) (by decide) (by decide)
      have hlt2 : j2 < 9 := by omega
      refine R_iload_n (pc := 2) dX9_farOf_2 rfl rfl ?_
      refine R_aload_n (pc := 3) dX9_farOf_3 rfl rfl ?_
      refine g_X9_35 (pc := 4) (v := .ref 149) rfl dX9_farOf_4 (c_140 _) rfl ?_
      refine R_iload_n (pc := 7) dX9_farOf_7 rfl rfl ?_
      have hx127 : vp_in b 20 := (vp_of_inR hb (by decide))
      refine R_iaload (pc := 8) dX9_farOf_8 (c_149 _) hx127 ?_
      refine R_icgt (pc := 9) 25 dX9_farOf_9 (by decide) (fun b9_128 => ?_) (fun b9_128 => ?_)
      · skip
        refine R_iconst (pc := 25) (v := 1) dX9_farOf_25 (by decide) ?_
        refine st_6_3_i_i (pc := 26) dX9_farOf_26 ?_
        have HL27 : ∀ (q j27 : Nat) (σ27 : Sg) (g4_27 : Option Value) (g5_27 : Option Value), j27 + q = 9 → 1 ≤ j27 → Inv σ27 → Cor σ σ27 → (∀ k : Nat, k ≤ (Int32.toNatClampNeg (σ.2.2.1 149 (Int32.toNatClampNeg b))) → σ27.2.2.1 154 k = nI (lev (wM σ a) (wM σ b) (j27 - 1) k)) → j27 - 1 ≤ (Int32.toNatClampNeg (σ.2.2.1 149 (Int32.toNatClampNeg a))) → Fq fqF σ σ27 → R G l yX9_farOf cX9_farOf 6 (some .int) 0 0 0 (QI (fun x w2 => ∃ σ2, w2 = WW σ2 ∧ Inv σ2 ∧ Cor σ σ2 ∧ x = nI (lev (wM σ a) (wM σ b) (Int32.toNatClampNeg (σ.2.2.1 149 (Int32.toNatClampNeg a))) (Int32.toNatClampNeg (σ.2.2.1 149 (Int32.toNatClampNeg b)))) ∧ Fq fqF σ σ2)) 27 [(some (.ref 140)), (some (.int a)), (some (.int b)), (some (.int (nI j27))), g4_27, g5_27] [] (WW σ27) 0 0 := by
          intro q
          induction q with
          | zero =>
            intro j27 σ27 g4_27 g5_27 hj hs27 hI27 hC27 hX27_0 hX27_1 hX27_2
            obtain rfl : j27 = 9 := by omega
            refine R_iload_n (pc := 27) dX9_farOf_27 rfl rfl ?_
            refine R_aload_n (pc := 28) dX9_farOf_28 rfl rfl ?_
            refine g_X9_35 (pc := 29) (v := .ref 149) rfl dX9_farOf_29 (c_140 _) rfl ?_
            refine R_iload_n (pc := 32) dX9_farOf_32 rfl rfl ?_
            have hx129 : vp_in a 20 := (vp_of_inR ha (by decide))
            refine R_iaload (pc := 33) dX9_farOf_33 (c_149 _) hx129 ?_
            refine R_icgt (pc := 34) 220 dX9_farOf_34 (by decide) (fun _ => ?_) (fun h => False.elim (by have q1 := ti_nlt h; have q2 := ti_in (show inR (nI 9) 9 9 from (inR_self _)); have q3 := ti_in (show inR (σ27.2.2.1 149 (Int32.toNatClampNeg a)) 0 8 from (iva_149 hI27 _ (lt_of_vp hx129))); have z0 : (0 : Int32).toInt = 0 := (by decide);  have z1 : (149 : Int32).toInt = 149 := (by decide);  have z2 : (8 : Int32).toInt = 8 := (by decide);  have z3 : (9 : Int32).toInt = 9 := (by decide); omega))
            refine R_aload_n (pc := 220) dX9_farOf_220 rfl rfl ?_
            refine g_X9_60 (pc := 221) (v := .ref 154) rfl dX9_farOf_221 (c_140 _) rfl ?_
            refine R_aload_n (pc := 224) dX9_farOf_224 rfl rfl ?_
            refine g_X9_35 (pc := 225) (v := .ref 149) rfl dX9_farOf_225 (c_140 _) rfl ?_
            refine R_iload_n (pc := 228) dX9_farOf_228 rfl rfl ?_
            have hx131 : vp_in b 20 := (vp_of_inR hb (by decide))
            refine R_iaload (pc := 229) dX9_farOf_229 (c_149 _) hx131 ?_
            have hx132 : vp_in (σ27.2.2.1 149 (Int32.toNatClampNeg b)) 9 := (vp_of_inR (iva_149 hI27 _ (lt_of_vp hx131)) (by decide))
            refine R_iaload (pc := 230) dX9_farOf_230 (c_154 _) hx132 ?_
            exact R_iret (pc := 231) dX9_farOf_231 rfl rfl (Nat.zero_le _) (Nat.zero_le _) ⟨_, rfl, _, rfl, hI27, hC27, (by rw [hC27.2.2.1 149 rfl, ← (show 9 - 1 = (Int32.toNatClampNeg (σ.2.2.1 149 (Int32.toNatClampNeg a))) from by have q := (show (Int32.toNatClampNeg (σ.2.2.1 149 (Int32.toNatClampNeg a))) < 9 from Nat.lt_succ_of_le (clamp8 (iva_149 hI _ (clamp19 ha)))); omega)]; exact hX27_0 _ (Nat.le_refl _)), hX27_2⟩
          | succ q ih27 =>
            intro j27 σ27 g4_27 g5_27 hj hs27 hI27 hC27 hX27_0 hX27_1 hX27_2
            have hrg27 : inR (nI j27) 1 8 := inR_ix hs27 (show j27 < 9 by omega) (by decide) (by decide) (by decide)
            have hlt27 : j27 < 9 := by omega
            refine R_iload_n (pc := 27) dX9_farOf_27 rfl rfl ?_
            refine R_aload_n (pc := 28) dX9_farOf_28 rfl rfl ?_
            refine g_X9_35 (pc := 29) (v := .ref 149) rfl dX9_farOf_29 (c_140 _) rfl ?_
            refine R_iload_n (pc := 32) dX9_farOf_32 rfl rfl ?_
            have hx133 : vp_in a 20 := (vp_of_inR ha (by decide))
            refine R_iaload (pc := 33) dX9_farOf_33 (c_149 _) hx133 ?_
            refine R_icgt (pc := 34) 220 dX9_farOf_34 (by decide) (fun b34_134 => ?_) (fun b34_134 => ?_)
            · skip
              refine R_aload_n (pc := 220) dX9_farOf_220 rfl rfl ?_
              refine g_X9_60 (pc := 221) (v := .ref 154) rfl dX9_farOf_221 (c_140 _) rfl ?_
              refine R_aload_n (pc := 224) dX9_farOf_224 rfl rfl ?_
              refine g_X9_35 (pc := 225) (v := .ref 149) rfl dX9_farOf_225 (c_140 _) rfl ?_
              refine R_iload_n (pc := 228) dX9_farOf_228 rfl rfl ?_
              have hx135 : vp_in b 20 := (vp_of_inR hb (by decide))
              refine R_iaload (pc := 229) dX9_farOf_229 (c_149 _) hx135 ?_
              have hx136 : vp_in (σ27.2.2.1 149 (Int32.toNatClampNeg b)) 9 := (vp_of_inR (iva_149 hI27 _ (lt_of_vp hx135)) (by decide))
              refine R_iaload (pc := 230) dX9_farOf_230 (c_154 _) hx136 ?_
              exact R_iret (pc := 231) dX9_farOf_231 rfl rfl (Nat.zero_le _) (Nat.zero_le _) ⟨_, rfl, _, rfl, hI27, hC27, (by rw [hC27.2.2.1 149 rfl, ← (show j27 - 1 = (Int32.toNatClampNeg (σ.2.2.1 149 (Int32.toNatClampNeg a))) from by have q := (show (Int32.toNatClampNeg (σ.2.2.1 149 (Int32.toNatClampNeg a))) < j27 from lt_jc (by omega) (by have q := b34_134; rw [hC27.2.2.1 149 rfl] at q; exact q) (iva_149 hI _ (clamp19 ha))); omega)]; exact hX27_0 _ (Nat.le_refl _)), hX27_2⟩
            · skip
              refine R_aload_n (pc := 37) dX9_farOf_37 rfl rfl ?_
              refine g_X9_63 (pc := 38) (v := .ref 155) rfl dX9_farOf_38 (c_140 _) rfl ?_
              refine R_iconst (pc := 41) (v := 0) dX9_farOf_41 (by decide) ?_
              refine R_iload_n (pc := 42) dX9_farOf_42 rfl rfl ?_
              have hx137 : vp_in 0 9 := (by unfold vp_in; decide)
              refine W_iastore (pc := 43) dX9_farOf_43 (c_155 _) hx137 (a_155 _ _) ?_
              have hW138 := cor_sa 155 (upd (σ27.2.2.1 155) (Int32.toNatClampNeg 0) (nI j27)) hC27 rfl
              refine R_iconst (pc := 44) (v := 1) dX9_farOf_44 (by decide) ?_
              refine st_6_4_i_i (pc := 45) dX9_farOf_45 ?_
              have HL47 : ∀ (q j47 : Nat) (σ47 : Sg) (g5_47 : Option Value), j47 + q = 9 → 1 ≤ j47 → Inv σ47 → Cor σ σ47 → (∀ k : Nat, k ≤ (Int32.toNatClampNeg (σ.2.2.1 149 (Int32.toNatClampNeg b))) → σ47.2.2.1 154 k = nI (lev (wM σ a) (wM σ b) (j27 - 1) k)) → (∀ k : Nat, k < j47 → k ≤ (Int32.toNatClampNeg (σ.2.2.1 149 (Int32.toNatClampNeg b))) → σ47.2.2.1 155 k = nI (lev (wM σ a) (wM σ b) (j27 - 1 + 1) k)) → Fq fqF σ σ47 → R G l yX9_farOf cX9_farOf 6 (some .int) 0 0 0 (QI (fun x w2 => ∃ σ2, w2 = WW σ2 ∧ Inv σ2 ∧ Cor σ σ2 ∧ x = nI (lev (wM σ a) (wM σ b) (Int32.toNatClampNeg (σ.2.2.1 149 (Int32.toNatClampNeg a))) (Int32.toNatClampNeg (σ.2.2.1 149 (Int32.toNatClampNeg b)))) ∧ Fq fqF σ σ2)) 47 [(some (.ref 140)), (some (.int a)), (some (.int b)), (some (.int (nI j27))), (some (.int (nI j47))), g5_47] [] (WW σ47) 0 0 := by
                intro q
                induction q with
                | zero =>
                  intro j47 σ47 g5_47 hj hs47 hI47 hC47 hX47_0 hX47_1 hX47_2
                  obtain rfl : j47 = 9 := by omega
                  refine R_iload (pc := 47) dX9_farOf_47 rfl ?_
                  refine R_aload_n (pc := 49) dX9_farOf_49 rfl rfl ?_
                  refine g_X9_35 (pc := 50) (v := .ref 149) rfl dX9_farOf_50 (c_140 _) rfl ?_
                  refine R_iload_n (pc := 53) dX9_farOf_53 rfl rfl ?_
                  have hx139 : vp_in b 20 := (vp_of_inR hb (by decide))
                  refine R_iaload (pc := 54) dX9_farOf_54 (c_149 _) hx139 ?_
                  refine R_icgt (pc := 55) 180 dX9_farOf_55 (by decide) (fun _ => ?_) (fun h => False.elim (by have q1 := ti_nlt h; have q2 := ti_in (show inR (nI 9) 9 9 from (inR_self _)); have q3 := ti_in (show inR (σ47.2.2.1 149 (Int32.toNatClampNeg b)) 0 8 from (iva_149 hI47 _ (lt_of_vp hx139))); have z0 : (0 : Int32).toInt = 0 := (by decide);  have z1 : (149 : Int32).toInt = 149 := (by decide);  have z2 : (8 : Int32).toInt = 8 := (by decide);  have z3 : (9 : Int32).toInt = 9 := (by decide); omega))
                  refine R_iconst (pc := 180) (v := 0) dX9_farOf_180 (by decide) ?_
                  refine st_6_4_i_i (pc := 181) dX9_farOf_181 ?_
                  have HL183 : ∀ (q j183 : Nat) (σ183 : Sg), j183 + q = 9 → 0 ≤ j183 → Inv σ183 → Cor σ σ183 → (∀ k : Nat, k ≤ (Int32.toNatClampNeg (σ.2.2.1 149 (Int32.toNatClampNeg b))) → σ183.2.2.1 154 k = nI (levM (wM σ a) (wM σ b) (j27 - 1) j183 k)) → (∀ k : Nat, k ≤ (Int32.toNatClampNeg (σ.2.2.1 149 (Int32.toNatClampNeg b))) → σ183.2.2.1 155 k = nI (lev (wM σ a) (wM σ b) (j27 - 1 + 1) k)) → Fq fqF σ σ183 → R G l yX9_farOf cX9_farOf 6 (some .int) 0 0 0 (QI (fun x w2 => ∃ σ2, w2 = WW σ2 ∧ Inv σ2 ∧ Cor σ σ2 ∧ x = nI (lev (wM σ a) (wM σ b) (Int32.toNatClampNeg (σ.2.2.1 149 (Int32.toNatClampNeg a))) (Int32.toNatClampNeg (σ.2.2.1 149 (Int32.toNatClampNeg b)))) ∧ Fq fqF σ σ2)) 183 [(some (.ref 140)), (some (.int a)), (some (.int b)), (some (.int (nI j27))), (some (.int (nI j183))), g5_47] [] (WW σ183) 0 0 := by
                    intro q
                    induction q with
                    | zero =>
                      intro j183 σ183 hj hs183 hI183 hC183 hX183_0 hX183_1 hX183_2
                      obtain rfl : j183 = 9 := by omega
                      refine R_iload (pc := 183) dX9_farOf_183 rfl ?_
                      refine R_aload_n (pc := 185) dX9_farOf_185 rfl rfl ?_
                      refine g_X9_35 (pc := 186) (v := .ref 149) rfl dX9_farOf_186 (c_140 _) rfl ?_
                      refine R_iload_n (pc := 189) dX9_farOf_189 rfl rfl ?_
                      have hx141 : vp_in b 20 := (vp_of_inR hb (by decide))
                      refine R_iaload (pc := 190) dX9_farOf_190 (c_149 _) hx141 ?_
                      refine R_icgt (pc := 191) 214 dX9_farOf_191 (by decide) (fun _ => ?_) (fun h => False.elim (by have q1 := ti_nlt h; have q2 := ti_in (show inR (nI 9) 9 9 from (inR_self _)); have q3 := ti_in (show inR (σ183.2.2.1 149 (Int32.toNatClampNeg b)) 0 8 from (iva_149 hI183 _ (lt_of_vp hx141))); have z0 : (0 : Int32).toInt = 0 := (by decide);  have z1 : (149 : Int32).toInt = 149 := (by decide);  have z2 : (8 : Int32).toInt = 8 := (by decide);  have z3 : (9 : Int32).toInt = 9 := (by decide); omega))
                      refine inc_6_3_1_i (pc := 214) dX9_farOf_214 ?_
                      have r143 : inR ((nI j27) + 1) 2 9 := inR_add (show inR (nI j27) 1 8 from hrg27) (show inR 1 1 1 from (inR_self _)) (by decide) (by decide)
                      have e144 := ti_add (l := 2) (h := 9) (show inR (nI j27) 1 8 from hrg27) (show inR 1 1 1 from (inR_self _)) (by decide) (by decide)
                      refine R_goto (pc := 217) 27 dX9_farOf_217 (by decide) ?_
                      rw [nI_1]
                      exact ih27 (j27 + 1) _ _ _ (by omega) (by omega) hI183 hC183 (li_e (by omega) (show (Int32.toNatClampNeg (σ.2.2.1 149 (Int32.toNatClampNeg b))) < 9 from Nat.lt_succ_of_le (clamp8 (iva_149 hI _ (clamp19 hb)))) hX183_0) (show j27 + 1 - 1 ≤ (Int32.toNatClampNeg (σ.2.2.1 149 (Int32.toNatClampNeg a))) from (show j27 ≤ (Int32.toNatClampNeg (σ.2.2.1 149 (Int32.toNatClampNeg a))) from le_jc (by omega) (by have q := b34_134; rw [hC27.2.2.1 149 rfl] at q; exact q))) hX183_2
                    | succ q ih183 =>
                      intro j183 σ183 hj hs183 hI183 hC183 hX183_0 hX183_1 hX183_2
                      have hrg183 : inR (nI j183) 0 8 := inR_ix hs183 (show j183 < 9 by omega) (by decide) (by decide) (by decide)
                      have hlt183 : j183 < 9 := by omega
                      refine R_iload (pc := 183) dX9_farOf_183 rfl ?_
                      refine R_aload_n (pc := 185) dX9_farOf_185 rfl rfl ?_
                      refine g_X9_35 (pc := 186) (v := .ref 149) rfl dX9_farOf_186 (c_140 _) rfl ?_
                      refine R_iload_n (pc := 189) dX9_farOf_189 rfl rfl ?_
                      have hx145 : vp_in b 20 := (vp_of_inR hb (by decide))
                      refine R_iaload (pc := 190) dX9_farOf_190 (c_149 _) hx145 ?_
                      refine R_icgt (pc := 191) 214 dX9_farOf_191 (by decide) (fun b191_146 => ?_) (fun b191_146 => ?_)
                      · skip
                        refine inc_6_3_1_i (pc := 214) dX9_farOf_214 ?_
                        have r147 : inR ((nI j27) + 1) 2 9 := inR_add (show inR (nI j27) 1 8 from hrg27) (show inR 1 1 1 from (inR_self _)) (by decide) (by decide)
                        have e148 := ti_add (l := 2) (h := 9) (show inR (nI j27) 1 8 from hrg27) (show inR 1 1 1 from (inR_self _)) (by decide) (by decide)
                        refine R_goto (pc := 217) 27 dX9_farOf_217 (by decide) ?_
                        rw [nI_1]
                        exact ih27 (j27 + 1) _ _ _ (by omega) (by omega) hI183 hC183 (li_e (by omega) (show (Int32.toNatClampNeg (σ.2.2.1 149 (Int32.toNatClampNeg b))) < j183 from lt_jc (by omega) (by have q := b191_146; rw [hC183.2.2.1 149 rfl] at q; exact q) (iva_149 hI _ (clamp19 hb))) hX183_0) (show j27 + 1 - 1 ≤ (Int32.toNatClampNeg (σ.2.2.1 149 (Int32.toNatClampNeg a))) from (show j27 ≤ (Int32.toNatClampNeg (σ.2.2.1 149 (Int32.toNatClampNeg a))) from le_jc (by omega) (by have q := b34_134; rw [hC27.2.2.1 149 rfl] at q; exact q))) hX183_2
                      · skip
                        refine R_aload_n (pc := 194) dX9_farOf_194 rfl rfl ?_
                        refine g_X9_60 (pc := 195) (v := .ref 154) rfl dX9_farOf_195 (c_140 _) rfl ?_
                        refine R_iload (pc := 198) dX9_farOf_198 rfl ?_
                        refine R_aload_n (pc := 200) dX9_farOf_200 rfl rfl ?_
                        refine g_X9_63 (pc := 201) (v := .ref 155) rfl dX9_farOf_201 (c_140 _) rfl ?_
                        refine R_iload (pc := 204) dX9_farOf_204 rfl ?_
                        have hx149 : vp_in (nI j183) 9 := (vp_in_nI (by omega) (by decide))
                        refine R_iaload (pc := 206) dX9_farOf_206 (c_155 _) hx149 ?_
                        have hx150 : vp_in (nI j183) 9 := (vp_in_nI (by omega) (by decide))
                        refine W_iastore (pc := 207) dX9_farOf_207 (c_154 _) hx150 (a_154 _ _) ?_
                        have hW151 := cor_sa 154 (upd (σ183.2.2.1 154) (Int32.toNatClampNeg (nI j183)) (σ183.2.2.1 155 (Int32.toNatClampNeg (nI j183)))) hC183 rfl
                        refine inc_6_4_1_i (pc := 208) dX9_farOf_208 ?_
                        have r152 : inR ((nI j183) + 1) 1 9 := inR_add (show inR (nI j183) 0 8 from hrg183) (show inR 1 1 1 from (inR_self _)) (by decide) (by decide)
                        have e153 := ti_add (l := 1) (h := 9) (show inR (nI j183) 0 8 from hrg183) (show inR 1 1 1 from (inR_self _)) (by decide) (by decide)
                        refine R_goto (pc := 211) 183 dX9_farOf_211 (by decide) ?_
                        rw [nI_1]
                        exact ih183 (j183 + 1) _ (by omega) (by omega) hI183 hW151 (li_s0 (by omega) hX183_0 (show σ183.2.2.1 155 (Int32.toNatClampNeg (nI j183)) = _ from by rw [nI_clamp (by omega)]; exact hX183_1 _ (show j183 ≤ (Int32.toNatClampNeg (σ.2.2.1 149 (Int32.toNatClampNeg b))) from le_jc (by omega) (by have q := b191_146; rw [hC183.2.2.1 149 rfl] at q; exact q)))) hX183_1 (fq_a 154 _ hX183_2 rfl)
                  exact HL183 9 0 _ (by omega) (by omega) hI47 hC47 (fun k hk => by unfold levM; rw [if_neg (Nat.not_lt_zero k)]; exact hX47_0 k hk) (fun k hk => hX47_1 k (by have q := (show (Int32.toNatClampNeg (σ.2.2.1 149 (Int32.toNatClampNeg b))) < 9 from Nat.lt_succ_of_le (clamp8 (iva_149 hI _ (clamp19 hb)))); omega) hk) hX47_2
                | succ q ih47 =>
                  intro j47 σ47 g5_47 hj hs47 hI47 hC47 hX47_0 hX47_1 hX47_2
                  have hrg47 : inR (nI j47) 1 8 := inR_ix hs47 (show j47 < 9 by omega) (by decide) (by decide) (by decide)
                  have hlt47 : j47 < 9 := by omega
                  refine R_iload (pc := 47) dX9_farOf_47 rfl ?_
                  refine R_aload_n (pc := 49) dX9_farOf_49 rfl rfl ?_
                  refine g_X9_35 (pc := 50) (v := .ref 149) rfl dX9_farOf_50 (c_140 _) rfl ?_
                  refine R_iload_n (pc := 53) dX9_farOf_53 rfl rfl ?_
                  have hx154 : vp_in b 20 := (vp_of_inR hb (by decide))
                  refine R_iaload (pc := 54) dX9_farOf_54 (c_149 _) hx154 ?_
                  refine R_icgt (pc := 55) 180 dX9_farOf_55 (by decide) (fun b55_155 => ?_) (fun b55_155 => ?_)
                  · skip
                    refine R_iconst (pc := 180) (v := 0) dX9_farOf_180 (by decide) ?_
                    refine st_6_4_i_i (pc := 181) dX9_farOf_181 ?_
                    have HL183 : ∀ (q j183 : Nat) (σ183 : Sg), j183 + q = 9 → 0 ≤ j183 → Inv σ183 → Cor σ σ183 → (∀ k : Nat, k ≤ (Int32.toNatClampNeg (σ.2.2.1 149 (Int32.toNatClampNeg b))) → σ183.2.2.1 154 k = nI (levM (wM σ a) (wM σ b) (j27 - 1) j183 k)) → (∀ k : Nat, k ≤ (Int32.toNatClampNeg (σ.2.2.1 149 (Int32.toNatClampNeg b))) → σ183.2.2.1 155 k = nI (lev (wM σ a) (wM σ b) (j27 - 1 + 1) k)) → Fq fqF σ σ183 → R G l yX9_farOf cX9_farOf 6 (some .int) 0 0 0 (QI (fun x w2 => ∃ σ2, w2 = WW σ2 ∧ Inv σ2 ∧ Cor σ σ2 ∧ x = nI (lev (wM σ a) (wM σ b) (Int32.toNatClampNeg (σ.2.2.1 149 (Int32.toNatClampNeg a))) (Int32.toNatClampNeg (σ.2.2.1 149 (Int32.toNatClampNeg b)))) ∧ Fq fqF σ σ2)) 183 [(some (.ref 140)), (some (.int a)), (some (.int b)), (some (.int (nI j27))), (some (.int (nI j183))), g5_47] [] (WW σ183) 0 0 := by
                      intro q
                      induction q with
                      | zero =>
                        intro j183 σ183 hj hs183 hI183 hC183 hX183_0 hX183_1 hX183_2
                        obtain rfl : j183 = 9 := by omega
                        refine R_iload (pc := 183) dX9_farOf_183 rfl ?_
                        refine R_aload_n (pc := 185) dX9_farOf_185 rfl rfl ?_
                        refine g_X9_35 (pc := 186) (v := .ref 149) rfl dX9_farOf_186 (c_140 _) rfl ?_
                        refine R_iload_n (pc := 189) dX9_farOf_189 rfl rfl ?_
                        have hx156 : vp_in b 20 := (vp_of_inR hb (by decide))
                        refine R_iaload (pc := 190) dX9_farOf_190 (c_149 _) hx156 ?_
                        refine R_icgt (pc := 191) 214 dX9_farOf_191 (by decide) (fun _ => ?_) (fun h => False.elim (by have q1 := ti_nlt h; have q2 := ti_in (show inR (nI 9) 9 9 from (inR_self _)); have q3 := ti_in (show inR (σ183.2.2.1 149 (Int32.toNatClampNeg b)) 0 8 from (iva_149 hI183 _ (lt_of_vp hx156))); have z0 : (0 : Int32).toInt = 0 := (by decide);  have z1 : (149 : Int32).toInt = 149 := (by decide);  have z2 : (8 : Int32).toInt = 8 := (by decide);  have z3 : (9 : Int32).toInt = 9 := (by decide); omega))
                        refine inc_6_3_1_i (pc := 214) dX9_farOf_214 ?_
                        have r158 : inR ((nI j27) + 1) 2 9 := inR_add (show inR (nI j27) 1 8 from hrg27) (show inR 1 1 1 from (inR_self _)) (by decide) (by decide)
                        have e159 := ti_add (l := 2) (h := 9) (show inR (nI j27) 1 8 from hrg27) (show inR 1 1 1 from (inR_self _)) (by decide) (by decide)
                        refine R_goto (pc := 217) 27 dX9_farOf_217 (by decide) ?_
                        rw [nI_1]
                        exact ih27 (j27 + 1) _ _ _ (by omega) (by omega) hI183 hC183 (li_e (by omega) (show (Int32.toNatClampNeg (σ.2.2.1 149 (Int32.toNatClampNeg b))) < 9 from Nat.lt_succ_of_le (clamp8 (iva_149 hI _ (clamp19 hb)))) hX183_0) (show j27 + 1 - 1 ≤ (Int32.toNatClampNeg (σ.2.2.1 149 (Int32.toNatClampNeg a))) from (show j27 ≤ (Int32.toNatClampNeg (σ.2.2.1 149 (Int32.toNatClampNeg a))) from le_jc (by omega) (by have q := b34_134; rw [hC27.2.2.1 149 rfl] at q; exact q))) hX183_2
                      | succ q ih183 =>
                        intro j183 σ183 hj hs183 hI183 hC183 hX183_0 hX183_1 hX183_2
                        have hrg183 : inR (nI j183) 0 8 := inR_ix hs183 (show j183 < 9 by omega) (by decide) (by decide) (by decide)
                        have hlt183 : j183 < 9 := by omega
                        refine R_iload (pc := 183) dX9_farOf_183 rfl ?_
                        refine R_aload_n (pc := 185) dX9_farOf_185 rfl rfl ?_
                        refine g_X9_35 (pc := 186) (v := .ref 149) rfl dX9_farOf_186 (c_140 _) rfl ?_
                        refine R_iload_n (pc := 189) dX9_farOf_189 rfl rfl ?_
                        have hx160 : vp_in b 20 := (vp_of_inR hb (by decide))
                        refine R_iaload (pc := 190) dX9_farOf_190 (c_149 _) hx160 ?_
                        refine R_icgt (pc := 191) 214 dX9_farOf_191 (by decide) (fun b191_161 => ?_) (fun b191_161 => ?_)
                        · skip
                          refine inc_6_3_1_i (pc := 214) dX9_farOf_214 ?_
                          have r162 : inR ((nI j27) + 1) 2 9 := inR_add (show inR (nI j27) 1 8 from hrg27) (show inR 1 1 1 from (inR_self _)) (by decide) (by decide)
                          have e163 := ti_add (l := 2) (h := 9) (show inR (nI j27) 1 8 from hrg27) (show inR 1 1 1 from (inR_self _)) (by decide) (by decide)
                          refine R_goto (pc := 217) 27 dX9_farOf_217 (by decide) ?_
                          rw [nI_1]
                          exact ih27 (j27 + 1) _ _ _ (by omega) (by omega) hI183 hC183 (li_e (by omega) (show (Int32.toNatClampNeg (σ.2.2.1 149 (Int32.toNatClampNeg b))) < j183 from lt_jc (by omega) (by have q := b191_161; rw [hC183.2.2.1 149 rfl] at q; exact q) (iva_149 hI _ (clamp19 hb))) hX183_0) (show j27 + 1 - 1 ≤ (Int32.toNatClampNeg (σ.2.2.1 149 (Int32.toNatClampNeg a))) from (show j27 ≤ (Int32.toNatClampNeg (σ.2.2.1 149 (Int32.toNatClampNeg a))) from le_jc (by omega) (by have q := b34_134; rw [hC27.2.2.1 149 rfl] at q; exact q))) hX183_2
                        · skip
                          refine R_aload_n (pc := 194) dX9_farOf_194 rfl rfl ?_
                          refine g_X9_60 (pc := 195) (v := .ref 154) rfl dX9_farOf_195 (c_140 _) rfl ?_
                          refine R_iload (pc := 198) dX9_farOf_198 rfl ?_
                          refine R_aload_n (pc := 200) dX9_farOf_200 rfl rfl ?_
                          refine g_X9_63 (pc := 201) (v := .ref 155) rfl dX9_farOf_201 (c_140 _) rfl ?_
                          refine R_iload (pc := 204) dX9_farOf_204 rfl ?_
                          have hx164 : vp_in (nI j183) 9 := (vp_in_nI (by omega) (by decide))
                          refine R_iaload (pc := 206) dX9_farOf_206 (c_155 _) hx164 ?_
                          have hx165 : vp_in (nI j183) 9 := (vp_in_nI (by omega) (by decide))
                          refine W_iastore (pc := 207) dX9_farOf_207 (c_154 _) hx165 (a_154 _ _) ?_
                          have hW166 := cor_sa 154 (upd (σ183.2.2.1 154) (Int32.toNatClampNeg (nI j183)) (σ183.2.2.1 155 (Int32.toNatClampNeg (nI j183)))) hC183 rfl
                          refine inc_6_4_1_i (pc := 208) dX9_farOf_208 ?_
                          have r167 : inR ((nI j183) + 1) 1 9 := inR_add (show inR (nI j183) 0 8 from hrg183) (show inR 1 1 1 from (inR_self _)) (by decide) (by decide)
                          have e168 := ti_add (l := 1) (h := 9) (show inR (nI j183) 0 8 from hrg183) (show inR 1 1 1 from (inR_self _)) (by decide) (by decide)
                          refine R_goto (pc := 211) 183 dX9_farOf_211 (by decide) ?_
                          rw [nI_1]
                          exact ih183 (j183 + 1) _ (by omega) (by omega) hI183 hW166 (li_s0 (by omega) hX183_0 (show σ183.2.2.1 155 (Int32.toNatClampNeg (nI j183)) = _ from by rw [nI_clamp (by omega)]; exact hX183_1 _ (show j183 ≤ (Int32.toNatClampNeg (σ.2.2.1 149 (Int32.toNatClampNeg b))) from le_jc (by omega) (by have q := b191_161; rw [hC183.2.2.1 149 rfl] at q; exact q)))) hX183_1 (fq_a 154 _ hX183_2 rfl)
                    exact HL183 9 0 _ (by omega) (by omega) hI47 hC47 (fun k hk => by unfold levM; rw [if_neg (Nat.not_lt_zero k)]; exact hX47_0 k hk) (fun k hk => hX47_1 k (by have q := (show (Int32.toNatClampNeg (σ.2.2.1 149 (Int32.toNatClampNeg b))) < j47 from lt_jc (by omega) (by have q := b55_155; rw [hC47.2.2.1 149 rfl] at q; exact q) (iva_149 hI _ (clamp19 hb))); omega) hk) hX47_2
                  · skip
                    refine R_aload_n (pc := 58) dX9_farOf_58 rfl rfl ?_
                    refine g_X9_60 (pc := 59) (v := .ref 154) rfl dX9_farOf_59 (c_140 _) rfl ?_
                    refine R_iload (pc := 62) dX9_farOf_62 rfl ?_
                    refine R_iconst (pc := 64) (v := 1) dX9_farOf_64 (by decide) ?_
                    refine R_isub (pc := 65) dX9_farOf_65 ?_
                    have r169 : inR ((nI j47) - 1) 0 7 := inR_sub (show inR (nI j47) 1 8 from hrg47) (show inR 1 1 1 from (inR_self _)) (by decide) (by decide)
                    have e170 := ti_sub (l := 0) (h := 7) (show inR (nI j47) 1 8 from hrg47) (show inR 1 1 1 from (inR_self _)) (by decide) (by decide)
                    have hx171 : vp_in ((nI j47) - 1) 9 := (vp_of_inR r169 (by decide))
                    refine R_iaload (pc := 66) dX9_farOf_66 (c_154 _) hx171 ?_
                    refine R_aload_n (pc := 67) dX9_farOf_67 rfl rfl ?_
                    refine g_X9_38 (pc := 68) (v := .ref 150) rfl dX9_farOf_68 (c_140 _) rfl ?_
                    refine R_bipush (pc := 71) (v := 8) dX9_farOf_71 (by decide) ?_
                    refine R_iload_n (pc := 73) dX9_farOf_73 rfl rfl ?_
                    refine R_imul (pc := 74) dX9_farOf_74 ?_
                    have r172 : inR (8 * a) 0 152 := inR_mulc (c := 8) (l := 0) (h := 152) 8 (by decide) (show inR a 0 19 from ha) (by decide) (by decide)
                    have e173 := ti_mulc (c := 8) (l := 0) (h := 152) 8 (by decide) (show inR a 0 19 from ha) (by decide) (by decide)
                    refine R_iload_n (pc := 75) dX9_farOf_75 rfl rfl ?_
                    refine R_iadd (pc := 76) dX9_farOf_76 ?_
                    have r174 : inR ((8 * a) + (nI j27)) 1 160 := inR_add (show inR (8 * a) 0 152 from r172) (show inR (nI j27) 1 8 from hrg27) (by decide) (by decide)
                    have e175 := ti_add (l := 1) (h := 160) (show inR (8 * a) 0 152 from r172) (show inR (nI j27) 1 8 from hrg27) (by decide) (by decide)
                    refine R_iconst (pc := 77) (v := 1) dX9_farOf_77 (by decide) ?_
                    refine R_isub (pc := 78) dX9_farOf_78 ?_
                    have r176 : inR (((8 * a) + (nI j27)) - 1) 0 159 := inR_sub (show inR ((8 * a) + (nI j27)) 1 160 from r174) (show inR 1 1 1 from (inR_self _)) (by decide) (by decide)
                    have e177 := ti_sub (l := 0) (h := 159) (show inR ((8 * a) + (nI j27)) 1 160 from r174) (show inR 1 1 1 from (inR_self _)) (by decide) (by decide)
                    have hx178 : vp_in (((8 * a) + (nI j27)) - 1) 160 := (vp_of_inR r176 (by decide))
                    refine R_iaload (pc := 79) dX9_farOf_79 (c_150 _) hx178 ?_
                    refine R_aload_n (pc := 80) dX9_farOf_80 rfl rfl ?_
                    refine g_X9_38 (pc := 81) (v := .ref 150) rfl dX9_farOf_81 (c_140 _) rfl ?_
                    refine R_bipush (pc := 84) (v := 8) dX9_farOf_84 (by decide) ?_
                    refine R_iload_n (pc := 86) dX9_farOf_86 rfl rfl ?_
                    refine R_imul (pc := 87) dX9_farOf_87 ?_
                    have r179 : inR (8 * b) 0 152 := inR_mulc (c := 8) (l := 0) (h := 152) 8 (by decide) (show inR b 0 19 from hb) (by decide) (by decide)
                    have e180 := ti_mulc (c := 8) (l := 0) (h := 152) 8 (by decide) (show inR b 0 19 from hb) (by decide) (by decide)
                    refine R_iload (pc := 88) dX9_farOf_88 rfl ?_
                    refine R_iadd (pc := 90) dX9_farOf_90 ?_
                    have r181 : inR ((8 * b) + (nI j47)) 1 160 := inR_add (show inR (8 * b) 0 152 from r179) (show inR (nI j47) 1 8 from hrg47) (by decide) (by decide)
                    have e182 := ti_add (l := 1) (h := 160) (show inR (8 * b) 0 152 from r179) (show inR (nI j47) 1 8 from hrg47) (by decide) (by decide)
                    refine R_iconst (pc := 91) (v := 1) dX9_farOf_91 (by decide) ?_
                    refine R_isub (pc := 92) dX9_farOf_92 ?_
                    have r183 : inR (((8 * b) + (nI j47)) - 1) 0 159 := inR_sub (show inR ((8 * b) + (nI j47)) 1 160 from r181) (show inR 1 1 1 from (inR_self _)) (by decide) (by decide)
                    have e184 := ti_sub (l := 0) (h := 159) (show inR ((8 * b) + (nI j47)) 1 160 from r181) (show inR 1 1 1 from (inR_self _)) (by decide) (by decide)
                    have hx185 : vp_in (((8 * b) + (nI j47)) - 1) 160 := (vp_of_inR r183 (by decide))
                    refine R_iaload (pc := 93) dX9_farOf_93 (c_150 _) hx185 ?_
                    refine R_icne (pc := 94) 101 dX9_farOf_94 (by decide) (fun b94_186 => ?_) (fun b94_186 => ?_)
                    · skip
                      refine R_iconst (pc := 101) (v := 1) dX9_farOf_101 (by decide) ?_
                      refine R_iadd (pc := 102) dX9_farOf_102 ?_
                      refine st_6_5_i_i (pc := 103) dX9_farOf_103 ?_
                      refine R_aload_n (pc := 105) dX9_farOf_105 rfl rfl ?_
                      refine g_X9_60 (pc := 106) (v := .ref 154) rfl dX9_farOf_106 (c_140 _) rfl ?_
                      refine R_iload (pc := 109) dX9_farOf_109 rfl ?_
                      have hx187 : vp_in (nI j47) 9 := (vp_in_nI (by omega) (by decide))
                      refine R_iaload (pc := 111) dX9_farOf_111 (c_154 _) hx187 ?_
                      refine R_iconst (pc := 112) (v := 1) dX9_farOf_112 (by decide) ?_
                      refine R_iadd (pc := 113) dX9_farOf_113 ?_
                      refine R_iload (pc := 114) dX9_farOf_114 rfl ?_
                      refine R_icge (pc := 116) 131 dX9_farOf_116 (by decide) (fun b116_188 => ?_) (fun b116_188 => ?_)
                      · skip
                        refine R_iload (pc := 131) dX9_farOf_131 rfl ?_
                        refine st_6_5_i_i (pc := 133) dX9_farOf_133 ?_
                        refine R_aload_n (pc := 135) dX9_farOf_135 rfl rfl ?_
                        refine g_X9_63 (pc := 136) (v := .ref 155) rfl dX9_farOf_136 (c_140 _) rfl ?_
                        refine R_iload (pc := 139) dX9_farOf_139 rfl ?_
                        refine R_aload_n (pc := 141) dX9_farOf_141 rfl rfl ?_
                        refine g_X9_63 (pc := 142) (v := .ref 155) rfl dX9_farOf_142 (c_140 _) rfl ?_
                        refine R_iload (pc := 145) dX9_farOf_145 rfl ?_
                        refine R_iconst (pc := 147) (v := 1) dX9_farOf_147 (by decide) ?_
                        refine R_isub (pc := 148) dX9_farOf_148 ?_
                        have r189 : inR ((nI j47) - 1) 0 7 := inR_sub (show inR (nI j47) 1 8 from hrg47) (show inR 1 1 1 from (inR_self _)) (by decide) (by decide)
                        have e190 := ti_sub (l := 0) (h := 7) (show inR (nI j47) 1 8 from hrg47) (show inR 1 1 1 from (inR_self _)) (by decide) (by decide)
                        have hx191 : vp_in ((nI j47) - 1) 9 := (vp_of_inR r189 (by decide))
                        refine R_iaload (pc := 149) dX9_farOf_149 (c_155 _) hx191 ?_
                        refine R_iconst (pc := 150) (v := 1) dX9_farOf_150 (by decide) ?_
                        refine R_iadd (pc := 151) dX9_farOf_151 ?_
                        refine R_iload (pc := 152) dX9_farOf_152 rfl ?_
                        refine R_icge (pc := 154) 171 dX9_farOf_154 (by decide) (fun b154_192 => ?_) (fun b154_192 => ?_)
                        · skip
                          refine R_iload (pc := 171) dX9_farOf_171 rfl ?_
                          have hx193 : vp_in (nI j47) 9 := (vp_in_nI (by omega) (by decide))
                          refine W_iastore (pc := 173) dX9_farOf_173 (c_155 _) hx193 (a_155 _ _) ?_
                          have hW194 := cor_sa 155 (upd (σ47.2.2.1 155) (Int32.toNatClampNeg (nI j47)) ((σ47.2.2.1 154 (Int32.toNatClampNeg ((nI j47) - 1))) + 1)) hC47 rfl
                          refine inc_6_4_1_i (pc := 174) dX9_farOf_174 ?_
                          have r195 : inR ((nI j47) + 1) 2 9 := inR_add (show inR (nI j47) 1 8 from hrg47) (show inR 1 1 1 from (inR_self _)) (by decide) (by decide)
                          have e196 := ti_add (l := 2) (h := 9) (show inR (nI j47) 1 8 from hrg47) (show inR 1 1 1 from (inR_self _)) (by decide) (by decide)
                          refine R_goto (pc := 177) 47 dX9_farOf_177 (by decide) ?_
                          rw [nI_1]
                          exact ih47 (j47 + 1) _ _ (by omega) (by omega) hI47 hW194 hX47_0 (lj_s (by omega) (by omega) hX47_1 (by rw [← levR_s (by omega) (cost_f (show ¬ (wM σ a) (j27 - 1) = (wM σ b) (j47 - 1) from (by have q := b94_186; rw [hC47.2.2.1 150 rfl, ix8 ha (by omega) (by omega), ix8 hb (by omega) (by omega)] at q; exact q)) (show σ47.2.2.1 154 (Int32.toNatClampNeg ((nI j47) - 1)) = nI (lev (wM σ a) (wM σ b) (j27 - 1) (j47 - 1)) from by rw [nI_p (by omega), nI_clamp (by omega)]; exact hX47_0 _ (by have q := (show j47 ≤ (Int32.toNatClampNeg (σ.2.2.1 149 (Int32.toNatClampNeg b))) from le_jc (by omega) (by have q := b55_155; rw [hC47.2.2.1 149 rfl] at q; exact q)); omega))) (show σ47.2.2.1 154 (Int32.toNatClampNeg (nI j47)) = nI (lev (wM σ a) (wM σ b) (j27 - 1) (j47 - 1 + 1)) from by rw [nI_clamp (by omega), hX47_0 _ (show j47 ≤ (Int32.toNatClampNeg (σ.2.2.1 149 (Int32.toNatClampNeg b))) from le_jc (by omega) (by have q := b55_155; rw [hC47.2.2.1 149 rfl] at q; exact q)), show j47 - 1 + 1 = j47 from by omega]) (show σ47.2.2.1 155 (Int32.toNatClampNeg ((nI j47) - 1)) = nI (lev (wM σ a) (wM σ b) (j27 - 1 + 1) (j47 - 1)) from by rw [nI_p (by omega), nI_clamp (by omega)]; exact hX47_1 _ (by omega) (by have q := (show j47 ≤ (Int32.toNatClampNeg (σ.2.2.1 149 (Int32.toNatClampNeg b))) from le_jc (by omega) (by have q := b55_155; rw [hC47.2.2.1 149 rfl] at q; exact q)); omega)), if_neg (Int32.not_lt.mpr b116_188), if_neg (Int32.not_lt.mpr b154_192)])) (fq_a 155 _ hX47_2 rfl)
                        · skip
                          refine R_aload_n (pc := 157) dX9_farOf_157 rfl rfl ?_
                          refine g_X9_63 (pc := 158) (v := .ref 155) rfl dX9_farOf_158 (c_140 _) rfl ?_
                          refine R_iload (pc := 161) dX9_farOf_161 rfl ?_
                          refine R_iconst (pc := 163) (v := 1) dX9_farOf_163 (by decide) ?_
                          refine R_isub (pc := 164) dX9_farOf_164 ?_
                          have r197 : inR ((nI j47) - 1) 0 7 := inR_sub (show inR (nI j47) 1 8 from hrg47) (show inR 1 1 1 from (inR_self _)) (by decide) (by decide)
                          have e198 := ti_sub (l := 0) (h := 7) (show inR (nI j47) 1 8 from hrg47) (show inR 1 1 1 from (inR_self _)) (by decide) (by decide)
                          have hx199 : vp_in ((nI j47) - 1) 9 := (vp_of_inR r197 (by decide))
                          refine R_iaload (pc := 165) dX9_farOf_165 (c_155 _) hx199 ?_
                          refine R_iconst (pc := 166) (v := 1) dX9_farOf_166 (by decide) ?_
                          refine R_iadd (pc := 167) dX9_farOf_167 ?_
                          refine R_goto (pc := 168) 173 dX9_farOf_168 (by decide) ?_
                          have hx200 : vp_in (nI j47) 9 := (vp_in_nI (by omega) (by decide))
                          refine W_iastore (pc := 173) dX9_farOf_173 (c_155 _) hx200 (a_155 _ _) ?_
                          have hW201 := cor_sa 155 (upd (σ47.2.2.1 155) (Int32.toNatClampNeg (nI j47)) ((σ47.2.2.1 155 (Int32.toNatClampNeg ((nI j47) - 1))) + 1)) hC47 rfl
                          refine inc_6_4_1_i (pc := 174) dX9_farOf_174 ?_
                          have r202 : inR ((nI j47) + 1) 2 9 := inR_add (show inR (nI j47) 1 8 from hrg47) (show inR 1 1 1 from (inR_self _)) (by decide) (by decide)
                          have e203 := ti_add (l := 2) (h := 9) (show inR (nI j47) 1 8 from hrg47) (show inR 1 1 1 from (inR_self _)) (by decide) (by decide)
                          refine R_goto (pc := 177) 47 dX9_farOf_177 (by decide) ?_
                          rw [nI_1]
                          exact ih47 (j47 + 1) _ _ (by omega) (by omega) hI47 hW201 hX47_0 (lj_s (by omega) (by omega) hX47_1 (by rw [← levR_s (by omega) (cost_f (show ¬ (wM σ a) (j27 - 1) = (wM σ b) (j47 - 1) from (by have q := b94_186; rw [hC47.2.2.1 150 rfl, ix8 ha (by omega) (by omega), ix8 hb (by omega) (by omega)] at q; exact q)) (show σ47.2.2.1 154 (Int32.toNatClampNeg ((nI j47) - 1)) = nI (lev (wM σ a) (wM σ b) (j27 - 1) (j47 - 1)) from by rw [nI_p (by omega), nI_clamp (by omega)]; exact hX47_0 _ (by have q := (show j47 ≤ (Int32.toNatClampNeg (σ.2.2.1 149 (Int32.toNatClampNeg b))) from le_jc (by omega) (by have q := b55_155; rw [hC47.2.2.1 149 rfl] at q; exact q)); omega))) (show σ47.2.2.1 154 (Int32.toNatClampNeg (nI j47)) = nI (lev (wM σ a) (wM σ b) (j27 - 1) (j47 - 1 + 1)) from by rw [nI_clamp (by omega), hX47_0 _ (show j47 ≤ (Int32.toNatClampNeg (σ.2.2.1 149 (Int32.toNatClampNeg b))) from le_jc (by omega) (by have q := b55_155; rw [hC47.2.2.1 149 rfl] at q; exact q)), show j47 - 1 + 1 = j47 from by omega]) (show σ47.2.2.1 155 (Int32.toNatClampNeg ((nI j47) - 1)) = nI (lev (wM σ a) (wM σ b) (j27 - 1 + 1) (j47 - 1)) from by rw [nI_p (by omega), nI_clamp (by omega)]; exact hX47_1 _ (by omega) (by have q := (show j47 ≤ (Int32.toNatClampNeg (σ.2.2.1 149 (Int32.toNatClampNeg b))) from le_jc (by omega) (by have q := b55_155; rw [hC47.2.2.1 149 rfl] at q; exact q)); omega)), if_neg (Int32.not_lt.mpr b116_188), if_pos (Int32.not_le.mp b154_192)])) (fq_a 155 _ hX47_2 rfl)
                      · skip
                        refine R_aload_n (pc := 119) dX9_farOf_119 rfl rfl ?_
                        refine g_X9_60 (pc := 120) (v := .ref 154) rfl dX9_farOf_120 (c_140 _) rfl ?_
                        refine R_iload (pc := 123) dX9_farOf_123 rfl ?_
                        have hx204 : vp_in (nI j47) 9 := (vp_in_nI (by omega) (by decide))
                        refine R_iaload (pc := 125) dX9_farOf_125 (c_154 _) hx204 ?_
                        refine R_iconst (pc := 126) (v := 1) dX9_farOf_126 (by decide) ?_
                        refine R_iadd (pc := 127) dX9_farOf_127 ?_
                        refine R_goto (pc := 128) 133 dX9_farOf_128 (by decide) ?_
                        refine st_6_5_i_i (pc := 133) dX9_farOf_133 ?_
                        refine R_aload_n (pc := 135) dX9_farOf_135 rfl rfl ?_
                        refine g_X9_63 (pc := 136) (v := .ref 155) rfl dX9_farOf_136 (c_140 _) rfl ?_
                        refine R_iload (pc := 139) dX9_farOf_139 rfl ?_
                        refine R_aload_n (pc := 141) dX9_farOf_141 rfl rfl ?_
                        refine g_X9_63 (pc := 142) (v := .ref 155) rfl dX9_farOf_142 (c_140 _) rfl ?_
                        refine R_iload (pc := 145) dX9_farOf_145 rfl ?_
                        refine R_iconst (pc := 147) (v := 1) dX9_farOf_147 (by decide) ?_
                        refine R_isub (pc := 148) dX9_farOf_148 ?_
                        have r205 : inR ((nI j47) - 1) 0 7 := inR_sub (show inR (nI j47) 1 8 from hrg47) (show inR 1 1 1 from (inR_self _)) (by decide) (by decide)
                        have e206 := ti_sub (l := 0) (h := 7) (show inR (nI j47) 1 8 from hrg47) (show inR 1 1 1 from (inR_self _)) (by decide) (by decide)
                        have hx207 : vp_in ((nI j47) - 1) 9 := (vp_of_inR r205 (by decide))
                        refine R_iaload (pc := 149) dX9_farOf_149 (c_155 _) hx207 ?_
                        refine R_iconst (pc := 150) (v := 1) dX9_farOf_150 (by decide) ?_
                        refine R_iadd (pc := 151) dX9_farOf_151 ?_
                        refine R_iload (pc := 152) dX9_farOf_152 rfl ?_
                        refine R_icge (pc := 154) 171 dX9_farOf_154 (by decide) (fun b154_208 => ?_) (fun b154_208 => ?_)
                        · skip
                          refine R_iload (pc := 171) dX9_farOf_171 rfl ?_
                          have hx209 : vp_in (nI j47) 9 := (vp_in_nI (by omega) (by decide))
                          refine W_iastore (pc := 173) dX9_farOf_173 (c_155 _) hx209 (a_155 _ _) ?_
                          have hW210 := cor_sa 155 (upd (σ47.2.2.1 155) (Int32.toNatClampNeg (nI j47)) ((σ47.2.2.1 154 (Int32.toNatClampNeg (nI j47))) + 1)) hC47 rfl
                          refine inc_6_4_1_i (pc := 174) dX9_farOf_174 ?_
                          have r211 : inR ((nI j47) + 1) 2 9 := inR_add (show inR (nI j47) 1 8 from hrg47) (show inR 1 1 1 from (inR_self _)) (by decide) (by decide)
                          have e212 := ti_add (l := 2) (h := 9) (show inR (nI j47) 1 8 from hrg47) (show inR 1 1 1 from (inR_self _)) (by decide) (by decide)
                          refine R_goto (pc := 177) 47 dX9_farOf_177 (by decide) ?_
                          rw [nI_1]
                          exact ih47 (j47 + 1) _ _ (by omega) (by omega) hI47 hW210 hX47_0 (lj_s (by omega) (by omega) hX47_1 (by rw [← levR_s (by omega) (cost_f (show ¬ (wM σ a) (j27 - 1) = (wM σ b) (j47 - 1) from (by have q := b94_186; rw [hC47.2.2.1 150 rfl, ix8 ha (by omega) (by omega), ix8 hb (by omega) (by omega)] at q; exact q)) (show σ47.2.2.1 154 (Int32.toNatClampNeg ((nI j47) - 1)) = nI (lev (wM σ a) (wM σ b) (j27 - 1) (j47 - 1)) from by rw [nI_p (by omega), nI_clamp (by omega)]; exact hX47_0 _ (by have q := (show j47 ≤ (Int32.toNatClampNeg (σ.2.2.1 149 (Int32.toNatClampNeg b))) from le_jc (by omega) (by have q := b55_155; rw [hC47.2.2.1 149 rfl] at q; exact q)); omega))) (show σ47.2.2.1 154 (Int32.toNatClampNeg (nI j47)) = nI (lev (wM σ a) (wM σ b) (j27 - 1) (j47 - 1 + 1)) from by rw [nI_clamp (by omega), hX47_0 _ (show j47 ≤ (Int32.toNatClampNeg (σ.2.2.1 149 (Int32.toNatClampNeg b))) from le_jc (by omega) (by have q := b55_155; rw [hC47.2.2.1 149 rfl] at q; exact q)), show j47 - 1 + 1 = j47 from by omega]) (show σ47.2.2.1 155 (Int32.toNatClampNeg ((nI j47) - 1)) = nI (lev (wM σ a) (wM σ b) (j27 - 1 + 1) (j47 - 1)) from by rw [nI_p (by omega), nI_clamp (by omega)]; exact hX47_1 _ (by omega) (by have q := (show j47 ≤ (Int32.toNatClampNeg (σ.2.2.1 149 (Int32.toNatClampNeg b))) from le_jc (by omega) (by have q := b55_155; rw [hC47.2.2.1 149 rfl] at q; exact q)); omega)), if_pos (Int32.not_le.mp b116_188), if_neg (Int32.not_lt.mpr b154_208)])) (fq_a 155 _ hX47_2 rfl)
                        · skip
                          refine R_aload_n (pc := 157) dX9_farOf_157 rfl rfl ?_
                          refine g_X9_63 (pc := 158) (v := .ref 155) rfl dX9_farOf_158 (c_140 _) rfl ?_
                          refine R_iload (pc := 161) dX9_farOf_161 rfl ?_
                          refine R_iconst (pc := 163) (v := 1) dX9_farOf_163 (by decide) ?_
                          refine R_isub (pc := 164) dX9_farOf_164 ?_
                          have r213 : inR ((nI j47) - 1) 0 7 := inR_sub (show inR (nI j47) 1 8 from hrg47) (show inR 1 1 1 from (inR_self _)) (by decide) (by decide)
                          have e214 := ti_sub (l := 0) (h := 7) (show inR (nI j47) 1 8 from hrg47) (show inR 1 1 1 from (inR_self _)) (by decide) (by decide)
                          have hx215 : vp_in ((nI j47) - 1) 9 := (vp_of_inR r213 (by decide))
                          refine R_iaload (pc := 165) dX9_farOf_165 (c_155 _) hx215 ?_
                          refine R_iconst (pc := 166) (v := 1) dX9_farOf_166 (by decide) ?_
                          refine R_iadd (pc := 167) dX9_farOf_167 ?_
                          refine R_goto (pc := 168) 173 dX9_farOf_168 (by decide) ?_
                          have hx216 : vp_in (nI j47) 9 := (vp_in_nI (by omega) (by decide))
                          refine W_iastore (pc := 173) dX9_farOf_173 (c_155 _) hx216 (a_155 _ _) ?_
                          have hW217 := cor_sa 155 (upd (σ47.2.2.1 155) (Int32.toNatClampNeg (nI j47)) ((σ47.2.2.1 155 (Int32.toNatClampNeg ((nI j47) - 1))) + 1)) hC47 rfl
                          refine inc_6_4_1_i (pc := 174) dX9_farOf_174 ?_
                          have r218 : inR ((nI j47) + 1) 2 9 := inR_add (show inR (nI j47) 1 8 from hrg47) (show inR 1 1 1 from (inR_self _)) (by decide) (by decide)
                          have e219 := ti_add (l := 2) (h := 9) (show inR (nI j47) 1 8 from hrg47) (show inR 1 1 1 from (inR_self _)) (by decide) (by decide)
                          refine R_goto (pc := 177) 47 dX9_farOf_177 (by decide) ?_
                          rw [nI_1]
                          exact ih47 (j47 + 1) _ _ (by omega) (by omega) hI47 hW217 hX47_0 (lj_s (by omega) (by omega) hX47_1 (by rw [← levR_s (by omega) (cost_f (show ¬ (wM σ a) (j27 - 1) = (wM σ b) (j47 - 1) from (by have q := b94_186; rw [hC47.2.2.1 150 rfl, ix8 ha (by omega) (by omega), ix8 hb (by omega) (by omega)] at q; exact q)) (show σ47.2.2.1 154 (Int32.toNatClampNeg ((nI j47) - 1)) = nI (lev (wM σ a) (wM σ b) (j27 - 1) (j47 - 1)) from by rw [nI_p (by omega), nI_clamp (by omega)]; exact hX47_0 _ (by have q := (show j47 ≤ (Int32.toNatClampNeg (σ.2.2.1 149 (Int32.toNatClampNeg b))) from le_jc (by omega) (by have q := b55_155; rw [hC47.2.2.1 149 rfl] at q; exact q)); omega))) (show σ47.2.2.1 154 (Int32.toNatClampNeg (nI j47)) = nI (lev (wM σ a) (wM σ b) (j27 - 1) (j47 - 1 + 1)) from by rw [nI_clamp (by omega), hX47_0 _ (show j47 ≤ (Int32.toNatClampNeg (σ.2.2.1 149 (Int32.toNatClampNeg b))) from le_jc (by omega) (by have q := b55_155; rw [hC47.2.2.1 149 rfl] at q; exact q)), show j47 - 1 + 1 = j47 from by omega]) (show σ47.2.2.1 155 (Int32.toNatClampNeg ((nI j47) - 1)) = nI (lev (wM σ a) (wM σ b) (j27 - 1 + 1) (j47 - 1)) from by rw [nI_p (by omega), nI_clamp (by omega)]; exact hX47_1 _ (by omega) (by have q := (show j47 ≤ (Int32.toNatClampNeg (σ.2.2.1 149 (Int32.toNatClampNeg b))) from le_jc (by omega) (by have q := b55_155; rw [hC47.2.2.1 149 rfl] at q; exact q)); omega)), if_pos (Int32.not_le.mp b116_188), if_pos (Int32.not_le.mp b154_208)])) (fq_a 155 _ hX47_2 rfl)
                    · skip
                      refine R_iconst (pc := 97) (v := 0) dX9_farOf_97 (by decide) ?_
                      refine R_goto (pc := 98) 102 dX9_farOf_98 (by decide) ?_
                      refine R_iadd (pc := 102) dX9_farOf_102 ?_
                      refine st_6_5_i_i (pc := 103) dX9_farOf_103 ?_
                      refine R_aload_n (pc := 105) dX9_farOf_105 rfl rfl ?_
                      refine g_X9_60 (pc := 106) (v := .ref 154) rfl dX9_farOf_106 (c_140 _) rfl ?_
                      refine R_iload (pc := 109) dX9_farOf_109 rfl ?_
                      have hx220 : vp_in (nI j47) 9 := (vp_in_nI (by omega) (by decide))
                      refine R_iaload (pc := 111) dX9_farOf_111 (c_154 _) hx220 ?_
                      refine R_iconst (pc := 112) (v := 1) dX9_farOf_112 (by decide) ?_
                      refine R_iadd (pc := 113) dX9_farOf_113 ?_
                      refine R_iload (pc := 114) dX9_farOf_114 rfl ?_
                      refine R_icge (pc := 116) 131 dX9_farOf_116 (by decide) (fun b116_221 => ?_) (fun b116_221 => ?_)
                      · skip
                        refine R_iload (pc := 131) dX9_farOf_131 rfl ?_
                        refine st_6_5_i_i (pc := 133) dX9_farOf_133 ?_
                        refine R_aload_n (pc := 135) dX9_farOf_135 rfl rfl ?_
                        refine g_X9_63 (pc := 136) (v := .ref 155) rfl dX9_farOf_136 (c_140 _) rfl ?_
                        refine R_iload (pc := 139) dX9_farOf_139 rfl ?_
                        refine R_aload_n (pc := 141) dX9_farOf_141 rfl rfl ?_
                        refine g_X9_63 (pc := 142) (v := .ref 155) rfl dX9_farOf_142 (c_140 _) rfl ?_
                        refine R_iload (pc := 145) dX9_farOf_145 rfl ?_
                        refine R_iconst (pc := 147) (v := 1) dX9_farOf_147 (by decide) ?_
                        refine R_isub (pc := 148) dX9_farOf_148 ?_
                        have r222 : inR ((nI j47) - 1) 0 7 := inR_sub (show inR (nI j47) 1 8 from hrg47) (show inR 1 1 1 from (inR_self _)) (by decide) (by decide)
                        have e223 := ti_sub (l := 0) (h := 7) (show inR (nI j47) 1 8 from hrg47) (show inR 1 1 1 from (inR_self _)) (by decide) (by decide)
                        have hx224 : vp_in ((nI j47) - 1) 9 := (vp_of_inR r222 (by decide))
                        refine R_iaload (pc := 149) dX9_farOf_149 (c_155 _) hx224 ?_
                        refine R_iconst (pc := 150) (v := 1) dX9_farOf_150 (by decide) ?_
                        refine R_iadd (pc := 151) dX9_farOf_151 ?_
                        refine R_iload (pc := 152) dX9_farOf_152 rfl ?_
                        refine R_icge (pc := 154) 171 dX9_farOf_154 (by decide) (fun b154_225 => ?_) (fun b154_225 => ?_)
                        · skip
                          refine R_iload (pc := 171) dX9_farOf_171 rfl ?_
                          have hx226 : vp_in (nI j47) 9 := (vp_in_nI (by omega) (by decide))
                          refine W_iastore (pc := 173) dX9_farOf_173 (c_155 _) hx226 (a_155 _ _) ?_
                          have hW227 := cor_sa 155 (upd (σ47.2.2.1 155) (Int32.toNatClampNeg (nI j47)) ((σ47.2.2.1 154 (Int32.toNatClampNeg ((nI j47) - 1))) + 0)) hC47 rfl
                          refine inc_6_4_1_i (pc := 174) dX9_farOf_174 ?_
                          have r228 : inR ((nI j47) + 1) 2 9 := inR_add (show inR (nI j47) 1 8 from hrg47) (show inR 1 1 1 from (inR_self _)) (by decide) (by decide)
                          have e229 := ti_add (l := 2) (h := 9) (show inR (nI j47) 1 8 from hrg47) (show inR 1 1 1 from (inR_self _)) (by decide) (by decide)
                          refine R_goto (pc := 177) 47 dX9_farOf_177 (by decide) ?_
                          rw [nI_1]
                          exact ih47 (j47 + 1) _ _ (by omega) (by omega) hI47 hW227 hX47_0 (lj_s (by omega) (by omega) hX47_1 (by rw [← levR_s (by omega) (cost_t0 (show (wM σ a) (j27 - 1) = (wM σ b) (j47 - 1) from (by have q := b94_186; rw [hC47.2.2.1 150 rfl, ix8 ha (by omega) (by omega), ix8 hb (by omega) (by omega)] at q; exact q)) (show σ47.2.2.1 154 (Int32.toNatClampNeg ((nI j47) - 1)) = nI (lev (wM σ a) (wM σ b) (j27 - 1) (j47 - 1)) from by rw [nI_p (by omega), nI_clamp (by omega)]; exact hX47_0 _ (by have q := (show j47 ≤ (Int32.toNatClampNeg (σ.2.2.1 149 (Int32.toNatClampNeg b))) from le_jc (by omega) (by have q := b55_155; rw [hC47.2.2.1 149 rfl] at q; exact q)); omega))) (show σ47.2.2.1 154 (Int32.toNatClampNeg (nI j47)) = nI (lev (wM σ a) (wM σ b) (j27 - 1) (j47 - 1 + 1)) from by rw [nI_clamp (by omega), hX47_0 _ (show j47 ≤ (Int32.toNatClampNeg (σ.2.2.1 149 (Int32.toNatClampNeg b))) from le_jc (by omega) (by have q := b55_155; rw [hC47.2.2.1 149 rfl] at q; exact q)), show j47 - 1 + 1 = j47 from by omega]) (show σ47.2.2.1 155 (Int32.toNatClampNeg ((nI j47) - 1)) = nI (lev (wM σ a) (wM σ b) (j27 - 1 + 1) (j47 - 1)) from by rw [nI_p (by omega), nI_clamp (by omega)]; exact hX47_1 _ (by omega) (by have q := (show j47 ≤ (Int32.toNatClampNeg (σ.2.2.1 149 (Int32.toNatClampNeg b))) from le_jc (by omega) (by have q := b55_155; rw [hC47.2.2.1 149 rfl] at q; exact q)); omega)), if_neg (Int32.not_lt.mpr b116_221), if_neg (Int32.not_lt.mpr b154_225)])) (fq_a 155 _ hX47_2 rfl)
                        · skip
                          refine R_aload_n (pc := 157) dX9_farOf_157 rfl rfl ?_
                          refine g_X9_63 (pc := 158) (v := .ref 155) rfl dX9_farOf_158 (c_140 _) rfl ?_
                          refine R_iload (pc := 161) dX9_farOf_161 rfl ?_
                          refine R_iconst (pc := 163) (v := 1) dX9_farOf_163 (by decide) ?_
                          refine R_isub (pc := 164) dX9_farOf_164 ?_
                          have r230 : inR ((nI j47) - 1) 0 7 := inR_sub (show inR (nI j47) 1 8 from hrg47) (show inR 1 1 1 from (inR_self _)) (by decide) (by decide)
                          have e231 := ti_sub (l := 0) (h := 7) (show inR (nI j47) 1 8 from hrg47) (show inR 1 1 1 from (inR_self _)) (by decide) (by decide)
                          have hx232 : vp_in ((nI j47) - 1) 9 := (vp_of_inR r230 (by decide))
                          refine R_iaload (pc := 165) dX9_farOf_165 (c_155 _) hx232 ?_
                          refine R_iconst (pc := 166) (v := 1) dX9_farOf_166 (by decide) ?_
                          refine R_iadd (pc := 167) dX9_farOf_167 ?_
                          refine R_goto (pc := 168) 173 dX9_farOf_168 (by decide) ?_
                          have hx233 : vp_in (nI j47) 9 := (vp_in_nI (by omega) (by decide))
                          refine W_iastore (pc := 173) dX9_farOf_173 (c_155 _) hx233 (a_155 _ _) ?_
                          have hW234 := cor_sa 155 (upd (σ47.2.2.1 155) (Int32.toNatClampNeg (nI j47)) ((σ47.2.2.1 155 (Int32.toNatClampNeg ((nI j47) - 1))) + 1)) hC47 rfl
                          refine inc_6_4_1_i (pc := 174) dX9_farOf_174 ?_
                          have r235 : inR ((nI j47) + 1) 2 9 := inR_add (show inR (nI j47) 1 8 from hrg47) (show inR 1 1 1 from (inR_self _)) (by decide) (by decide)
                          have e236 := ti_add (l := 2) (h := 9) (show inR (nI j47) 1 8 from hrg47) (show inR 1 1 1 from (inR_self _)) (by decide) (by decide)
                          refine R_goto (pc := 177) 47 dX9_farOf_177 (by decide) ?_
                          rw [nI_1]
                          exact ih47 (j47 + 1) _ _ (by omega) (by omega) hI47 hW234 hX47_0 (lj_s (by omega) (by omega) hX47_1 (by rw [← levR_s (by omega) (cost_t0 (show (wM σ a) (j27 - 1) = (wM σ b) (j47 - 1) from (by have q := b94_186; rw [hC47.2.2.1 150 rfl, ix8 ha (by omega) (by omega), ix8 hb (by omega) (by omega)] at q; exact q)) (show σ47.2.2.1 154 (Int32.toNatClampNeg ((nI j47) - 1)) = nI (lev (wM σ a) (wM σ b) (j27 - 1) (j47 - 1)) from by rw [nI_p (by omega), nI_clamp (by omega)]; exact hX47_0 _ (by have q := (show j47 ≤ (Int32.toNatClampNeg (σ.2.2.1 149 (Int32.toNatClampNeg b))) from le_jc (by omega) (by have q := b55_155; rw [hC47.2.2.1 149 rfl] at q; exact q)); omega))) (show σ47.2.2.1 154 (Int32.toNatClampNeg (nI j47)) = nI (lev (wM σ a) (wM σ b) (j27 - 1) (j47 - 1 + 1)) from by rw [nI_clamp (by omega), hX47_0 _ (show j47 ≤ (Int32.toNatClampNeg (σ.2.2.1 149 (Int32.toNatClampNeg b))) from le_jc (by omega) (by have q := b55_155; rw [hC47.2.2.1 149 rfl] at q; exact q)), show j47 - 1 + 1 = j47 from by omega]) (show σ47.2.2.1 155 (Int32.toNatClampNeg ((nI j47) - 1)) = nI (lev (wM σ a) (wM σ b) (j27 - 1 + 1) (j47 - 1)) from by rw [nI_p (by omega), nI_clamp (by omega)]; exact hX47_1 _ (by omega) (by have q := (show j47 ≤ (Int32.toNatClampNeg (σ.2.2.1 149 (Int32.toNatClampNeg b))) from le_jc (by omega) (by have q := b55_155; rw [hC47.2.2.1 149 rfl] at q; exact q)); omega)), if_neg (Int32.not_lt.mpr b116_221), if_pos (Int32.not_le.mp b154_225)])) (fq_a 155 _ hX47_2 rfl)
                      · skip
                        refine R_aload_n (pc := 119) dX9_farOf_119 rfl rfl ?_
                        refine g_X9_60 (pc := 120) (v := .ref 154) rfl dX9_farOf_120 (c_140 _) rfl ?_
                        refine R_iload (pc := 123) dX9_farOf_123 rfl ?_
                        have hx237 : vp_in (nI j47) 9 := (vp_in_nI (by omega) (by decide))
                        refine R_iaload (pc := 125) dX9_farOf_125 (c_154 _) hx237 ?_
                        refine R_iconst (pc := 126) (v := 1) dX9_farOf_126 (by decide) ?_
                        refine R_iadd (pc := 127) dX9_farOf_127 ?_
                        refine R_goto (pc := 128) 133 dX9_farOf_128 (by decide) ?_
                        refine st_6_5_i_i (pc := 133) dX9_farOf_133 ?_
                        refine R_aload_n (pc := 135) dX9_farOf_135 rfl rfl ?_
                        refine g_X9_63 (pc := 136) (v := .ref 155) rfl dX9_farOf_136 (c_140 _) rfl ?_
                        refine R_iload (pc := 139) dX9_farOf_139 rfl ?_
                        refine R_aload_n (pc := 141) dX9_farOf_141 rfl rfl ?_
                        refine g_X9_63 (pc := 142) (v := .ref 155) rfl dX9_farOf_142 (c_140 _) rfl ?_
                        refine R_iload (pc := 145) dX9_farOf_145 rfl ?_
                        refine R_iconst (pc := 147) (v := 1) dX9_farOf_147 (by decide) ?_
                        refine R_isub (pc := 148) dX9_farOf_148 ?_
                        have r238 : inR ((nI j47) - 1) 0 7 := inR_sub (show inR (nI j47) 1 8 from hrg47) (show inR 1 1 1 from (inR_self _)) (by decide) (by decide)
                        have e239 := ti_sub (l := 0) (h := 7) (show inR (nI j47) 1 8 from hrg47) (show inR 1 1 1 from (inR_self _)) (by decide) (by decide)
                        have hx240 : vp_in ((nI j47) - 1) 9 := (vp_of_inR r238 (by decide))
                        refine R_iaload (pc := 149) dX9_farOf_149 (c_155 _) hx240 ?_
                        refine R_iconst (pc := 150) (v := 1) dX9_farOf_150 (by decide) ?_
                        refine R_iadd (pc := 151) dX9_farOf_151 ?_
                        refine R_iload (pc := 152) dX9_farOf_152 rfl ?_
                        refine R_icge (pc := 154) 171 dX9_farOf_154 (by decide) (fun b154_241 => ?_) (fun b154_241 => ?_)
                        · skip
                          refine R_iload (pc := 171) dX9_farOf_171 rfl ?_
                          have hx242 : vp_in (nI j47) 9 := (vp_in_nI (by omega) (by decide))
                          refine W_iastore (pc := 173) dX9_farOf_173 (c_155 _) hx242 (a_155 _ _) ?_
                          have hW243 := cor_sa 155 (upd (σ47.2.2.1 155) (Int32.toNatClampNeg (nI j47)) ((σ47.2.2.1 154 (Int32.toNatClampNeg (nI j47))) + 1)) hC47 rfl
                          refine inc_6_4_1_i (pc := 174) dX9_farOf_174 ?_
                          have r244 : inR ((nI j47) + 1) 2 9 := inR_add (show inR (nI j47) 1 8 from hrg47) (show inR 1 1 1 from (inR_self _)) (by decide) (by decide)
                          have e245 := ti_add (l := 2) (h := 9) (show inR (nI j47) 1 8 from hrg47) (show inR 1 1 1 from (inR_self _)) (by decide) (by decide)
                          refine R_goto (pc := 177) 47 dX9_farOf_177 (by decide) ?_
                          rw [nI_1]
                          exact ih47 (j47 + 1) _ _ (by omega) (by omega) hI47 hW243 hX47_0 (lj_s (by omega) (by omega) hX47_1 (by rw [← levR_s (by omega) (cost_t0 (show (wM σ a) (j27 - 1) = (wM σ b) (j47 - 1) from (by have q := b94_186; rw [hC47.2.2.1 150 rfl, ix8 ha (by omega) (by omega), ix8 hb (by omega) (by omega)] at q; exact q)) (show σ47.2.2.1 154 (Int32.toNatClampNeg ((nI j47) - 1)) = nI (lev (wM σ a) (wM σ b) (j27 - 1) (j47 - 1)) from by rw [nI_p (by omega), nI_clamp (by omega)]; exact hX47_0 _ (by have q := (show j47 ≤ (Int32.toNatClampNeg (σ.2.2.1 149 (Int32.toNatClampNeg b))) from le_jc (by omega) (by have q := b55_155; rw [hC47.2.2.1 149 rfl] at q; exact q)); omega))) (show σ47.2.2.1 154 (Int32.toNatClampNeg (nI j47)) = nI (lev (wM σ a) (wM σ b) (j27 - 1) (j47 - 1 + 1)) from by rw [nI_clamp (by omega), hX47_0 _ (show j47 ≤ (Int32.toNatClampNeg (σ.2.2.1 149 (Int32.toNatClampNeg b))) from le_jc (by omega) (by have q := b55_155; rw [hC47.2.2.1 149 rfl] at q; exact q)), show j47 - 1 + 1 = j47 from by omega]) (show σ47.2.2.1 155 (Int32.toNatClampNeg ((nI j47) - 1)) = nI (lev (wM σ a) (wM σ b) (j27 - 1 + 1) (j47 - 1)) from by rw [nI_p (by omega), nI_clamp (by omega)]; exact hX47_1 _ (by omega) (by have q := (show j47 ≤ (Int32.toNatClampNeg (σ.2.2.1 149 (Int32.toNatClampNeg b))) from le_jc (by omega) (by have q := b55_155; rw [hC47.2.2.1 149 rfl] at q; exact q)); omega)), if_pos (Int32.not_le.mp b116_221), if_neg (Int32.not_lt.mpr b154_241)])) (fq_a 155 _ hX47_2 rfl)
                        · skip
                          refine R_aload_n (pc := 157) dX9_farOf_157 rfl rfl ?_
                          refine g_X9_63 (pc := 158) (v := .ref 155) rfl dX9_farOf_158 (c_140 _) rfl ?_
                          refine R_iload (pc := 161) dX9_farOf_161 rfl ?_
                          refine R_iconst (pc := 163) (v := 1) dX9_farOf_163 (by decide) ?_
                          refine R_isub (pc := 164) dX9_farOf_164 ?_
                          have r246 : inR ((nI j47) - 1) 0 7 := inR_sub (show inR (nI j47) 1 8 from hrg47) (show inR 1 1 1 from (inR_self _)) (by decide) (by decide)
                          have e247 := ti_sub (l := 0) (h := 7) (show inR (nI j47) 1 8 from hrg47) (show inR 1 1 1 from (inR_self _)) (by decide) (by decide)
                          have hx248 : vp_in ((nI j47) - 1) 9 := (vp_of_inR r246 (by decide))
                          refine R_iaload (pc := 165) dX9_farOf_165 (c_155 _) hx248 ?_
                          refine R_iconst (pc := 166) (v := 1) dX9_farOf_166 (by decide) ?_
                          refine R_iadd (pc := 167) dX9_farOf_167 ?_
                          refine R_goto (pc := 168) 173 dX9_farOf_168 (by decide) ?_
                          have hx249 : vp_in (nI j47) 9 := (vp_in_nI (by omega) (by decide))
                          refine W_iastore (pc := 173) dX9_farOf_173 (c_155 _) hx249 (a_155 _ _) ?_
                          have hW250 := cor_sa 155 (upd (σ47.2.2.1 155) (Int32.toNatClampNeg (nI j47)) ((σ47.2.2.1 155 (Int32.toNatClampNeg ((nI j47) - 1))) + 1)) hC47 rfl
                          refine inc_6_4_1_i (pc := 174) dX9_farOf_174 ?_
                          have r251 : inR ((nI j47) + 1) 2 9 := inR_add (show inR (nI j47) 1 8 from hrg47) (show inR 1 1 1 from (inR_self _)) (by decide) (by decide)
                          have e252 := ti_add (l := 2) (h := 9) (show inR (nI j47) 1 8 from hrg47) (show inR 1 1 1 from (inR_self _)) (by decide) (by decide)
                          refine R_goto (pc := 177) 47 dX9_farOf_177 (by decide) ?_
                          rw [nI_1]
                          exact ih47 (j47 + 1) _ _ (by omega) (by omega) hI47 hW250 hX47_0 (lj_s (by omega) (by omega) hX47_1 (by rw [← levR_s (by omega) (cost_t0 (show (wM σ a) (j27 - 1) = (wM σ b) (j47 - 1) from (by have q := b94_186; rw [hC47.2.2.1 150 rfl, ix8 ha (by omega) (by omega), ix8 hb (by omega) (by omega)] at q; exact q)) (show σ47.2.2.1 154 (Int32.toNatClampNeg ((nI j47) - 1)) = nI (lev (wM σ a) (wM σ b) (j27 - 1) (j47 - 1)) from by rw [nI_p (by omega), nI_clamp (by omega)]; exact hX47_0 _ (by have q := (show j47 ≤ (Int32.toNatClampNeg (σ.2.2.1 149 (Int32.toNatClampNeg b))) from le_jc (by omega) (by have q := b55_155; rw [hC47.2.2.1 149 rfl] at q; exact q)); omega))) (show σ47.2.2.1 154 (Int32.toNatClampNeg (nI j47)) = nI (lev (wM σ a) (wM σ b) (j27 - 1) (j47 - 1 + 1)) from by rw [nI_clamp (by omega), hX47_0 _ (show j47 ≤ (Int32.toNatClampNeg (σ.2.2.1 149 (Int32.toNatClampNeg b))) from le_jc (by omega) (by have q := b55_155; rw [hC47.2.2.1 149 rfl] at q; exact q)), show j47 - 1 + 1 = j47 from by omega]) (show σ47.2.2.1 155 (Int32.toNatClampNeg ((nI j47) - 1)) = nI (lev (wM σ a) (wM σ b) (j27 - 1 + 1) (j47 - 1)) from by rw [nI_p (by omega), nI_clamp (by omega)]; exact hX47_1 _ (by omega) (by have q := (show j47 ≤ (Int32.toNatClampNeg (σ.2.2.1 149 (Int32.toNatClampNeg b))) from le_jc (by omega) (by have q := b55_155; rw [hC47.2.2.1 149 rfl] at q; exact q)); omega)), if_pos (Int32.not_le.mp b116_221), if_pos (Int32.not_le.mp b154_241)])) (fq_a 155 _ hX47_2 rfl)
              exact HL47 8 1 _ _ (by omega) (by omega) hI27 hW138 hX27_0 (lj_0 (by omega)) (fq_a 155 _ hX27_2 rfl)
        exact HL27 8 1 _ _ _ (by omega) (by omega) hI2 hC2 (fun k hk => hX2_0 k (by have q := (show (Int32.toNatClampNeg (σ.2.2.1 149 (Int32.toNatClampNeg b))) < j2 from lt_jc (by omega) (by have q := b9_128; rw [hC2.2.2.1 149 rfl] at q; exact q) (iva_149 hI _ (clamp19 hb))); omega)) (Nat.zero_le _) hX2_1
      · skip
        refine R_aload_n (pc := 12) dX9_farOf_12 rfl rfl ?_
        refine g_X9_60 (pc := 13) (v := .ref 154) rfl dX9_farOf_13 (c_140 _) rfl ?_
        refine R_iload_n (pc := 16) dX9_farOf_16 rfl rfl ?_
        refine R_iload_n (pc := 17) dX9_farOf_17 rfl rfl ?_
        have hx253 : vp_in (nI j2) 9 := (vp_in_nI (by omega) (by decide))
        refine W_iastore (pc := 18) dX9_farOf_18 (c_154 _) hx253 (a_154 _ _) ?_
        have hW254 := cor_sa 154 (upd (σ2.2.2.1 154) (Int32.toNatClampNeg (nI j2)) (nI j2)) hC2 rfl
        refine inc_6_3_1_i (pc := 19) dX9_farOf_19 ?_
        have r255 : inR ((nI j2) + 1) 1 9 := inR_add (show inR (nI j2) 0 8 from hrg2) (show inR 1 1 1 from (inR_self _)) (by decide) (by decide)
        have e256 := ti_add (l := 1) (h := 9) (show inR (nI j2) 0 8 from hrg2) (show inR 1 1 1 from (inR_self _)) (by decide) (by decide)
        refine R_goto (pc := 22) 2 dX9_farOf_22 (by decide) ?_
        rw [nI_1]
        exact ih2 (j2 + 1) _ (by omega) (by omega) hI2 hW254 (r0_s (by omega) hX2_0) (fq_a 154 _ hX2_1 rfl)
  exact HL2 9 0 _ (by omega) (by omega) hI (show Cor σ σ from Cor.rfl' σ) (fun k hk => absurd hk (Nat.not_lt_zero k)) (fq_rfl _ σ)
