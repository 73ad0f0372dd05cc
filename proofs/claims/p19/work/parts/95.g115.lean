/-! methods on any state that keeps the invariant -/
theorem nI_eqn {a b : Nat} (ha : a < 1000) (hb : b < 1000) (h : nI a = nI b) : a = b := (nI_eq (by omega) (by omega)).mp h
set_option maxRecDepth 100000 in
set_option maxHeartbeats 40000000 in
theorem ge_X9_nextToken {G : vG} {l : Launch} (σ : Sg) (f r : Nat → Int32) (n : Nat) (c : Int32) (p : Nat)  (hI : Inv σ) (hQ : mQs f r n c σ) (hp : σ.1 14039 = nI p) (hpn : p ≤ n) : Sp G l yX9_nextToken cX9_nextToken 1 none 1 0 0 [.ref 140] (WW σ) (QV (fun w2 => ∃ σ2, w2 = WW σ2 ∧ Inv σ2 ∧ Cor σ σ2 ∧ mQs f r n c σ2 ∧ MT f n (sk f n p) σ2)) := by
  refine Sp_of_R [(some (.ref 140))] [] rfl (by simp) rfl (Nat.le_of_ble_eq_true rfl) ?_
  have hn : n ≤ 160 := hQ.2.2.2.2
  have HL0 : ∀ (q i : Nat) (σa : Sg), i + q = 160 → i ≤ n → skF f n (160 - i) i = sk f n p → qPs f r n c σa i → Inv σa → Cor σ σa → R G l yX9_nextToken cX9_nextToken 1 none 1 0 0 (QV (fun w2 => ∃ σ2, w2 = WW σ2 ∧ Inv σ2 ∧ Cor σ σ2 ∧ mQs f r n c σ2 ∧ MT f n (sk f n p) σ2)) 0 [(some (.ref 140))] [] (WW σa) 0 0 := by
    intro q
    induction q with
    | zero =>
      intro i σa hja hna hTa hGa hIa hCa
      refine R_aload_n (pc := 0) dX9_nextToken_0 rfl rfl ?_
      refine g_X9_257 (pc := 1) (v := .int (nI i)) rfl dX9_nextToken_1 (c_140 _) (by show some (Value.int (σa.1 14039)) = _; rw [hGa.2]) ?_
      refine R_aload_n (pc := 4) dX9_nextToken_4 rfl rfl ?_
      refine g_X9_254 (pc := 5) (v := .int (nI n)) rfl dX9_nextToken_5 (c_140 _) (by show some (Value.int (σa.1 14037)) = _; rw [hGa.1.1]) ?_
      refine R_icge (pc := 8) 38 dX9_nextToken_8 (by decide) (fun _ => ?_) (fun h => False.elim (by have q1 := ti_nle h; have q2 := ti_in (show inR (nI i) 160 160 from (show inR (nI i) 160 160 from by rw [show i = 160 by omega]; exact inR_self _)); have q3 := ti_in (show inR (nI n) 0 160 from (show inR (nI n) 0 160 from inR_nI (M := 160) (by omega) (by decide))); have z0 : (0 : Int32).toInt = 0 := (by decide);  have z1 : (160 : Int32).toInt = 160 := (by decide); omega))
      have hsk : i = sk f n p := sk_e hTa (Or.inl (by omega))
      refine R_aload_n (pc := 38) dX9_nextToken_38 rfl rfl ?_
      refine R_aload_n (pc := 39) dX9_nextToken_39 rfl rfl ?_
      refine g_X9_257 (pc := 40) (v := .int (nI i)) rfl dX9_nextToken_40 (c_140 _) (by show some (Value.int (σa.1 14039)) = _; rw [hGa.2]) ?_
      refine p_X9_260 (pc := 43) rfl dX9_nextToken_43 (c_140 _) (Nat.le_of_ble_eq_true rfl) rfl rfl (s_140_40 _ _) ?_
      have hW2 := cor_si 14040 (nI i) hCa rfl
      refine R_aload_n (pc := 46) dX9_nextToken_46 rfl rfl ?_
      refine R_iconst (pc := 47) (v := 0) dX9_nextToken_47 (by decide) ?_
      refine p_X9_263 (pc := 48) rfl dX9_nextToken_48 (c_140 _) (Nat.le_of_ble_eq_true rfl) rfl rfl (s_140_42 _ _) ?_
      have hW3 := cor_si 14042 0 hW2 rfl
      refine R_aload_n (pc := 51) dX9_nextToken_51 rfl rfl ?_
      refine R_iconst (pc := 52) (v := 0) dX9_nextToken_52 (by decide) ?_
      refine p_X9_266 (pc := 53) rfl dX9_nextToken_53 (c_140 _) (Nat.le_of_ble_eq_true rfl) rfl rfl (s_140_43 _ _) ?_
      have hW4 := cor_si 14043 0 hW3 rfl
      refine R_aload_n (pc := 56) dX9_nextToken_56 rfl rfl ?_
      refine g_X9_257 (pc := 57) (v := .int (nI i)) rfl dX9_nextToken_57 (c_140 _) (by show some (Value.int (σa.1 14039)) = _; rw [hGa.2]) ?_
      refine R_aload_n (pc := 60) dX9_nextToken_60 rfl rfl ?_
      refine g_X9_254 (pc := 61) (v := .int (nI n)) rfl dX9_nextToken_61 (c_140 _) (by show some (Value.int (σa.1 14037)) = _; rw [hGa.1.1]) ?_
      refine R_icne (pc := 64) 77 dX9_nextToken_64 (by decide) (fun b64_5 => ?_) (fun b64_5 => ?_)
      · skip
        have hlt : i < n := Nat.lt_of_le_of_ne hna (fun e => b64_5 (by rw [e]))
        refine R_aload_n (pc := 77) dX9_nextToken_77 rfl rfl ?_
        refine g_X9_108 (pc := 78) (v := .ref 170) rfl dX9_nextToken_78 (c_140 _) rfl ?_
        refine R_aload_n (pc := 81) dX9_nextToken_81 rfl rfl ?_
        refine g_X9_257 (pc := 82) (v := .int (nI i)) rfl dX9_nextToken_82 (c_140 _) (by show some (Value.int (σa.1 14039)) = _; rw [hGa.2]) ?_
        have hx6 : vp_in (nI i) 160 := (vp_of_inR (show inR (nI i) 0 159 from inR_nI (M := 159) (by omega) (by decide)) (by decide))
        refine W_iaload (pc := 85) (σa.2.2.1 170 (Int32.toNatClampNeg (nI i))) dX9_nextToken_85 (c_170 _) hx6 rfl ?_
        refine R_bipush (pc := 86) (v := 97) dX9_nextToken_86 (by decide) ?_
        refine R_bipush (pc := 88) (v := 122) dX9_nextToken_88 (by decide) ?_
        refine k_X9_124 (pc := 90) (sp_X9_in _ _ _ _) rfl (by decide) (Nat.le_refl _) (Nat.le_refl _) (Nat.le_of_ble_eq_true rfl) dX9_nextToken_90 (fun x w2 h => ?_)
        rcases h with ⟨rfl, ⟨h7, rfl⟩ | ⟨h7, rfl⟩⟩
        · skip
          refine R_ifeq (pc := 93) 222 dX9_nextToken_93 (by decide) (fun h => absurd h (by decide)) (fun _ => ?_)
          refine R_aload_n (pc := 96) dX9_nextToken_96 rfl rfl ?_
          refine R_lconst (pc := 97) (v := 0) dX9_nextToken_97 (by decide) ?_
          refine p_X9_271 (pc := 98) rfl dX9_nextToken_98 (c_140 _) (Nat.le_of_ble_eq_true rfl) rfl rfl (s_140_41 _ _) ?_
          have hW9 := cor_sj 14041 0 hW4 rfl
          have hL : isL f i = true := by have q := h7; rw [hGa.1.2.1, nI_clamp (by omega)] at q; exact inB_t q
          have hPs : rowB (f i) (f i) = true := by rw [row_l hL]; exact hL
          have HL101 : ∀ (q k : Nat) (σb : Sg), k + q = 160 → k ≤ n → teF (fun k => rowB (f i) (f k)) n (160 - k) k = tkE f n i → qLt f r n c σb i k → i ≤ k → Inv σb → Cor σ σb → R G l yX9_nextToken cX9_nextToken 1 none 1 0 0 (QV (fun w2 => ∃ σ2, w2 = WW σ2 ∧ Inv σ2 ∧ Cor σ σ2 ∧ mQs f r n c σ2 ∧ MT f n (sk f n p) σ2)) 101 [(some (.ref 140))] [] (WW σb) 0 0 := by
            intro q
            induction q with
            | zero =>
              intro k σb hjb hnb hTb hGb hik hIb hCb
              refine R_aload_n (pc := 101) dX9_nextToken_101 rfl rfl ?_
              refine g_X9_257 (pc := 102) (v := .int (nI k)) rfl dX9_nextToken_102 (c_140 _) (by show some (Value.int (σb.1 14039)) = _; rw [hGb.2.1]) ?_
              refine R_aload_n (pc := 105) dX9_nextToken_105 rfl rfl ?_
              refine g_X9_254 (pc := 106) (v := .int (nI n)) rfl dX9_nextToken_106 (c_140 _) (by show some (Value.int (σb.1 14037)) = _; rw [hGb.1.1]) ?_
              refine R_icge (pc := 109) 191 dX9_nextToken_109 (by decide) (fun _ => ?_) (fun h => False.elim (by have q1 := ti_nle h; have q2 := ti_in (show inR (nI k) 160 160 from (show inR (nI k) 160 160 from by rw [show k = 160 by omega]; exact inR_self _)); have q3 := ti_in (show inR (nI n) 0 160 from (show inR (nI n) 0 160 from inR_nI (M := 160) (by omega) (by decide))); have z0 : (0 : Int32).toInt = 0 := (by decide);  have z1 : (160 : Int32).toInt = 160 := (by decide); omega))
              have hke : k = tkE f n i := (te_e (P := (fun k => rowB (f i) (f k))) hTb (Or.inl (by omega)))
              refine R_aload_n (pc := 191) dX9_nextToken_191 rfl rfl ?_
              refine R_aload_n (pc := 192) dX9_nextToken_192 rfl rfl ?_
              refine g_X9_257 (pc := 193) (v := .int (nI k)) rfl dX9_nextToken_193 (c_140 _) (by show some (Value.int (σb.1 14039)) = _; rw [hGb.2.1]) ?_
              refine R_aload_n (pc := 196) dX9_nextToken_196 rfl rfl ?_
              refine g_X9_260 (pc := 197) (v := .int (nI i)) rfl dX9_nextToken_197 (c_140 _) (by show some (Value.int (σb.1 14040)) = _; rw [hGb.2.2.1]) ?_
              refine R_isub (pc := 200) dX9_nextToken_200 ?_
              have r11 : inR ((nI k) - (nI i)) 0 160 := inR_sub (show inR (nI k) 160 160 from (show inR (nI k) 160 160 from by rw [show k = 160 by omega]; exact inR_self _)) (show inR (nI i) 0 160 from (show inR (nI i) 0 160 from inR_nI (M := 160) (by omega) (by decide))) (by decide) (by decide)
              have e12 := ti_sub (l := 0) (h := 160) (show inR (nI k) 160 160 from (show inR (nI k) 160 160 from by rw [show k = 160 by omega]; exact inR_self _)) (show inR (nI i) 0 160 from (show inR (nI i) 0 160 from inR_nI (M := 160) (by omega) (by decide))) (by decide) (by decide)
              refine R_bipush (pc := 201) (v := 9) dX9_nextToken_201 (by decide) ?_
              refine R_icle (pc := 203) 212 dX9_nextToken_203 (by decide) (fun b203_13 => ?_) (fun b203_13 => ?_)
              · skip
                refine R_aload_n (pc := 212) dX9_nextToken_212 rfl rfl ?_
                refine g_X9_271 (pc := 213) (v := .long (tokL f i (k - i))) rfl dX9_nextToken_213 (c_140 _) (by show some (Value.long (σb.2.1 14041)) = _; rw [hGb.2.2.2]) ?_
                refine p_X9_271 (pc := 216) rfl dX9_nextToken_216 (c_140 _) (Nat.le_of_ble_eq_true rfl) rfl rfl (s_140_41 _ _) ?_
                have hW14 := cor_sj 14041 (tokL f i (k - i)) hCb rfl
                refine R_goto (pc := 219) 394 dX9_nextToken_219 (by decide) ?_
                exact R_vret (pc := 394) dX9_nextToken_394 rfl (Nat.zero_le _) (Nat.zero_le _) ⟨rfl, _, rfl, hIb, hW14, hGb.1, mt_of hsk ⟨hGb.2.1.trans (by rw [hke]), hGb.2.2.1, Nat.le_of_lt hlt, tv_let (k := k) hn hlt hL hke rfl⟩⟩
              · skip
                refine R_ldc2 (pc := 206) w_1245c dX9_nextToken_206 ?_
                refine R_goto (pc := 209) 216 dX9_nextToken_209 (by decide) ?_
                refine p_X9_271 (pc := 216) rfl dX9_nextToken_216 (c_140 _) (Nat.le_of_ble_eq_true rfl) rfl rfl (s_140_41 _ _) ?_
                have hW15 := cor_sj 14041 (-4) hCb rfl
                refine R_goto (pc := 219) 394 dX9_nextToken_219 (by decide) ?_
                exact R_vret (pc := 394) dX9_nextToken_394 rfl (Nat.zero_le _) (Nat.zero_le _) ⟨rfl, _, rfl, hIb, hW15, hGb.1, mt_of hsk ⟨hGb.2.1.trans (by rw [hke]), hGb.2.2.1, Nat.le_of_lt hlt, tv_let (k := k) hn hlt hL hke (tokL_f (sub_gt (m := 9) rfl (by decide) hik (by omega) b203_13)).symm⟩⟩
            | succ q ih101 =>
              intro k σb hjb hnb hTb hGb hik hIb hCb
              refine R_aload_n (pc := 101) dX9_nextToken_101 rfl rfl ?_
              refine g_X9_257 (pc := 102) (v := .int (nI k)) rfl dX9_nextToken_102 (c_140 _) (by show some (Value.int (σb.1 14039)) = _; rw [hGb.2.1]) ?_
              refine R_aload_n (pc := 105) dX9_nextToken_105 rfl rfl ?_
              refine g_X9_254 (pc := 106) (v := .int (nI n)) rfl dX9_nextToken_106 (c_140 _) (by show some (Value.int (σb.1 14037)) = _; rw [hGb.1.1]) ?_
              refine R_icge (pc := 109) 191 dX9_nextToken_109 (by decide) (fun b109_16 => ?_) (fun b109_16 => ?_)
              · skip
                have hke : k = tkE f n i := (te_e (P := (fun k => rowB (f i) (f k))) hTb (Or.inl (nI_les (by omega) (by omega) b109_16)))
                refine R_aload_n (pc := 191) dX9_nextToken_191 rfl rfl ?_
                refine R_aload_n (pc := 192) dX9_nextToken_192 rfl rfl ?_
                refine g_X9_257 (pc := 193) (v := .int (nI k)) rfl dX9_nextToken_193 (c_140 _) (by show some (Value.int (σb.1 14039)) = _; rw [hGb.2.1]) ?_
                refine R_aload_n (pc := 196) dX9_nextToken_196 rfl rfl ?_
                refine g_X9_260 (pc := 197) (v := .int (nI i)) rfl dX9_nextToken_197 (c_140 _) (by show some (Value.int (σb.1 14040)) = _; rw [hGb.2.2.1]) ?_
                refine R_isub (pc := 200) dX9_nextToken_200 ?_
                have r17 : inR ((nI k) - (nI i)) (-160) 159 := inR_sub (show inR (nI k) 0 159 from (show inR (nI k) 0 159 from inR_nI (M := 159) (by omega) (by decide))) (show inR (nI i) 0 160 from (show inR (nI i) 0 160 from inR_nI (M := 160) (by omega) (by decide))) (by decide) (by decide)
                have e18 := ti_sub (l := (-160)) (h := 159) (show inR (nI k) 0 159 from (show inR (nI k) 0 159 from inR_nI (M := 159) (by omega) (by decide))) (show inR (nI i) 0 160 from (show inR (nI i) 0 160 from inR_nI (M := 160) (by omega) (by decide))) (by decide) (by decide)
                refine R_bipush (pc := 201) (v := 9) dX9_nextToken_201 (by decide) ?_
                refine R_icle (pc := 203) 212 dX9_nextToken_203 (by decide) (fun b203_19 => ?_) (fun b203_19 => ?_)
                · skip
                  refine R_aload_n (pc := 212) dX9_nextToken_212 rfl rfl ?_
                  refine g_X9_271 (pc := 213) (v := .long (tokL f i (k - i))) rfl dX9_nextToken_213 (c_140 _) (by show some (Value.long (σb.2.1 14041)) = _; rw [hGb.2.2.2]) ?_
                  refine p_X9_271 (pc := 216) rfl dX9_nextToken_216 (c_140 _) (Nat.le_of_ble_eq_true rfl) rfl rfl (s_140_41 _ _) ?_
                  have hW20 := cor_sj 14041 (tokL f i (k - i)) hCb rfl
                  refine R_goto (pc := 219) 394 dX9_nextToken_219 (by decide) ?_
                  exact R_vret (pc := 394) dX9_nextToken_394 rfl (Nat.zero_le _) (Nat.zero_le _) ⟨rfl, _, rfl, hIb, hW20, hGb.1, mt_of hsk ⟨hGb.2.1.trans (by rw [hke]), hGb.2.2.1, Nat.le_of_lt hlt, tv_let (k := k) hn hlt hL hke rfl⟩⟩
                · skip
                  refine R_ldc2 (pc := 206) w_1245c dX9_nextToken_206 ?_
                  refine R_goto (pc := 209) 216 dX9_nextToken_209 (by decide) ?_
                  refine p_X9_271 (pc := 216) rfl dX9_nextToken_216 (c_140 _) (Nat.le_of_ble_eq_true rfl) rfl rfl (s_140_41 _ _) ?_
                  have hW21 := cor_sj 14041 (-4) hCb rfl
                  refine R_goto (pc := 219) 394 dX9_nextToken_219 (by decide) ?_
                  exact R_vret (pc := 394) dX9_nextToken_394 rfl (Nat.zero_le _) (Nat.zero_le _) ⟨rfl, _, rfl, hIb, hW21, hGb.1, mt_of hsk ⟨hGb.2.1.trans (by rw [hke]), hGb.2.2.1, Nat.le_of_lt hlt, tv_let (k := k) hn hlt hL hke (tokL_f (sub_gt (m := 9) rfl (by decide) hik (by omega) b203_19)).symm⟩⟩
              · skip
                refine R_aload_n (pc := 112) dX9_nextToken_112 rfl rfl ?_
                refine g_X9_108 (pc := 113) (v := .ref 170) rfl dX9_nextToken_113 (c_140 _) rfl ?_
                refine R_aload_n (pc := 116) dX9_nextToken_116 rfl rfl ?_
                refine g_X9_257 (pc := 117) (v := .int (nI k)) rfl dX9_nextToken_117 (c_140 _) (by show some (Value.int (σb.1 14039)) = _; rw [hGb.2.1]) ?_
                have hx22 : vp_in (nI k) 160 := (vp_of_inR (show inR (nI k) 0 159 from inR_nI (M := 159) (by omega) (by decide)) (by decide))
                refine R_iaload (pc := 120) dX9_nextToken_120 (c_170 _) hx22 ?_
                refine R_bipush (pc := 121) (v := 97) dX9_nextToken_121 (by decide) ?_
                refine R_bipush (pc := 123) (v := 122) dX9_nextToken_123 (by decide) ?_
                refine k_X9_124 (pc := 125) (sp_X9_in _ _ _ _) rfl (by decide) (Nat.le_refl _) (Nat.le_refl _) (Nat.le_of_ble_eq_true rfl) dX9_nextToken_125 (fun x w2 h => ?_)
                rcases h with ⟨rfl, ⟨h23, rfl⟩ | ⟨h23, rfl⟩⟩
                · skip
                  refine R_ifeq (pc := 128) 191 dX9_nextToken_128 (by decide) (fun h => absurd h (by decide)) (fun _ => ?_)
                  refine R_aload_n (pc := 131) dX9_nextToken_131 rfl rfl ?_
                  refine R_aload_n (pc := 132) dX9_nextToken_132 rfl rfl ?_
                  refine g_X9_257 (pc := 133) (v := .int (nI k)) rfl dX9_nextToken_133 (c_140 _) (by show some (Value.int (σb.1 14039)) = _; rw [hGb.2.1]) ?_
                  refine R_aload_n (pc := 136) dX9_nextToken_136 rfl rfl ?_
                  refine g_X9_260 (pc := 137) (v := .int (nI i)) rfl dX9_nextToken_137 (c_140 _) (by show some (Value.int (σb.1 14040)) = _; rw [hGb.2.2.1]) ?_
                  refine R_isub (pc := 140) dX9_nextToken_140 ?_
                  have r25 : inR ((nI k) - (nI i)) (-160) 159 := inR_sub (show inR (nI k) 0 159 from (show inR (nI k) 0 159 from inR_nI (M := 159) (by omega) (by decide))) (show inR (nI i) 0 160 from (show inR (nI i) 0 160 from inR_nI (M := 160) (by omega) (by decide))) (by decide) (by decide)
                  have e26 := ti_sub (l := (-160)) (h := 159) (show inR (nI k) 0 159 from (show inR (nI k) 0 159 from inR_nI (M := 159) (by omega) (by decide))) (show inR (nI i) 0 160 from (show inR (nI i) 0 160 from inR_nI (M := 160) (by omega) (by decide))) (by decide) (by decide)
                  refine R_bipush (pc := 141) (v := 9) dX9_nextToken_141 (by decide) ?_
                  refine R_icge (pc := 143) 172 dX9_nextToken_143 (by decide) (fun b143_27 => ?_) (fun b143_27 => ?_)
                  · skip
                    refine R_ldc2 (pc := 172) w_1245c dX9_nextToken_172 ?_
                    refine p_X9_271 (pc := 175) rfl dX9_nextToken_175 (c_140 _) (Nat.le_of_ble_eq_true rfl) rfl rfl (s_140_41 _ _) ?_
                    have hW28 := cor_sj 14041 (-4) hCb rfl
                    refine R_aload_n (pc := 178) dX9_nextToken_178 rfl rfl ?_
                    refine R_dup (pc := 179) dX9_nextToken_179 rfl ?_
                    refine g_X9_257 (pc := 180) (v := .int (nI k)) rfl dX9_nextToken_180 (c_140 _) (by show some (Value.int (σb.1 14039)) = _; rw [hGb.2.1]) ?_
                    refine R_iconst (pc := 183) (v := 1) dX9_nextToken_183 (by decide) ?_
                    refine R_iadd (pc := 184) dX9_nextToken_184 ?_
                    have r29 : inR ((nI k) + 1) 1 160 := inR_add (show inR (nI k) 0 159 from (show inR (nI k) 0 159 from inR_nI (M := 159) (by omega) (by decide))) (show inR 1 1 1 from (inR_self _)) (by decide) (by decide)
                    have e30 := ti_add (l := 1) (h := 160) (show inR (nI k) 0 159 from (show inR (nI k) 0 159 from inR_nI (M := 159) (by omega) (by decide))) (show inR 1 1 1 from (inR_self _)) (by decide) (by decide)
                    refine p_X9_257 (pc := 185) rfl dX9_nextToken_185 (c_140 _) (Nat.le_of_ble_eq_true rfl) rfl rfl (s_140_39 _ _) ?_
                    have hW31 := cor_si 14039 ((nI k) + 1) hW28 rfl
                    refine R_goto (pc := 188) 101 dX9_nextToken_188 (by decide) ?_
                    have hPk : rowB (f i) (f k) = true := by rw [row_l hL]; have q := h23; rw [hGb.1.2.1, nI_clamp (by omega)] at q; exact inB_t q
                    exact ih101 (k + 1) _ (by omega) (nI_lts (by omega) (by omega) (Int32.not_le.mp b109_16)) (te_s2 hn hTb (nI_lts (by omega) (by omega) (Int32.not_le.mp b109_16)) hPk) ⟨hGb.1, nI_1 k, hGb.2.2.1, (show (-4 : Int64) = tokL f i (k + 1 - i) from tokL_b (sub_ge (m := 9) rfl (by decide) hik (by omega) b143_27))⟩ (by omega) hIb hW31
                  · skip
                    refine R_ldc2 (pc := 146) w_1243c dX9_nextToken_146 ?_
                    refine R_aload_n (pc := 149) dX9_nextToken_149 rfl rfl ?_
                    refine g_X9_271 (pc := 150) (v := .long (tokL f i (k - i))) rfl dX9_nextToken_150 (c_140 _) (by show some (Value.long (σb.2.1 14041)) = _; rw [hGb.2.2.2]) ?_
                    refine R_lmul (pc := 153) dX9_nextToken_153 ?_
                    refine R_aload_n (pc := 154) dX9_nextToken_154 rfl rfl ?_
                    refine g_X9_108 (pc := 155) (v := .ref 170) rfl dX9_nextToken_155 (c_140 _) rfl ?_
                    refine R_aload_n (pc := 158) dX9_nextToken_158 rfl rfl ?_
                    refine g_X9_257 (pc := 159) (v := .int (nI k)) rfl dX9_nextToken_159 (c_140 _) (by show some (Value.int (σb.1 14039)) = _; rw [hGb.2.1]) ?_
                    have hx32 : vp_in (nI k) 160 := (vp_of_inR (show inR (nI k) 0 159 from inR_nI (M := 159) (by omega) (by decide)) (by decide))
                    refine R_iaload (pc := 162) dX9_nextToken_162 (c_170 _) hx32 ?_
                    refine R_i2l (pc := 163) dX9_nextToken_163 ?_
                    refine R_ladd (pc := 164) dX9_nextToken_164 ?_
                    refine R_ldc2 (pc := 165) w_1244c dX9_nextToken_165 ?_
                    refine R_lsub (pc := 168) dX9_nextToken_168 ?_
                    refine R_goto (pc := 169) 175 dX9_nextToken_169 (by decide) ?_
                    refine p_X9_271 (pc := 175) rfl dX9_nextToken_175 (c_140 _) (Nat.le_of_ble_eq_true rfl) rfl rfl (s_140_41 _ _) ?_
                    have hW33 := cor_sj 14041 (((27 * (tokL f i (k - i))) + (Int32.toInt64 (σb.2.2.1 170 (Int32.toNatClampNeg (nI k))))) - 96) hCb rfl
                    refine R_aload_n (pc := 178) dX9_nextToken_178 rfl rfl ?_
                    refine R_dup (pc := 179) dX9_nextToken_179 rfl ?_
                    refine g_X9_257 (pc := 180) (v := .int (nI k)) rfl dX9_nextToken_180 (c_140 _) (by show some (Value.int (σb.1 14039)) = _; rw [hGb.2.1]) ?_
                    refine R_iconst (pc := 183) (v := 1) dX9_nextToken_183 (by decide) ?_
                    refine R_iadd (pc := 184) dX9_nextToken_184 ?_
                    have r34 : inR ((nI k) + 1) 1 160 := inR_add (show inR (nI k) 0 159 from (show inR (nI k) 0 159 from inR_nI (M := 159) (by omega) (by decide))) (show inR 1 1 1 from (inR_self _)) (by decide) (by decide)
                    have e35 := ti_add (l := 1) (h := 160) (show inR (nI k) 0 159 from (show inR (nI k) 0 159 from inR_nI (M := 159) (by omega) (by decide))) (show inR 1 1 1 from (inR_self _)) (by decide) (by decide)
                    refine p_X9_257 (pc := 185) rfl dX9_nextToken_185 (c_140 _) (Nat.le_of_ble_eq_true rfl) rfl rfl (s_140_39 _ _) ?_
                    have hW36 := cor_si 14039 ((nI k) + 1) hW33 rfl
                    refine R_goto (pc := 188) 101 dX9_nextToken_188 (by decide) ?_
                    have hPk : rowB (f i) (f k) = true := by rw [row_l hL]; have q := h23; rw [hGb.1.2.1, nI_clamp (by omega)] at q; exact inB_t q
                    exact ih101 (k + 1) _ (by omega) (nI_lts (by omega) (by omega) (Int32.not_le.mp b109_16)) (te_s2 hn hTb (nI_lts (by omega) (by omega) (Int32.not_le.mp b109_16)) hPk) ⟨hGb.1, nI_1 k, hGb.2.2.1, (show (((27 * (tokL f i (k - i))) + (Int32.toInt64 (σb.2.2.1 170 (Int32.toNatClampNeg (nI k))))) - 96) = tokL f i (k + 1 - i) from by rw [hGb.1.2.1, nI_clamp (by omega)]; exact tokL_a hik (sub_lt (m := 9) rfl (by decide) hik (by omega) b143_27))⟩ (by omega) hIb hW36
                · skip
                  refine R_ifeq (pc := 128) 191 dX9_nextToken_128 (by decide) (fun _ => ?_) (fun h => absurd (by decide) h)
                  have hke : k = tkE f n i := (te_e (P := (fun k => rowB (f i) (f k))) hTb (Or.inr (by show rowB _ _ = false; rw [row_l hL]; have q := h23; rw [hGb.1.2.1, nI_clamp (by omega)] at q; exact inB_f q)))
                  refine R_aload_n (pc := 191) dX9_nextToken_191 rfl rfl ?_
                  refine R_aload_n (pc := 192) dX9_nextToken_192 rfl rfl ?_
                  refine g_X9_257 (pc := 193) (v := .int (nI k)) rfl dX9_nextToken_193 (c_140 _) (by show some (Value.int (σb.1 14039)) = _; rw [hGb.2.1]) ?_
                  refine R_aload_n (pc := 196) dX9_nextToken_196 rfl rfl ?_
                  refine g_X9_260 (pc := 197) (v := .int (nI i)) rfl dX9_nextToken_197 (c_140 _) (by show some (Value.int (σb.1 14040)) = _; rw [hGb.2.2.1]) ?_
                  refine R_isub (pc := 200) dX9_nextToken_200 ?_
                  have r38 : inR ((nI k) - (nI i)) (-160) 159 := inR_sub (show inR (nI k) 0 159 from (show inR (nI k) 0 159 from inR_nI (M := 159) (by omega) (by decide))) (show inR (nI i) 0 160 from (show inR (nI i) 0 160 from inR_nI (M := 160) (by omega) (by decide))) (by decide) (by decide)
                  have e39 := ti_sub (l := (-160)) (h := 159) (show inR (nI k) 0 159 from (show inR (nI k) 0 159 from inR_nI (M := 159) (by omega) (by decide))) (show inR (nI i) 0 160 from (show inR (nI i) 0 160 from inR_nI (M := 160) (by omega) (by decide))) (by decide) (by decide)
                  refine R_bipush (pc := 201) (v := 9) dX9_nextToken_201 (by decide) ?_
                  refine R_icle (pc := 203) 212 dX9_nextToken_203 (by decide) (fun b203_40 => ?_) (fun b203_40 => ?_)
                  · skip
                    refine R_aload_n (pc := 212) dX9_nextToken_212 rfl rfl ?_
                    refine g_X9_271 (pc := 213) (v := .long (tokL f i (k - i))) rfl dX9_nextToken_213 (c_140 _) (by show some (Value.long (σb.2.1 14041)) = _; rw [hGb.2.2.2]) ?_
                    refine p_X9_271 (pc := 216) rfl dX9_nextToken_216 (c_140 _) (Nat.le_of_ble_eq_true rfl) rfl rfl (s_140_41 _ _) ?_
                    have hW41 := cor_sj 14041 (tokL f i (k - i)) hCb rfl
                    refine R_goto (pc := 219) 394 dX9_nextToken_219 (by decide) ?_
                    exact R_vret (pc := 394) dX9_nextToken_394 rfl (Nat.zero_le _) (Nat.zero_le _) ⟨rfl, _, rfl, hIb, hW41, hGb.1, mt_of hsk ⟨hGb.2.1.trans (by rw [hke]), hGb.2.2.1, Nat.le_of_lt hlt, tv_let (k := k) hn hlt hL hke rfl⟩⟩
                  · skip
                    refine R_ldc2 (pc := 206) w_1245c dX9_nextToken_206 ?_
                    refine R_goto (pc := 209) 216 dX9_nextToken_209 (by decide) ?_
                    refine p_X9_271 (pc := 216) rfl dX9_nextToken_216 (c_140 _) (Nat.le_of_ble_eq_true rfl) rfl rfl (s_140_41 _ _) ?_
                    have hW42 := cor_sj 14041 (-4) hCb rfl
                    refine R_goto (pc := 219) 394 dX9_nextToken_219 (by decide) ?_
                    exact R_vret (pc := 394) dX9_nextToken_394 rfl (Nat.zero_le _) (Nat.zero_le _) ⟨rfl, _, rfl, hIb, hW42, hGb.1, mt_of hsk ⟨hGb.2.1.trans (by rw [hke]), hGb.2.2.1, Nat.le_of_lt hlt, tv_let (k := k) hn hlt hL hke (tokL_f (sub_gt (m := 9) rfl (by decide) hik (by omega) b203_40)).symm⟩⟩
          exact HL101 (160 - i) i _ (by omega) (by omega) (te_st hn hlt hPs) ⟨hGa.1, hGa.2, rfl, (tokL_0 f i).symm⟩ (Nat.le_refl _) hIa hW9
        · skip
          refine R_ifeq (pc := 93) 222 dX9_nextToken_93 (by decide) (fun _ => ?_) (fun h => absurd (by decide) h)
          refine R_aload_n (pc := 222) dX9_nextToken_222 rfl rfl ?_
          refine g_X9_108 (pc := 223) (v := .ref 170) rfl dX9_nextToken_223 (c_140 _) rfl ?_
          refine R_aload_n (pc := 226) dX9_nextToken_226 rfl rfl ?_
          refine g_X9_257 (pc := 227) (v := .int (nI i)) rfl dX9_nextToken_227 (c_140 _) (by show some (Value.int (σa.1 14039)) = _; rw [hGa.2]) ?_
          have hx44 : vp_in (nI i) 160 := (vp_of_inR (show inR (nI i) 0 159 from inR_nI (M := 159) (by omega) (by decide)) (by decide))
          refine W_iaload (pc := 230) (σa.2.2.1 170 (Int32.toNatClampNeg (nI i))) dX9_nextToken_230 (c_170 _) hx44 rfl ?_
          refine R_bipush (pc := 231) (v := 48) dX9_nextToken_231 (by decide) ?_
          refine R_bipush (pc := 233) (v := 57) dX9_nextToken_233 (by decide) ?_
          refine k_X9_124 (pc := 235) (sp_X9_in _ _ _ _) rfl (by decide) (Nat.le_refl _) (Nat.le_refl _) (Nat.le_of_ble_eq_true rfl) dX9_nextToken_235 (fun x w2 h => ?_)
          rcases h with ⟨rfl, ⟨h45, rfl⟩ | ⟨h45, rfl⟩⟩
          · skip
            refine R_ifeq (pc := 238) 357 dX9_nextToken_238 (by decide) (fun h => absurd h (by decide)) (fun _ => ?_)
            have hD : isD f i = true := by have q := h45; rw [hGa.1.2.1, nI_clamp (by omega)] at q; exact inB_t q
            have hPs : rowB (f i) (f i) = true := by rw [row_d hD]; exact hD
            have HL241 : ∀ (q k : Nat) (σc : Sg), k + q = 160 → k ≤ n → teF (fun k => rowB (f i) (f k)) n (160 - k) k = tkE f n i → qDg f r n c σc i k → i ≤ k → Inv σc → Cor σ σc → R G l yX9_nextToken cX9_nextToken 1 none 1 0 0 (QV (fun w2 => ∃ σ2, w2 = WW σ2 ∧ Inv σ2 ∧ Cor σ σ2 ∧ mQs f r n c σ2 ∧ MT f n (sk f n p) σ2)) 241 [(some (.ref 140))] [] (WW σc) 0 0 := by
              intro q
              induction q with
              | zero =>
                intro k σc hjc hnc hTc hGc hik hIc hCc
                refine R_aload_n (pc := 241) dX9_nextToken_241 rfl rfl ?_
                refine g_X9_257 (pc := 242) (v := .int (nI k)) rfl dX9_nextToken_242 (c_140 _) (by show some (Value.int (σc.1 14039)) = _; rw [hGc.2.1]) ?_
                refine R_aload_n (pc := 245) dX9_nextToken_245 rfl rfl ?_
                refine g_X9_254 (pc := 246) (v := .int (nI n)) rfl dX9_nextToken_246 (c_140 _) (by show some (Value.int (σc.1 14037)) = _; rw [hGc.1.1]) ?_
                refine R_icge (pc := 249) 333 dX9_nextToken_249 (by decide) (fun _ => ?_) (fun h => False.elim (by have q1 := ti_nle h; have q2 := ti_in (show inR (nI k) 160 160 from (show inR (nI k) 160 160 from by rw [show k = 160 by omega]; exact inR_self _)); have q3 := ti_in (show inR (nI n) 0 160 from (show inR (nI n) 0 160 from inR_nI (M := 160) (by omega) (by decide))); have z0 : (0 : Int32).toInt = 0 := (by decide);  have z1 : (160 : Int32).toInt = 160 := (by decide); omega))
                have hke : k = tkE f n i := (te_e (P := (fun k => rowB (f i) (f k))) hTc (Or.inl (by omega)))
                refine R_aload_n (pc := 333) dX9_nextToken_333 rfl rfl ?_
                refine R_aload_n (pc := 334) dX9_nextToken_334 rfl rfl ?_
                refine g_X9_263 (pc := 335) (v := .int (nI (k - i))) rfl dX9_nextToken_335 (c_140 _) (by show some (Value.int (σc.1 14042)) = _; rw [hGc.2.2.2.1]) ?_
                refine R_iconst (pc := 338) (v := 5) dX9_nextToken_338 (by decide) ?_
                refine R_icle (pc := 339) 348 dX9_nextToken_339 (by decide) (fun b339_48 => ?_) (fun b339_48 => ?_)
                · skip
                  refine R_ldc2 (pc := 348) w_1212c dX9_nextToken_348 ?_
                  refine p_X9_271 (pc := 351) rfl dX9_nextToken_351 (c_140 _) (Nat.le_of_ble_eq_true rfl) rfl rfl (s_140_41 _ _) ?_
                  have hW49 := cor_sj 14041 (-1) hCc rfl
                  refine R_goto (pc := 354) 394 dX9_nextToken_354 (by decide) ?_
                  exact R_vret (pc := 394) dX9_nextToken_394 rfl (Nat.zero_le _) (Nat.zero_le _) ⟨rfl, _, rfl, hIc, hW49, hGc.1, mt_of hsk ⟨hGc.2.1.trans (by rw [hke]), hGc.2.2.1, Nat.le_of_lt hlt, tv_dig (k := k) hn hlt hD hke (Or.inr ⟨rfl, le_nI (m := 5) rfl (by decide) (by omega) b339_48⟩) hGc.2.2.2.2⟩⟩
                · skip
                  refine R_ldc2 (pc := 342) w_1245c dX9_nextToken_342 ?_
                  refine R_goto (pc := 345) 351 dX9_nextToken_345 (by decide) ?_
                  refine p_X9_271 (pc := 351) rfl dX9_nextToken_351 (c_140 _) (Nat.le_of_ble_eq_true rfl) rfl rfl (s_140_41 _ _) ?_
                  have hW50 := cor_sj 14041 (-4) hCc rfl
                  refine R_goto (pc := 354) 394 dX9_nextToken_354 (by decide) ?_
                  exact R_vret (pc := 394) dX9_nextToken_394 rfl (Nat.zero_le _) (Nat.zero_le _) ⟨rfl, _, rfl, hIc, hW50, hGc.1, mt_of hsk ⟨hGc.2.1.trans (by rw [hke]), hGc.2.2.1, Nat.le_of_lt hlt, tv_dig (k := k) hn hlt hD hke (Or.inl ⟨rfl, gt_nI (m := 5) rfl (by decide) (by omega) b339_48⟩) hGc.2.2.2.2⟩⟩
              | succ q ih241 =>
                intro k σc hjc hnc hTc hGc hik hIc hCc
                refine R_aload_n (pc := 241) dX9_nextToken_241 rfl rfl ?_
                refine g_X9_257 (pc := 242) (v := .int (nI k)) rfl dX9_nextToken_242 (c_140 _) (by show some (Value.int (σc.1 14039)) = _; rw [hGc.2.1]) ?_
                refine R_aload_n (pc := 245) dX9_nextToken_245 rfl rfl ?_
                refine g_X9_254 (pc := 246) (v := .int (nI n)) rfl dX9_nextToken_246 (c_140 _) (by show some (Value.int (σc.1 14037)) = _; rw [hGc.1.1]) ?_
                refine R_icge (pc := 249) 333 dX9_nextToken_249 (by decide) (fun b249_51 => ?_) (fun b249_51 => ?_)
                · skip
                  have hke : k = tkE f n i := (te_e (P := (fun k => rowB (f i) (f k))) hTc (Or.inl (nI_les (by omega) (by omega) b249_51)))
                  refine R_aload_n (pc := 333) dX9_nextToken_333 rfl rfl ?_
                  refine R_aload_n (pc := 334) dX9_nextToken_334 rfl rfl ?_
                  refine g_X9_263 (pc := 335) (v := .int (nI (k - i))) rfl dX9_nextToken_335 (c_140 _) (by show some (Value.int (σc.1 14042)) = _; rw [hGc.2.2.2.1]) ?_
                  refine R_iconst (pc := 338) (v := 5) dX9_nextToken_338 (by decide) ?_
                  refine R_icle (pc := 339) 348 dX9_nextToken_339 (by decide) (fun b339_52 => ?_) (fun b339_52 => ?_)
                  · skip
                    refine R_ldc2 (pc := 348) w_1212c dX9_nextToken_348 ?_
                    refine p_X9_271 (pc := 351) rfl dX9_nextToken_351 (c_140 _) (Nat.le_of_ble_eq_true rfl) rfl rfl (s_140_41 _ _) ?_
                    have hW53 := cor_sj 14041 (-1) hCc rfl
                    refine R_goto (pc := 354) 394 dX9_nextToken_354 (by decide) ?_
                    exact R_vret (pc := 394) dX9_nextToken_394 rfl (Nat.zero_le _) (Nat.zero_le _) ⟨rfl, _, rfl, hIc, hW53, hGc.1, mt_of hsk ⟨hGc.2.1.trans (by rw [hke]), hGc.2.2.1, Nat.le_of_lt hlt, tv_dig (k := k) hn hlt hD hke (Or.inr ⟨rfl, le_nI (m := 5) rfl (by decide) (by omega) b339_52⟩) hGc.2.2.2.2⟩⟩
                  · skip
                    refine R_ldc2 (pc := 342) w_1245c dX9_nextToken_342 ?_
                    refine R_goto (pc := 345) 351 dX9_nextToken_345 (by decide) ?_
                    refine p_X9_271 (pc := 351) rfl dX9_nextToken_351 (c_140 _) (Nat.le_of_ble_eq_true rfl) rfl rfl (s_140_41 _ _) ?_
                    have hW54 := cor_sj 14041 (-4) hCc rfl
                    refine R_goto (pc := 354) 394 dX9_nextToken_354 (by decide) ?_
                    exact R_vret (pc := 394) dX9_nextToken_394 rfl (Nat.zero_le _) (Nat.zero_le _) ⟨rfl, _, rfl, hIc, hW54, hGc.1, mt_of hsk ⟨hGc.2.1.trans (by rw [hke]), hGc.2.2.1, Nat.le_of_lt hlt, tv_dig (k := k) hn hlt hD hke (Or.inl ⟨rfl, gt_nI (m := 5) rfl (by decide) (by omega) b339_52⟩) hGc.2.2.2.2⟩⟩
                · skip
                  refine R_aload_n (pc := 252) dX9_nextToken_252 rfl rfl ?_
                  refine g_X9_108 (pc := 253) (v := .ref 170) rfl dX9_nextToken_253 (c_140 _) rfl ?_
                  refine R_aload_n (pc := 256) dX9_nextToken_256 rfl rfl ?_
                  refine g_X9_257 (pc := 257) (v := .int (nI k)) rfl dX9_nextToken_257 (c_140 _) (by show some (Value.int (σc.1 14039)) = _; rw [hGc.2.1]) ?_
                  have hx55 : vp_in (nI k) 160 := (vp_of_inR (show inR (nI k) 0 159 from inR_nI (M := 159) (by omega) (by decide)) (by decide))
                  refine R_iaload (pc := 260) dX9_nextToken_260 (c_170 _) hx55 ?_
                  refine R_bipush (pc := 261) (v := 48) dX9_nextToken_261 (by decide) ?_
                  refine R_bipush (pc := 263) (v := 57) dX9_nextToken_263 (by decide) ?_
                  refine k_X9_124 (pc := 265) (sp_X9_in _ _ _ _) rfl (by decide) (Nat.le_refl _) (Nat.le_refl _) (Nat.le_of_ble_eq_true rfl) dX9_nextToken_265 (fun x w2 h => ?_)
                  rcases h with ⟨rfl, ⟨h56, rfl⟩ | ⟨h56, rfl⟩⟩
                  · skip
                    refine R_ifeq (pc := 268) 333 dX9_nextToken_268 (by decide) (fun h => absurd h (by decide)) (fun _ => ?_)
                    refine R_aload_n (pc := 271) dX9_nextToken_271 rfl rfl ?_
                    refine R_aload_n (pc := 272) dX9_nextToken_272 rfl rfl ?_
                    refine g_X9_263 (pc := 273) (v := .int (nI (k - i))) rfl dX9_nextToken_273 (c_140 _) (by show some (Value.int (σc.1 14042)) = _; rw [hGc.2.2.2.1]) ?_
                    refine R_iconst (pc := 276) (v := 5) dX9_nextToken_276 (by decide) ?_
                    refine R_icge (pc := 277) 303 dX9_nextToken_277 (by decide) (fun b277_58 => ?_) (fun b277_58 => ?_)
                    · skip
                      refine R_aload_n (pc := 303) dX9_nextToken_303 rfl rfl ?_
                      refine g_X9_266 (pc := 304) (v := .int (nuF f (min (k - i) 5) i 0)) rfl dX9_nextToken_304 (c_140 _) (by show some (Value.int (σc.1 14043)) = _; rw [hGc.2.2.2.2]) ?_
                      refine p_X9_266 (pc := 307) rfl dX9_nextToken_307 (c_140 _) (Nat.le_of_ble_eq_true rfl) rfl rfl (s_140_43 _ _) ?_
                      have hW59 := cor_si 14043 (nuF f (min (k - i) 5) i 0) hCc rfl
                      refine R_aload_n (pc := 310) dX9_nextToken_310 rfl rfl ?_
                      refine R_dup (pc := 311) dX9_nextToken_311 rfl ?_
                      refine g_X9_263 (pc := 312) (v := .int (nI (k - i))) rfl dX9_nextToken_312 (c_140 _) (by show some (Value.int (σc.1 14042)) = _; rw [hGc.2.2.2.1]) ?_
                      refine R_iconst (pc := 315) (v := 1) dX9_nextToken_315 (by decide) ?_
                      refine R_iadd (pc := 316) dX9_nextToken_316 ?_
                      have r60 : inR ((nI (k - i)) + 1) 1 161 := inR_add (show inR (nI (k - i)) 0 160 from (show inR (nI (k - i)) 0 160 from inR_nI (M := 160) (by omega) (by decide))) (show inR 1 1 1 from (inR_self _)) (by decide) (by decide)
                      have e61 := ti_add (l := 1) (h := 161) (show inR (nI (k - i)) 0 160 from (show inR (nI (k - i)) 0 160 from inR_nI (M := 160) (by omega) (by decide))) (show inR 1 1 1 from (inR_self _)) (by decide) (by decide)
                      refine p_X9_263 (pc := 317) rfl dX9_nextToken_317 (c_140 _) (Nat.le_of_ble_eq_true rfl) rfl rfl (s_140_42 _ _) ?_
                      have hW62 := cor_si 14042 ((nI (k - i)) + 1) hW59 rfl
                      refine R_aload_n (pc := 320) dX9_nextToken_320 rfl rfl ?_
                      refine R_dup (pc := 321) dX9_nextToken_321 rfl ?_
                      refine g_X9_257 (pc := 322) (v := .int (nI k)) rfl dX9_nextToken_322 (c_140 _) (by show some (Value.int (σc.1 14039)) = _; rw [hGc.2.1]) ?_
                      refine R_iconst (pc := 325) (v := 1) dX9_nextToken_325 (by decide) ?_
                      refine R_iadd (pc := 326) dX9_nextToken_326 ?_
                      have r63 : inR ((nI k) + 1) 1 160 := inR_add (show inR (nI k) 0 159 from (show inR (nI k) 0 159 from inR_nI (M := 159) (by omega) (by decide))) (show inR 1 1 1 from (inR_self _)) (by decide) (by decide)
                      have e64 := ti_add (l := 1) (h := 160) (show inR (nI k) 0 159 from (show inR (nI k) 0 159 from inR_nI (M := 159) (by omega) (by decide))) (show inR 1 1 1 from (inR_self _)) (by decide) (by decide)
                      refine p_X9_257 (pc := 327) rfl dX9_nextToken_327 (c_140 _) (Nat.le_of_ble_eq_true rfl) rfl rfl (s_140_39 _ _) ?_
                      have hW65 := cor_si 14039 ((nI k) + 1) hW62 rfl
                      refine R_goto (pc := 330) 241 dX9_nextToken_330 (by decide) ?_
                      have hPk : rowB (f i) (f k) = true := by rw [row_d hD]; have q := h56; rw [hGc.1.2.1, nI_clamp (by omega)] at q; exact inB_t q
                      exact ih241 (k + 1) _ (by omega) (nI_lts (by omega) (by omega) (Int32.not_le.mp b249_51)) (te_s2 hn hTc (nI_lts (by omega) (by omega) (Int32.not_le.mp b249_51)) hPk) ⟨hGc.1, nI_1 k, hGc.2.2.1, dig_s hik, (show (nuF f (min (k - i) 5) i 0) = nuF f (min (k + 1 - i) 5) i 0 from nuT_b (ge_nI (m := 5) rfl (by decide) (by omega) b277_58))⟩ (by omega) hIc hW65
                    · skip
                      refine R_bipush (pc := 280) (v := 10) dX9_nextToken_280 (by decide) ?_
                      refine R_aload_n (pc := 282) dX9_nextToken_282 rfl rfl ?_
                      refine g_X9_266 (pc := 283) (v := .int (nuF f (min (k - i) 5) i 0)) rfl dX9_nextToken_283 (c_140 _) (by show some (Value.int (σc.1 14043)) = _; rw [hGc.2.2.2.2]) ?_
                      refine R_imul (pc := 286) dX9_nextToken_286 ?_
                      refine R_aload_n (pc := 287) dX9_nextToken_287 rfl rfl ?_
                      refine g_X9_108 (pc := 288) (v := .ref 170) rfl dX9_nextToken_288 (c_140 _) rfl ?_
                      refine R_aload_n (pc := 291) dX9_nextToken_291 rfl rfl ?_
                      refine g_X9_257 (pc := 292) (v := .int (nI k)) rfl dX9_nextToken_292 (c_140 _) (by show some (Value.int (σc.1 14039)) = _; rw [hGc.2.1]) ?_
                      have hx66 : vp_in (nI k) 160 := (vp_of_inR (show inR (nI k) 0 159 from inR_nI (M := 159) (by omega) (by decide)) (by decide))
                      refine R_iaload (pc := 295) dX9_nextToken_295 (c_170 _) hx66 ?_
                      refine R_iadd (pc := 296) dX9_nextToken_296 ?_
                      refine R_bipush (pc := 297) (v := 48) dX9_nextToken_297 (by decide) ?_
                      refine R_isub (pc := 299) dX9_nextToken_299 ?_
                      refine R_goto (pc := 300) 307 dX9_nextToken_300 (by decide) ?_
                      refine p_X9_266 (pc := 307) rfl dX9_nextToken_307 (c_140 _) (Nat.le_of_ble_eq_true rfl) rfl rfl (s_140_43 _ _) ?_
                      have hW67 := cor_si 14043 (((10 * (nuF f (min (k - i) 5) i 0)) + (σc.2.2.1 170 (Int32.toNatClampNeg (nI k)))) - 48) hCc rfl
                      refine R_aload_n (pc := 310) dX9_nextToken_310 rfl rfl ?_
                      refine R_dup (pc := 311) dX9_nextToken_311 rfl ?_
                      refine g_X9_263 (pc := 312) (v := .int (nI (k - i))) rfl dX9_nextToken_312 (c_140 _) (by show some (Value.int (σc.1 14042)) = _; rw [hGc.2.2.2.1]) ?_
                      refine R_iconst (pc := 315) (v := 1) dX9_nextToken_315 (by decide) ?_
                      refine R_iadd (pc := 316) dX9_nextToken_316 ?_
                      have r68 : inR ((nI (k - i)) + 1) 1 161 := inR_add (show inR (nI (k - i)) 0 160 from (show inR (nI (k - i)) 0 160 from inR_nI (M := 160) (by omega) (by decide))) (show inR 1 1 1 from (inR_self _)) (by decide) (by decide)
                      have e69 := ti_add (l := 1) (h := 161) (show inR (nI (k - i)) 0 160 from (show inR (nI (k - i)) 0 160 from inR_nI (M := 160) (by omega) (by decide))) (show inR 1 1 1 from (inR_self _)) (by decide) (by decide)
                      refine p_X9_263 (pc := 317) rfl dX9_nextToken_317 (c_140 _) (Nat.le_of_ble_eq_true rfl) rfl rfl (s_140_42 _ _) ?_
                      have hW70 := cor_si 14042 ((nI (k - i)) + 1) hW67 rfl
                      refine R_aload_n (pc := 320) dX9_nextToken_320 rfl rfl ?_
                      refine R_dup (pc := 321) dX9_nextToken_321 rfl ?_
                      refine g_X9_257 (pc := 322) (v := .int (nI k)) rfl dX9_nextToken_322 (c_140 _) (by show some (Value.int (σc.1 14039)) = _; rw [hGc.2.1]) ?_
                      refine R_iconst (pc := 325) (v := 1) dX9_nextToken_325 (by decide) ?_
                      refine R_iadd (pc := 326) dX9_nextToken_326 ?_
                      have r71 : inR ((nI k) + 1) 1 160 := inR_add (show inR (nI k) 0 159 from (show inR (nI k) 0 159 from inR_nI (M := 159) (by omega) (by decide))) (show inR 1 1 1 from (inR_self _)) (by decide) (by decide)
                      have e72 := ti_add (l := 1) (h := 160) (show inR (nI k) 0 159 from (show inR (nI k) 0 159 from inR_nI (M := 159) (by omega) (by decide))) (show inR 1 1 1 from (inR_self _)) (by decide) (by decide)
                      refine p_X9_257 (pc := 327) rfl dX9_nextToken_327 (c_140 _) (Nat.le_of_ble_eq_true rfl) rfl rfl (s_140_39 _ _) ?_
                      have hW73 := cor_si 14039 ((nI k) + 1) hW70 rfl
                      refine R_goto (pc := 330) 241 dX9_nextToken_330 (by decide) ?_
                      have hPk : rowB (f i) (f k) = true := by rw [row_d hD]; have q := h56; rw [hGc.1.2.1, nI_clamp (by omega)] at q; exact inB_t q
                      exact ih241 (k + 1) _ (by omega) (nI_lts (by omega) (by omega) (Int32.not_le.mp b249_51)) (te_s2 hn hTc (nI_lts (by omega) (by omega) (Int32.not_le.mp b249_51)) hPk) ⟨hGc.1, nI_1 k, hGc.2.2.1, dig_s hik, (show (((10 * (nuF f (min (k - i) 5) i 0)) + (σc.2.2.1 170 (Int32.toNatClampNeg (nI k)))) - 48) = nuF f (min (k + 1 - i) 5) i 0 from by rw [hGc.1.2.1, nI_clamp (by omega)]; exact nuT_a hik (lt_nI (m := 5) rfl (by decide) (by omega) b277_58))⟩ (by omega) hIc hW73
                  · skip
                    refine R_ifeq (pc := 268) 333 dX9_nextToken_268 (by decide) (fun _ => ?_) (fun h => absurd (by decide) h)
                    have hke : k = tkE f n i := (te_e (P := (fun k => rowB (f i) (f k))) hTc (Or.inr (by show rowB _ _ = false; rw [row_d hD]; have q := h56; rw [hGc.1.2.1, nI_clamp (by omega)] at q; exact inB_f q)))
                    refine R_aload_n (pc := 333) dX9_nextToken_333 rfl rfl ?_
                    refine R_aload_n (pc := 334) dX9_nextToken_334 rfl rfl ?_
                    refine g_X9_263 (pc := 335) (v := .int (nI (k - i))) rfl dX9_nextToken_335 (c_140 _) (by show some (Value.int (σc.1 14042)) = _; rw [hGc.2.2.2.1]) ?_
                    refine R_iconst (pc := 338) (v := 5) dX9_nextToken_338 (by decide) ?_
                    refine R_icle (pc := 339) 348 dX9_nextToken_339 (by decide) (fun b339_75 => ?_) (fun b339_75 => ?_)
                    · skip
                      refine R_ldc2 (pc := 348) w_1212c dX9_nextToken_348 ?_
                      refine p_X9_271 (pc := 351) rfl dX9_nextToken_351 (c_140 _) (Nat.le_of_ble_eq_true rfl) rfl rfl (s_140_41 _ _) ?_
                      have hW76 := cor_sj 14041 (-1) hCc rfl
                      refine R_goto (pc := 354) 394 dX9_nextToken_354 (by decide) ?_
                      exact R_vret (pc := 394) dX9_nextToken_394 rfl (Nat.zero_le _) (Nat.zero_le _) ⟨rfl, _, rfl, hIc, hW76, hGc.1, mt_of hsk ⟨hGc.2.1.trans (by rw [hke]), hGc.2.2.1, Nat.le_of_lt hlt, tv_dig (k := k) hn hlt hD hke (Or.inr ⟨rfl, le_nI (m := 5) rfl (by decide) (by omega) b339_75⟩) hGc.2.2.2.2⟩⟩
                    · skip
                      refine R_ldc2 (pc := 342) w_1245c dX9_nextToken_342 ?_
                      refine R_goto (pc := 345) 351 dX9_nextToken_345 (by decide) ?_
                      refine p_X9_271 (pc := 351) rfl dX9_nextToken_351 (c_140 _) (Nat.le_of_ble_eq_true rfl) rfl rfl (s_140_41 _ _) ?_
                      have hW77 := cor_sj 14041 (-4) hCc rfl
                      refine R_goto (pc := 354) 394 dX9_nextToken_354 (by decide) ?_
                      exact R_vret (pc := 394) dX9_nextToken_394 rfl (Nat.zero_le _) (Nat.zero_le _) ⟨rfl, _, rfl, hIc, hW77, hGc.1, mt_of hsk ⟨hGc.2.1.trans (by rw [hke]), hGc.2.2.1, Nat.le_of_lt hlt, tv_dig (k := k) hn hlt hD hke (Or.inl ⟨rfl, gt_nI (m := 5) rfl (by decide) (by omega) b339_75⟩) hGc.2.2.2.2⟩⟩
            exact HL241 (160 - i) i _ (by omega) (by omega) (te_st hn hlt hPs) ⟨hGa.1, hGa.2, rfl, (show (0 : Int32) = nI (i - i) by rw [Nat.sub_self]; rfl), nuT_0 f i⟩ (Nat.le_refl _) hIa hW4
          · skip
            refine R_ifeq (pc := 238) 357 dX9_nextToken_238 (by decide) (fun _ => ?_) (fun h => absurd (by decide) h)
            refine R_aload_n (pc := 357) dX9_nextToken_357 rfl rfl ?_
            refine R_aload_n (pc := 358) dX9_nextToken_358 rfl rfl ?_
            refine g_X9_108 (pc := 359) (v := .ref 170) rfl dX9_nextToken_359 (c_140 _) rfl ?_
            refine R_aload_n (pc := 362) dX9_nextToken_362 rfl rfl ?_
            refine g_X9_257 (pc := 363) (v := .int (nI i)) rfl dX9_nextToken_363 (c_140 _) (by show some (Value.int (σa.1 14039)) = _; rw [hGa.2]) ?_
            have hx79 : vp_in (nI i) 160 := (vp_of_inR (show inR (nI i) 0 159 from inR_nI (M := 159) (by omega) (by decide)) (by decide))
            refine W_iaload (pc := 366) (σa.2.2.1 170 (Int32.toNatClampNeg (nI i))) dX9_nextToken_366 (c_170 _) hx79 rfl ?_
            refine R_bipush (pc := 367) (v := 59) dX9_nextToken_367 (by decide) ?_
            refine R_icne (pc := 369) 378 dX9_nextToken_369 (by decide) (fun b369_80 => ?_) (fun b369_80 => ?_)
            · skip
              refine R_ldc2 (pc := 378) w_1245c dX9_nextToken_378 ?_
              refine p_X9_271 (pc := 381) rfl dX9_nextToken_381 (c_140 _) (Nat.le_of_ble_eq_true rfl) rfl rfl (s_140_41 _ _) ?_
              have hW81 := cor_sj 14041 (-4) hW4 rfl
              refine R_aload_n (pc := 384) dX9_nextToken_384 rfl rfl ?_
              refine R_dup (pc := 385) dX9_nextToken_385 rfl ?_
              refine g_X9_257 (pc := 386) (v := .int (nI i)) rfl dX9_nextToken_386 (c_140 _) (by show some (Value.int (σa.1 14039)) = _; rw [hGa.2]) ?_
              refine R_iconst (pc := 389) (v := 1) dX9_nextToken_389 (by decide) ?_
              refine R_iadd (pc := 390) dX9_nextToken_390 ?_
              have r82 : inR ((nI i) + 1) 1 160 := inR_add (show inR (nI i) 0 159 from (show inR (nI i) 0 159 from inR_nI (M := 159) (by omega) (by decide))) (show inR 1 1 1 from (inR_self _)) (by decide) (by decide)
              have e83 := ti_add (l := 1) (h := 160) (show inR (nI i) 0 159 from (show inR (nI i) 0 159 from inR_nI (M := 159) (by omega) (by decide))) (show inR 1 1 1 from (inR_self _)) (by decide) (by decide)
              refine p_X9_257 (pc := 391) rfl dX9_nextToken_391 (c_140 _) (Nat.le_of_ble_eq_true rfl) rfl rfl (s_140_39 _ _) ?_
              have hW84 := cor_si 14039 ((nI i) + 1) hW81 rfl
              exact R_vret (pc := 394) dX9_nextToken_394 rfl (Nat.zero_le _) (Nat.zero_le _) ⟨rfl, _, rfl, hIa, hW84, hGa.1, mt_of hsk (by have hLf : isL f i = false := (by have q := h7; rw [hGa.1.2.1, nI_clamp (by omega)] at q; exact inB_f q); have hDf : isD f i = false := (by have q := h45; rw [hGa.1.2.1, nI_clamp (by omega)] at q; exact inB_f q); exact ⟨(show nI i + 1 = nI (tkE f n i) from by rw [tk_o hlt hLf hDf, nI_1]), rfl, Nat.le_of_lt hlt, tv_oth hlt hLf hDf (Or.inr ⟨(by have q := b369_80; rw [hGa.1.2.1, nI_clamp (by omega)] at q; exact q), rfl⟩)⟩)⟩
            · skip
              refine R_ldc2 (pc := 372) w_1246c dX9_nextToken_372 ?_
              refine R_goto (pc := 375) 381 dX9_nextToken_375 (by decide) ?_
              refine p_X9_271 (pc := 381) rfl dX9_nextToken_381 (c_140 _) (Nat.le_of_ble_eq_true rfl) rfl rfl (s_140_41 _ _) ?_
              have hW85 := cor_sj 14041 (-3) hW4 rfl
              refine R_aload_n (pc := 384) dX9_nextToken_384 rfl rfl ?_
              refine R_dup (pc := 385) dX9_nextToken_385 rfl ?_
              refine g_X9_257 (pc := 386) (v := .int (nI i)) rfl dX9_nextToken_386 (c_140 _) (by show some (Value.int (σa.1 14039)) = _; rw [hGa.2]) ?_
              refine R_iconst (pc := 389) (v := 1) dX9_nextToken_389 (by decide) ?_
              refine R_iadd (pc := 390) dX9_nextToken_390 ?_
              have r86 : inR ((nI i) + 1) 1 160 := inR_add (show inR (nI i) 0 159 from (show inR (nI i) 0 159 from inR_nI (M := 159) (by omega) (by decide))) (show inR 1 1 1 from (inR_self _)) (by decide) (by decide)
              have e87 := ti_add (l := 1) (h := 160) (show inR (nI i) 0 159 from (show inR (nI i) 0 159 from inR_nI (M := 159) (by omega) (by decide))) (show inR 1 1 1 from (inR_self _)) (by decide) (by decide)
              refine p_X9_257 (pc := 391) rfl dX9_nextToken_391 (c_140 _) (Nat.le_of_ble_eq_true rfl) rfl rfl (s_140_39 _ _) ?_
              have hW88 := cor_si 14039 ((nI i) + 1) hW85 rfl
              exact R_vret (pc := 394) dX9_nextToken_394 rfl (Nat.zero_le _) (Nat.zero_le _) ⟨rfl, _, rfl, hIa, hW88, hGa.1, mt_of hsk (by have hLf : isL f i = false := (by have q := h7; rw [hGa.1.2.1, nI_clamp (by omega)] at q; exact inB_f q); have hDf : isD f i = false := (by have q := h45; rw [hGa.1.2.1, nI_clamp (by omega)] at q; exact inB_f q); exact ⟨(show nI i + 1 = nI (tkE f n i) from by rw [tk_o hlt hLf hDf, nI_1]), rfl, Nat.le_of_lt hlt, tv_oth hlt hLf hDf (Or.inl ⟨(by have q := b369_80; rw [hGa.1.2.1, nI_clamp (by omega)] at q; exact q), rfl⟩)⟩)⟩
      · skip
        refine R_aload_n (pc := 67) dX9_nextToken_67 rfl rfl ?_
        refine R_ldc2 (pc := 68) w_1242c dX9_nextToken_68 ?_
        refine p_X9_271 (pc := 71) rfl dX9_nextToken_71 (c_140 _) (Nat.le_of_ble_eq_true rfl) rfl rfl (s_140_41 _ _) ?_
        have hW89 := cor_sj 14041 (-2) hW4 rfl
        refine R_goto (pc := 74) 394 dX9_nextToken_74 (by decide) ?_
        exact R_vret (pc := 394) dX9_nextToken_394 rfl (Nat.zero_le _) (Nat.zero_le _) ⟨rfl, _, rfl, hIa, hW89, hGa.1, mt_of hsk (mt_end (σ := (uJ (uI (uI (uI σa 14040 (nI i)) 14042 0) 14043 0) 14041 (-2))) (nI_eqn (by omega) (by omega) b64_5) hGa.2 rfl rfl)⟩
    | succ q ih0 =>
      intro i σa hja hna hTa hGa hIa hCa
      refine R_aload_n (pc := 0) dX9_nextToken_0 rfl rfl ?_
      refine g_X9_257 (pc := 1) (v := .int (nI i)) rfl dX9_nextToken_1 (c_140 _) (by show some (Value.int (σa.1 14039)) = _; rw [hGa.2]) ?_
      refine R_aload_n (pc := 4) dX9_nextToken_4 rfl rfl ?_
      refine g_X9_254 (pc := 5) (v := .int (nI n)) rfl dX9_nextToken_5 (c_140 _) (by show some (Value.int (σa.1 14037)) = _; rw [hGa.1.1]) ?_
      refine R_icge (pc := 8) 38 dX9_nextToken_8 (by decide) (fun b8_90 => ?_) (fun b8_90 => ?_)
      · skip
        have hsk : i = sk f n p := sk_e hTa (Or.inl (nI_les (by omega) (by omega) b8_90))
        refine R_aload_n (pc := 38) dX9_nextToken_38 rfl rfl ?_
        refine R_aload_n (pc := 39) dX9_nextToken_39 rfl rfl ?_
        refine g_X9_257 (pc := 40) (v := .int (nI i)) rfl dX9_nextToken_40 (c_140 _) (by show some (Value.int (σa.1 14039)) = _; rw [hGa.2]) ?_
        refine p_X9_260 (pc := 43) rfl dX9_nextToken_43 (c_140 _) (Nat.le_of_ble_eq_true rfl) rfl rfl (s_140_40 _ _) ?_
        have hW91 := cor_si 14040 (nI i) hCa rfl
        refine R_aload_n (pc := 46) dX9_nextToken_46 rfl rfl ?_
        refine R_iconst (pc := 47) (v := 0) dX9_nextToken_47 (by decide) ?_
        refine p_X9_263 (pc := 48) rfl dX9_nextToken_48 (c_140 _) (Nat.le_of_ble_eq_true rfl) rfl rfl (s_140_42 _ _) ?_
        have hW92 := cor_si 14042 0 hW91 rfl
        refine R_aload_n (pc := 51) dX9_nextToken_51 rfl rfl ?_
        refine R_iconst (pc := 52) (v := 0) dX9_nextToken_52 (by decide) ?_
        refine p_X9_266 (pc := 53) rfl dX9_nextToken_53 (c_140 _) (Nat.le_of_ble_eq_true rfl) rfl rfl (s_140_43 _ _) ?_
        have hW93 := cor_si 14043 0 hW92 rfl
        refine R_aload_n (pc := 56) dX9_nextToken_56 rfl rfl ?_
        refine g_X9_257 (pc := 57) (v := .int (nI i)) rfl dX9_nextToken_57 (c_140 _) (by show some (Value.int (σa.1 14039)) = _; rw [hGa.2]) ?_
        refine R_aload_n (pc := 60) dX9_nextToken_60 rfl rfl ?_
        refine g_X9_254 (pc := 61) (v := .int (nI n)) rfl dX9_nextToken_61 (c_140 _) (by show some (Value.int (σa.1 14037)) = _; rw [hGa.1.1]) ?_
        refine R_icne (pc := 64) 77 dX9_nextToken_64 (by decide) (fun b64_94 => ?_) (fun b64_94 => ?_)
        · skip
          have hlt : i < n := Nat.lt_of_le_of_ne hna (fun e => b64_94 (by rw [e]))
          refine R_aload_n (pc := 77) dX9_nextToken_77 rfl rfl ?_
          refine g_X9_108 (pc := 78) (v := .ref 170) rfl dX9_nextToken_78 (c_140 _) rfl ?_
          refine R_aload_n (pc := 81) dX9_nextToken_81 rfl rfl ?_
          refine g_X9_257 (pc := 82) (v := .int (nI i)) rfl dX9_nextToken_82 (c_140 _) (by show some (Value.int (σa.1 14039)) = _; rw [hGa.2]) ?_
          have hx95 : vp_in (nI i) 160 := (vp_of_inR (show inR (nI i) 0 159 from inR_nI (M := 159) (by omega) (by decide)) (by decide))
          refine W_iaload (pc := 85) (σa.2.2.1 170 (Int32.toNatClampNeg (nI i))) dX9_nextToken_85 (c_170 _) hx95 rfl ?_
          refine R_bipush (pc := 86) (v := 97) dX9_nextToken_86 (by decide) ?_
          refine R_bipush (pc := 88) (v := 122) dX9_nextToken_88 (by decide) ?_
          refine k_X9_124 (pc := 90) (sp_X9_in _ _ _ _) rfl (by decide) (Nat.le_refl _) (Nat.le_refl _) (Nat.le_of_ble_eq_true rfl) dX9_nextToken_90 (fun x w2 h => ?_)
          rcases h with ⟨rfl, ⟨h96, rfl⟩ | ⟨h96, rfl⟩⟩
          · skip
            refine R_ifeq (pc := 93) 222 dX9_nextToken_93 (by decide) (fun h => absurd h (by decide)) (fun _ => ?_)
            refine R_aload_n (pc := 96) dX9_nextToken_96 rfl rfl ?_
            refine R_lconst (pc := 97) (v := 0) dX9_nextToken_97 (by decide) ?_
            refine p_X9_271 (pc := 98) rfl dX9_nextToken_98 (c_140 _) (Nat.le_of_ble_eq_true rfl) rfl rfl (s_140_41 _ _) ?_
            have hW98 := cor_sj 14041 0 hW93 rfl
            have hL : isL f i = true := by have q := h96; rw [hGa.1.2.1, nI_clamp (by omega)] at q; exact inB_t q
            have hPs : rowB (f i) (f i) = true := by rw [row_l hL]; exact hL
            have HL101 : ∀ (q k : Nat) (σb : Sg), k + q = 160 → k ≤ n → teF (fun k => rowB (f i) (f k)) n (160 - k) k = tkE f n i → qLt f r n c σb i k → i ≤ k → Inv σb → Cor σ σb → R G l yX9_nextToken cX9_nextToken 1 none 1 0 0 (QV (fun w2 => ∃ σ2, w2 = WW σ2 ∧ Inv σ2 ∧ Cor σ σ2 ∧ mQs f r n c σ2 ∧ MT f n (sk f n p) σ2)) 101 [(some (.ref 140))] [] (WW σb) 0 0 := by
              intro q
              induction q with
              | zero =>
                intro k σb hjb hnb hTb hGb hik hIb hCb
                refine R_aload_n (pc := 101) dX9_nextToken_101 rfl rfl ?_
                refine g_X9_257 (pc := 102) (v := .int (nI k)) rfl dX9_nextToken_102 (c_140 _) (by show some (Value.int (σb.1 14039)) = _; rw [hGb.2.1]) ?_
                refine R_aload_n (pc := 105) dX9_nextToken_105 rfl rfl ?_
                refine g_X9_254 (pc := 106) (v := .int (nI n)) rfl dX9_nextToken_106 (c_140 _) (by show some (Value.int (σb.1 14037)) = _; rw [hGb.1.1]) ?_
                refine R_icge (pc := 109) 191 dX9_nextToken_109 (by decide) (fun _ => ?_) (fun h => False.elim (by have q1 := ti_nle h; have q2 := ti_in (show inR (nI k) 160 160 from (show inR (nI k) 160 160 from by rw [show k = 160 by omega]; exact inR_self _)); have q3 := ti_in (show inR (nI n) 0 160 from (show inR (nI n) 0 160 from inR_nI (M := 160) (by omega) (by decide))); have z0 : (0 : Int32).toInt = 0 := (by decide);  have z1 : (160 : Int32).toInt = 160 := (by decide); omega))
                have hke : k = tkE f n i := (te_e (P := (fun k => rowB (f i) (f k))) hTb (Or.inl (by omega)))
                refine R_aload_n (pc := 191) dX9_nextToken_191 rfl rfl ?_
                refine R_aload_n (pc := 192) dX9_nextToken_192 rfl rfl ?_
                refine g_X9_257 (pc := 193) (v := .int (nI k)) rfl dX9_nextToken_193 (c_140 _) (by show some (Value.int (σb.1 14039)) = _; rw [hGb.2.1]) ?_
                refine R_aload_n (pc := 196) dX9_nextToken_196 rfl rfl ?_
                refine g_X9_260 (pc := 197) (v := .int (nI i)) rfl dX9_nextToken_197 (c_140 _) (by show some (Value.int (σb.1 14040)) = _; rw [hGb.2.2.1]) ?_
                refine R_isub (pc := 200) dX9_nextToken_200 ?_
                have r100 : inR ((nI k) - (nI i)) 0 160 := inR_sub (show inR (nI k) 160 160 from (show inR (nI k) 160 160 from by rw [show k = 160 by omega]; exact inR_self _)) (show inR (nI i) 0 160 from (show inR (nI i) 0 160 from inR_nI (M := 160) (by omega) (by decide))) (by decide) (by decide)
                have e101 := ti_sub (l := 0) (h := 160) (show inR (nI k) 160 160 from (show inR (nI k) 160 160 from by rw [show k = 160 by omega]; exact inR_self _)) (show inR (nI i) 0 160 from (show inR (nI i) 0 160 from inR_nI (M := 160) (by omega) (by decide))) (by decide) (by decide)
                refine R_bipush (pc := 201) (v := 9) dX9_nextToken_201 (by decide) ?_
                refine R_icle (pc := 203) 212 dX9_nextToken_203 (by decide) (fun b203_102 => ?_) (fun b203_102 => ?_)
                · skip
                  refine R_aload_n (pc := 212) dX9_nextToken_212 rfl rfl ?_
                  refine g_X9_271 (pc := 213) (v := .long (tokL f i (k - i))) rfl dX9_nextToken_213 (c_140 _) (by show some (Value.long (σb.2.1 14041)) = _; rw [hGb.2.2.2]) ?_
                  refine p_X9_271 (pc := 216) rfl dX9_nextToken_216 (c_140 _) (Nat.le_of_ble_eq_true rfl) rfl rfl (s_140_41 _ _) ?_
                  have hW103 := cor_sj 14041 (tokL f i (k - i)) hCb rfl
                  refine R_goto (pc := 219) 394 dX9_nextToken_219 (by decide) ?_
                  exact R_vret (pc := 394) dX9_nextToken_394 rfl (Nat.zero_le _) (Nat.zero_le _) ⟨rfl, _, rfl, hIb, hW103, hGb.1, mt_of hsk ⟨hGb.2.1.trans (by rw [hke]), hGb.2.2.1, Nat.le_of_lt hlt, tv_let (k := k) hn hlt hL hke rfl⟩⟩
                · skip
                  refine R_ldc2 (pc := 206) w_1245c dX9_nextToken_206 ?_
                  refine R_goto (pc := 209) 216 dX9_nextToken_209 (by decide) ?_
                  refine p_X9_271 (pc := 216) rfl dX9_nextToken_216 (c_140 _) (Nat.le_of_ble_eq_true rfl) rfl rfl (s_140_41 _ _) ?_
                  have hW104 := cor_sj 14041 (-4) hCb rfl
                  refine R_goto (pc := 219) 394 dX9_nextToken_219 (by decide) ?_
                  exact R_vret (pc := 394) dX9_nextToken_394 rfl (Nat.zero_le _) (Nat.zero_le _) ⟨rfl, _, rfl, hIb, hW104, hGb.1, mt_of hsk ⟨hGb.2.1.trans (by rw [hke]), hGb.2.2.1, Nat.le_of_lt hlt, tv_let (k := k) hn hlt hL hke (tokL_f (sub_gt (m := 9) rfl (by decide) hik (by omega) b203_102)).symm⟩⟩
              | succ q ih101 =>
                intro k σb hjb hnb hTb hGb hik hIb hCb
                refine R_aload_n (pc := 101) dX9_nextToken_101 rfl rfl ?_
                refine g_X9_257 (pc := 102) (v := .int (nI k)) rfl dX9_nextToken_102 (c_140 _) (by show some (Value.int (σb.1 14039)) = _; rw [hGb.2.1]) ?_
                refine R_aload_n (pc := 105) dX9_nextToken_105 rfl rfl ?_
                refine g_X9_254 (pc := 106) (v := .int (nI n)) rfl dX9_nextToken_106 (c_140 _) (by show some (Value.int (σb.1 14037)) = _; rw [hGb.1.1]) ?_
                refine R_icge (pc := 109) 191 dX9_nextToken_109 (by decide) (fun b109_105 => ?_) (fun b109_105 => ?_)
                · skip
                  have hke : k = tkE f n i := (te_e (P := (fun k => rowB (f i) (f k))) hTb (Or.inl (nI_les (by omega) (by omega) b109_105)))
                  refine R_aload_n (pc := 191) dX9_nextToken_191 rfl rfl ?_
                  refine R_aload_n (pc := 192) dX9_nextToken_192 rfl rfl ?_
                  refine g_X9_257 (pc := 193) (v := .int (nI k)) rfl dX9_nextToken_193 (c_140 _) (by show some (Value.int (σb.1 14039)) = _; rw [hGb.2.1]) ?_
                  refine R_aload_n (pc := 196) dX9_nextToken_196 rfl rfl ?_
                  refine g_X9_260 (pc := 197) (v := .int (nI i)) rfl dX9_nextToken_197 (c_140 _) (by show some (Value.int (σb.1 14040)) = _; rw [hGb.2.2.1]) ?_
                  refine R_isub (pc := 200) dX9_nextToken_200 ?_
                  have r106 : inR ((nI k) - (nI i)) (-160) 159 := inR_sub (show inR (nI k) 0 159 from (show inR (nI k) 0 159 from inR_nI (M := 159) (by omega) (by decide))) (show inR (nI i) 0 160 from (show inR (nI i) 0 160 from inR_nI (M := 160) (by omega) (by decide))) (by decide) (by decide)
                  have e107 := ti_sub (l := (-160)) (h := 159) (show inR (nI k) 0 159 from (show inR (nI k) 0 159 from inR_nI (M := 159) (by omega) (by decide))) (show inR (nI i) 0 160 from (show inR (nI i) 0 160 from inR_nI (M := 160) (by omega) (by decide))) (by decide) (by decide)
                  refine R_bipush (pc := 201) (v := 9) dX9_nextToken_201 (by decide) ?_
                  refine R_icle (pc := 203) 212 dX9_nextToken_203 (by decide) (fun b203_108 => ?_) (fun b203_108 => ?_)
                  · skip
                    refine R_aload_n (pc := 212) dX9_nextToken_212 rfl rfl ?_
                    refine g_X9_271 (pc := 213) (v := .long (tokL f i (k - i))) rfl dX9_nextToken_213 (c_140 _) (by show some (Value.long (σb.2.1 14041)) = _; rw [hGb.2.2.2]) ?_
                    refine p_X9_271 (pc := 216) rfl dX9_nextToken_216 (c_140 _) (Nat.le_of_ble_eq_true rfl) rfl rfl (s_140_41 _ _) ?_
                    have hW109 := cor_sj 14041 (tokL f i (k - i)) hCb rfl
                    refine R_goto (pc := 219) 394 dX9_nextToken_219 (by decide) ?_
                    exact R_vret (pc := 394) dX9_nextToken_394 rfl (Nat.zero_le _) (Nat.zero_le _) ⟨rfl, _, rfl, hIb, hW109, hGb.1, mt_of hsk ⟨hGb.2.1.trans (by rw [hke]), hGb.2.2.1, Nat.le_of_lt hlt, tv_let (k := k) hn hlt hL hke rfl⟩⟩
                  · skip
                    refine R_ldc2 (pc := 206) w_1245c dX9_nextToken_206 ?_
                    refine R_goto (pc := 209) 216 dX9_nextToken_209 (by decide) ?_
                    refine p_X9_271 (pc := 216) rfl dX9_nextToken_216 (c_140 _) (Nat.le_of_ble_eq_true rfl) rfl rfl (s_140_41 _ _) ?_
                    have hW110 := cor_sj 14041 (-4) hCb rfl
                    refine R_goto (pc := 219) 394 dX9_nextToken_219 (by decide) ?_
                    exact R_vret (pc := 394) dX9_nextToken_394 rfl (Nat.zero_le _) (Nat.zero_le _) ⟨rfl, _, rfl, hIb, hW110, hGb.1, mt_of hsk ⟨hGb.2.1.trans (by rw [hke]), hGb.2.2.1, Nat.le_of_lt hlt, tv_let (k := k) hn hlt hL hke (tokL_f (sub_gt (m := 9) rfl (by decide) hik (by omega) b203_108)).symm⟩⟩
                · skip
                  refine R_aload_n (pc := 112) dX9_nextToken_112 rfl rfl ?_
                  refine g_X9_108 (pc := 113) (v := .ref 170) rfl dX9_nextToken_113 (c_140 _) rfl ?_
                  refine R_aload_n (pc := 116) dX9_nextToken_116 rfl rfl ?_
                  refine g_X9_257 (pc := 117) (v := .int (nI k)) rfl dX9_nextToken_117 (c_140 _) (by show some (Value.int (σb.1 14039)) = _; rw [hGb.2.1]) ?_
                  have hx111 : vp_in (nI k) 160 := (vp_of_inR (show inR (nI k) 0 159 from inR_nI (M := 159) (by omega) (by decide)) (by decide))
                  refine R_iaload (pc := 120) dX9_nextToken_120 (c_170 _) hx111 ?_
                  refine R_bipush (pc := 121) (v := 97) dX9_nextToken_121 (by decide) ?_
                  refine R_bipush (pc := 123) (v := 122) dX9_nextToken_123 (by decide) ?_
                  refine k_X9_124 (pc := 125) (sp_X9_in _ _ _ _) rfl (by decide) (Nat.le_refl _) (Nat.le_refl _) (Nat.le_of_ble_eq_true rfl) dX9_nextToken_125 (fun x w2 h => ?_)
                  rcases h with ⟨rfl, ⟨h112, rfl⟩ | ⟨h112, rfl⟩⟩
                  · skip
                    refine R_ifeq (pc := 128) 191 dX9_nextToken_128 (by decide) (fun h => absurd h (by decide)) (fun _ => ?_)
                    refine R_aload_n (pc := 131) dX9_nextToken_131 rfl rfl ?_
                    refine R_aload_n (pc := 132) dX9_nextToken_132 rfl rfl ?_
                    refine g_X9_257 (pc := 133) (v := .int (nI k)) rfl dX9_nextToken_133 (c_140 _) (by show some (Value.int (σb.1 14039)) = _; rw [hGb.2.1]) ?_
                    refine R_aload_n (pc := 136) dX9_nextToken_136 rfl rfl ?_
                    refine g_X9_260 (pc := 137) (v := .int (nI i)) rfl dX9_nextToken_137 (c_140 _) (by show some (Value.int (σb.1 14040)) = _; rw [hGb.2.2.1]) ?_
                    refine R_isub (pc := 140) dX9_nextToken_140 ?_
                    have r114 : inR ((nI k) - (nI i)) (-160) 159 := inR_sub (show inR (nI k) 0 159 from (show inR (nI k) 0 159 from inR_nI (M := 159) (by omega) (by decide))) (show inR (nI i) 0 160 from (show inR (nI i) 0 160 from inR_nI (M := 160) (by omega) (by decide))) (by decide) (by decide)
                    have e115 := ti_sub (l := (-160)) (h := 159) (show inR (nI k) 0 159 from (show inR (nI k) 0 159 from inR_nI (M := 159) (by omega) (by decide))) (show inR (nI i) 0 160 from (show inR (nI i) 0 160 from inR_nI (M := 160) (by omega) (by decide))) (by decide) (by decide)
                    refine R_bipush (pc := 141) (v := 9) dX9_nextToken_141 (by decide) ?_
                    refine R_icge (pc := 143) 172 dX9_nextToken_143 (by decide) (fun b143_116 => ?_) (fun b143_116 => ?_)
                    · skip
                      refine R_ldc2 (pc := 172) w_1245c dX9_nextToken_172 ?_
                      refine p_X9_271 (pc := 175) rfl dX9_nextToken_175 (c_140 _) (Nat.le_of_ble_eq_true rfl) rfl rfl (s_140_41 _ _) ?_
                      have hW117 := cor_sj 14041 (-4) hCb rfl
                      refine R_aload_n (pc := 178) dX9_nextToken_178 rfl rfl ?_
                      refine R_dup (pc := 179) dX9_nextToken_179 rfl ?_
                      refine g_X9_257 (pc := 180) (v := .int (nI k)) rfl dX9_nextToken_180 (c_140 _) (by show some (Value.int (σb.1 14039)) = _; rw [hGb.2.1]) ?_
                      refine R_iconst (pc := 183) (v := 1) dX9_nextToken_183 (by decide) ?_
                      refine R_iadd (pc := 184) dX9_nextToken_184 ?_
                      have r118 : inR ((nI k) + 1) 1 160 := inR_add (show inR (nI k) 0 159 from (show inR (nI k) 0 159 from inR_nI (M := 159) (by omega) (by decide))) (show inR 1 1 1 from (inR_self _)) (by decide) (by decide)
                      have e119 := ti_add (l := 1) (h := 160) (show inR (nI k) 0 159 from (show inR (nI k) 0 159 from inR_nI (M := 159) (by omega) (by decide))) (show inR 1 1 1 from (inR_self _)) (by decide) (by decide)
                      refine p_X9_257 (pc := 185) rfl dX9_nextToken_185 (c_140 _) (Nat.le_of_ble_eq_true rfl) rfl rfl (s_140_39 _ _) ?_
                      have hW120 := cor_si 14039 ((nI k) + 1) hW117 rfl
                      refine R_goto (pc := 188) 101 dX9_nextToken_188 (by decide) ?_
                      have hPk : rowB (f i) (f k) = true := by rw [row_l hL]; have q := h112; rw [hGb.1.2.1, nI_clamp (by omega)] at q; exact inB_t q
                      exact ih101 (k + 1) _ (by omega) (nI_lts (by omega) (by omega) (Int32.not_le.mp b109_105)) (te_s2 hn hTb (nI_lts (by omega) (by omega) (Int32.not_le.mp b109_105)) hPk) ⟨hGb.1, nI_1 k, hGb.2.2.1, (show (-4 : Int64) = tokL f i (k + 1 - i) from tokL_b (sub_ge (m := 9) rfl (by decide) hik (by omega) b143_116))⟩ (by omega) hIb hW120
                    · skip
                      refine R_ldc2 (pc := 146) w_1243c dX9_nextToken_146 ?_
                      refine R_aload_n (pc := 149) dX9_nextToken_149 rfl rfl ?_
                      refine g_X9_271 (pc := 150) (v := .long (tokL f i (k - i))) rfl dX9_nextToken_150 (c_140 _) (by show some (Value.long (σb.2.1 14041)) = _; rw [hGb.2.2.2]) ?_
                      refine R_lmul (pc := 153) dX9_nextToken_153 ?_
                      refine R_aload_n (pc := 154) dX9_nextToken_154 rfl rfl ?_
                      refine g_X9_108 (pc := 155) (v := .ref 170) rfl dX9_nextToken_155 (c_140 _) rfl ?_
                      refine R_aload_n (pc := 158) dX9_nextToken_158 rfl rfl ?_
                      refine g_X9_257 (pc := 159) (v := .int (nI k)) rfl dX9_nextToken_159 (c_140 _) (by show some (Value.int (σb.1 14039)) = _; rw [hGb.2.1]) ?_
                      have hx121 : vp_in (nI k) 160 := (vp_of_inR (show inR (nI k) 0 159 from inR_nI (M := 159) (by omega) (by decide)) (by decide))
                      refine R_iaload (pc := 162) dX9_nextToken_162 (c_170 _) hx121 ?_
                      refine R_i2l (pc := 163) dX9_nextToken_163 ?_
                      refine R_ladd (pc := 164) dX9_nextToken_164 ?_
                      refine R_ldc2 (pc := 165) w_1244c dX9_nextToken_165 ?_
                      refine R_lsub (pc := 168) dX9_nextToken_168 ?_
                      refine R_goto (pc := 169) 175 dX9_nextToken_169 (by decide) ?_
                      refine p_X9_271 (pc := 175) rfl dX9_nextToken_175 (c_140 _) (Nat.le_of_ble_eq_true rfl) rfl rfl (s_140_41 _ _) ?_
                      have hW122 := cor_sj 14041 (((27 * (tokL f i (k - i))) + (Int32.toInt64 (σb.2.2.1 170 (Int32.toNatClampNeg (nI k))))) - 96) hCb rfl
                      refine R_aload_n (pc := 178) dX9_nextToken_178 rfl rfl ?_
                      refine R_dup (pc := 179) dX9_nextToken_179 rfl ?_
                      refine g_X9_257 (pc := 180) (v := .int (nI k)) rfl dX9_nextToken_180 (c_140 _) (by show some (Value.int (σb.1 14039)) = _; rw [hGb.2.1]) ?_
                      refine R_iconst (pc := 183) (v := 1) dX9_nextToken_183 (by decide) ?_
                      refine R_iadd (pc := 184) dX9_nextToken_184 ?_
                      have r123 : inR ((nI k) + 1) 1 160 := inR_add (show inR (nI k) 0 159 from (show inR (nI k) 0 159 from inR_nI (M := 159) (by omega) (by decide))) (show inR 1 1 1 from (inR_self _)) (by decide) (by decide)
                      have e124 := ti_add (l := 1) (h := 160) (show inR (nI k) 0 159 from (show inR (nI k) 0 159 from inR_nI (M := 159) (by omega) (by decide))) (show inR 1 1 1 from (inR_self _)) (by decide) (by decide)
                      refine p_X9_257 (pc := 185) rfl dX9_nextToken_185 (c_140 _) (Nat.le_of_ble_eq_true rfl) rfl rfl (s_140_39 _ _) ?_
                      have hW125 := cor_si 14039 ((nI k) + 1) hW122 rfl
                      refine R_goto (pc := 188) 101 dX9_nextToken_188 (by decide) ?_
                      have hPk : rowB (f i) (f k) = true := by rw [row_l hL]; have q := h112; rw [hGb.1.2.1, nI_clamp (by omega)] at q; exact inB_t q
                      exact ih101 (k + 1) _ (by omega) (nI_lts (by omega) (by omega) (Int32.not_le.mp b109_105)) (te_s2 hn hTb (nI_lts (by omega) (by omega) (Int32.not_le.mp b109_105)) hPk) ⟨hGb.1, nI_1 k, hGb.2.2.1, (show (((27 * (tokL f i (k - i))) + (Int32.toInt64 (σb.2.2.1 170 (Int32.toNatClampNeg (nI k))))) - 96) = tokL f i (k + 1 - i) from by rw [hGb.1.2.1, nI_clamp (by omega)]; exact tokL_a hik (sub_lt (m := 9) rfl (by decide) hik (by omega) b143_116))⟩ (by omega) hIb hW125
                  · skip
                    refine R_ifeq (pc := 128) 191 dX9_nextToken_128 (by decide) (fun _ => ?_) (fun h => absurd (by decide) h)
                    have hke : k = tkE f n i := (te_e (P := (fun k => rowB (f i) (f k))) hTb (Or.inr (by show rowB _ _ = false; rw [row_l hL]; have q := h112; rw [hGb.1.2.1, nI_clamp (by omega)] at q; exact inB_f q)))
                    refine R_aload_n (pc := 191) dX9_nextToken_191 rfl rfl ?_
                    refine R_aload_n (pc := 192) dX9_nextToken_192 rfl rfl ?_
                    refine g_X9_257 (pc := 193) (v := .int (nI k)) rfl dX9_nextToken_193 (c_140 _) (by show some (Value.int (σb.1 14039)) = _; rw [hGb.2.1]) ?_
                    refine R_aload_n (pc := 196) dX9_nextToken_196 rfl rfl ?_
                    refine g_X9_260 (pc := 197) (v := .int (nI i)) rfl dX9_nextToken_197 (c_140 _) (by show some (Value.int (σb.1 14040)) = _; rw [hGb.2.2.1]) ?_
                    refine R_isub (pc := 200) dX9_nextToken_200 ?_
                    have r127 : inR ((nI k) - (nI i)) (-160) 159 := inR_sub (show inR (nI k) 0 159 from (show inR (nI k) 0 159 from inR_nI (M := 159) (by omega) (by decide))) (show inR (nI i) 0 160 from (show inR (nI i) 0 160 from inR_nI (M := 160) (by omega) (by decide))) (by decide) (by decide)
                    have e128 := ti_sub (l := (-160)) (h := 159) (show inR (nI k) 0 159 from (show inR (nI k) 0 159 from inR_nI (M := 159) (by omega) (by decide))) (show inR (nI i) 0 160 from (show inR (nI i) 0 160 from inR_nI (M := 160) (by omega) (by decide))) (by decide) (by decide)
                    refine R_bipush (pc := 201) (v := 9) dX9_nextToken_201 (by decide) ?_
                    refine R_icle (pc := 203) 212 dX9_nextToken_203 (by decide) (fun b203_129 => ?_) (fun b203_129 => ?_)
                    · skip
                      refine R_aload_n (pc := 212) dX9_nextToken_212 rfl rfl ?_
                      refine g_X9_271 (pc := 213) (v := .long (tokL f i (k - i))) rfl dX9_nextToken_213 (c_140 _) (by show some (Value.long (σb.2.1 14041)) = _; rw [hGb.2.2.2]) ?_
                      refine p_X9_271 (pc := 216) rfl dX9_nextToken_216 (c_140 _) (Nat.le_of_ble_eq_true rfl) rfl rfl (s_140_41 _ _) ?_
                      have hW130 := cor_sj 14041 (tokL f i (k - i)) hCb rfl
                      refine R_goto (pc := 219) 394 dX9_nextToken_219 (by decide) ?_
                      exact R_vret (pc := 394) dX9_nextToken_394 rfl (Nat.zero_le _) (Nat.zero_le _) ⟨rfl, _, rfl, hIb, hW130, hGb.1, mt_of hsk ⟨hGb.2.1.trans (by rw [hke]), hGb.2.2.1, Nat.le_of_lt hlt, tv_let (k := k) hn hlt hL hke rfl⟩⟩
                    · skip
                      refine R_ldc2 (pc := 206) w_1245c dX9_nextToken_206 ?_
                      refine R_goto (pc := 209) 216 dX9_nextToken_209 (by decide) ?_
                      refine p_X9_271 (pc := 216) rfl dX9_nextToken_216 (c_140 _) (Nat.le_of_ble_eq_true rfl) rfl rfl (s_140_41 _ _) ?_
                      have hW131 := cor_sj 14041 (-4) hCb rfl
                      refine R_goto (pc := 219) 394 dX9_nextToken_219 (by decide) ?_
                      exact R_vret (pc := 394) dX9_nextToken_394 rfl (Nat.zero_le _) (Nat.zero_le _) ⟨rfl, _, rfl, hIb, hW131, hGb.1, mt_of hsk ⟨hGb.2.1.trans (by rw [hke]), hGb.2.2.1, Nat.le_of_lt hlt, tv_let (k := k) hn hlt hL hke (tokL_f (sub_gt (m := 9) rfl (by decide) hik (by omega) b203_129)).symm⟩⟩
            exact HL101 (160 - i) i _ (by omega) (by omega) (te_st hn hlt hPs) ⟨hGa.1, hGa.2, rfl, (tokL_0 f i).symm⟩ (Nat.le_refl _) hIa hW98
          · skip
            refine R_ifeq (pc := 93) 222 dX9_nextToken_93 (by decide) (fun _ => ?_) (fun h => absurd (by decide) h)
            refine R_aload_n (pc := 222) dX9_nextToken_222 rfl rfl ?_
            refine g_X9_108 (pc := 223) (v := .ref 170) rfl dX9_nextToken_223 (c_140 _) rfl ?_
            refine R_aload_n (pc := 226) dX9_nextToken_226 rfl rfl ?_
            refine g_X9_257 (pc := 227) (v := .int (nI i)) rfl dX9_nextToken_227 (c_140 _) (by show some (Value.int (σa.1 14039)) = _; rw [hGa.2]) ?_
            have hx133 : vp_in (nI i) 160 := (vp_of_inR (show inR (nI i) 0 159 from inR_nI (M := 159) (by omega) (by decide)) (by decide))
            refine W_iaload (pc := 230) (σa.2.2.1 170 (Int32.toNatClampNeg (nI i))) dX9_nextToken_230 (c_170 _) hx133 rfl ?_
            refine R_bipush (pc := 231) (v := 48) dX9_nextToken_231 (by decide) ?_
            refine R_bipush (pc := 233) (v := 57) dX9_nextToken_233 (by decide) ?_
            refine k_X9_124 (pc := 235) (sp_X9_in _ _ _ _) rfl (by decide) (Nat.le_refl _) (Nat.le_refl _) (Nat.le_of_ble_eq_true rfl) dX9_nextToken_235 (fun x w2 h => ?_)
            rcases h with ⟨rfl, ⟨h134, rfl⟩ | ⟨h134, rfl⟩⟩
            · skip
              refine R_ifeq (pc := 238) 357 dX9_nextToken_238 (by decide) (fun h => absurd h (by decide)) (fun _ => ?_)
              have hD : isD f i = true := by have q := h134; rw [hGa.1.2.1, nI_clamp (by omega)] at q; exact inB_t q
              have hPs : rowB (f i) (f i) = true := by rw [row_d hD]; exact hD
              have HL241 : ∀ (q k : Nat) (σc : Sg), k + q = 160 → k ≤ n → teF (fun k => rowB (f i) (f k)) n (160 - k) k = tkE f n i → qDg f r n c σc i k → i ≤ k → Inv σc → Cor σ σc → R G l yX9_nextToken cX9_nextToken 1 none 1 0 0 (QV (fun w2 => ∃ σ2, w2 = WW σ2 ∧ Inv σ2 ∧ Cor σ σ2 ∧ mQs f r n c σ2 ∧ MT f n (sk f n p) σ2)) 241 [(some (.ref 140))] [] (WW σc) 0 0 := by
                intro q
                induction q with
                | zero =>
                  intro k σc hjc hnc hTc hGc hik hIc hCc
                  refine R_aload_n (pc := 241) dX9_nextToken_241 rfl rfl ?_
                  refine g_X9_257 (pc := 242) (v := .int (nI k)) rfl dX9_nextToken_242 (c_140 _) (by show some (Value.int (σc.1 14039)) = _; rw [hGc.2.1]) ?_
                  refine R_aload_n (pc := 245) dX9_nextToken_245 rfl rfl ?_
                  refine g_X9_254 (pc := 246) (v := .int (nI n)) rfl dX9_nextToken_246 (c_140 _) (by show some (Value.int (σc.1 14037)) = _; rw [hGc.1.1]) ?_
                  refine R_icge (pc := 249) 333 dX9_nextToken_249 (by decide) (fun _ => ?_) (fun h => False.elim (by have q1 := ti_nle h; have q2 := ti_in (show inR (nI k) 160 160 from (show inR (nI k) 160 160 from by rw [show k = 160 by omega]; exact inR_self _)); have q3 := ti_in (show inR (nI n) 0 160 from (show inR (nI n) 0 160 from inR_nI (M := 160) (by omega) (by decide))); have z0 : (0 : Int32).toInt = 0 := (by decide);  have z1 : (160 : Int32).toInt = 160 := (by decide); omega))
                  have hke : k = tkE f n i := (te_e (P := (fun k => rowB (f i) (f k))) hTc (Or.inl (by omega)))
                  refine R_aload_n (pc := 333) dX9_nextToken_333 rfl rfl ?_
                  refine R_aload_n (pc := 334) dX9_nextToken_334 rfl rfl ?_
                  refine g_X9_263 (pc := 335) (v := .int (nI (k - i))) rfl dX9_nextToken_335 (c_140 _) (by show some (Value.int (σc.1 14042)) = _; rw [hGc.2.2.2.1]) ?_
                  refine R_iconst (pc := 338) (v := 5) dX9_nextToken_338 (by decide) ?_
                  refine R_icle (pc := 339) 348 dX9_nextToken_339 (by decide) (fun b339_137 => ?_) (fun b339_137 => ?_)
                  · skip
                    refine R_ldc2 (pc := 348) w_1212c dX9_nextToken_348 ?_
                    refine p_X9_271 (pc := 351) rfl dX9_nextToken_351 (c_140 _) (Nat.le_of_ble_eq_true rfl) rfl rfl (s_140_41 _ _) ?_
                    have hW138 := cor_sj 14041 (-1) hCc rfl
                    refine R_goto (pc := 354) 394 dX9_nextToken_354 (by decide) ?_
                    exact R_vret (pc := 394) dX9_nextToken_394 rfl (Nat.zero_le _) (Nat.zero_le _) ⟨rfl, _, rfl, hIc, hW138, hGc.1, mt_of hsk ⟨hGc.2.1.trans (by rw [hke]), hGc.2.2.1, Nat.le_of_lt hlt, tv_dig (k := k) hn hlt hD hke (Or.inr ⟨rfl, le_nI (m := 5) rfl (by decide) (by omega) b339_137⟩) hGc.2.2.2.2⟩⟩
                  · skip
                    refine R_ldc2 (pc := 342) w_1245c dX9_nextToken_342 ?_
                    refine R_goto (pc := 345) 351 dX9_nextToken_345 (by decide) ?_
                    refine p_X9_271 (pc := 351) rfl dX9_nextToken_351 (c_140 _) (Nat.le_of_ble_eq_true rfl) rfl rfl (s_140_41 _ _) ?_
                    have hW139 := cor_sj 14041 (-4) hCc rfl
                    refine R_goto (pc := 354) 394 dX9_nextToken_354 (by decide) ?_
                    exact R_vret (pc := 394) dX9_nextToken_394 rfl (Nat.zero_le _) (Nat.zero_le _) ⟨rfl, _, rfl, hIc, hW139, hGc.1, mt_of hsk ⟨hGc.2.1.trans (by rw [hke]), hGc.2.2.1, Nat.le_of_lt hlt, tv_dig (k := k) hn hlt hD hke (Or.inl ⟨rfl, gt_nI (m := 5) rfl (by decide) (by omega) b339_137⟩) hGc.2.2.2.2⟩⟩
                | succ q ih241 =>
                  intro k σc hjc hnc hTc hGc hik hIc hCc
                  refine R_aload_n (pc := 241) dX9_nextToken_241 rfl rfl ?_
                  refine g_X9_257 (pc := 242) (v := .int (nI k)) rfl dX9_nextToken_242 (c_140 _) (by show some (Value.int (σc.1 14039)) = _; rw [hGc.2.1]) ?_
                  refine R_aload_n (pc := 245) dX9_nextToken_245 rfl rfl ?_
                  refine g_X9_254 (pc := 246) (v := .int (nI n)) rfl dX9_nextToken_246 (c_140 _) (by show some (Value.int (σc.1 14037)) = _; rw [hGc.1.1]) ?_
                  refine R_icge (pc := 249) 333 dX9_nextToken_249 (by decide) (fun b249_140 => ?_) (fun b249_140 => ?_)
                  · skip
                    have hke : k = tkE f n i := (te_e (P := (fun k => rowB (f i) (f k))) hTc (Or.inl (nI_les (by omega) (by omega) b249_140)))
                    refine R_aload_n (pc := 333) dX9_nextToken_333 rfl rfl ?_
                    refine R_aload_n (pc := 334) dX9_nextToken_334 rfl rfl ?_
                    refine g_X9_263 (pc := 335) (v := .int (nI (k - i))) rfl dX9_nextToken_335 (c_140 _) (by show some (Value.int (σc.1 14042)) = _; rw [hGc.2.2.2.1]) ?_
                    refine R_iconst (pc := 338) (v := 5) dX9_nextToken_338 (by decide) ?_
                    refine R_icle (pc := 339) 348 dX9_nextToken_339 (by decide) (fun b339_141 => ?_) (fun b339_141 => ?_)
                    · skip
                      refine R_ldc2 (pc := 348) w_1212c dX9_nextToken_348 ?_
                      refine p_X9_271 (pc := 351) rfl dX9_nextToken_351 (c_140 _) (Nat.le_of_ble_eq_true rfl) rfl rfl (s_140_41 _ _) ?_
                      have hW142 := cor_sj 14041 (-1) hCc rfl
                      refine R_goto (pc := 354) 394 dX9_nextToken_354 (by decide) ?_
                      exact R_vret (pc := 394) dX9_nextToken_394 rfl (Nat.zero_le _) (Nat.zero_le _) ⟨rfl, _, rfl, hIc, hW142, hGc.1, mt_of hsk ⟨hGc.2.1.trans (by rw [hke]), hGc.2.2.1, Nat.le_of_lt hlt, tv_dig (k := k) hn hlt hD hke (Or.inr ⟨rfl, le_nI (m := 5) rfl (by decide) (by omega) b339_141⟩) hGc.2.2.2.2⟩⟩
                    · skip
                      refine R_ldc2 (pc := 342) w_1245c dX9_nextToken_342 ?_
                      refine R_goto (pc := 345) 351 dX9_nextToken_345 (by decide) ?_
                      refine p_X9_271 (pc := 351) rfl dX9_nextToken_351 (c_140 _) (Nat.le_of_ble_eq_true rfl) rfl rfl (s_140_41 _ _) ?_
                      have hW143 := cor_sj 14041 (-4) hCc rfl
                      refine R_goto (pc := 354) 394 dX9_nextToken_354 (by decide) ?_
                      exact R_vret (pc := 394) dX9_nextToken_394 rfl (Nat.zero_le _) (Nat.zero_le _) ⟨rfl, _, rfl, hIc, hW143, hGc.1, mt_of hsk ⟨hGc.2.1.trans (by rw [hke]), hGc.2.2.1, Nat.le_of_lt hlt, tv_dig (k := k) hn hlt hD hke (Or.inl ⟨rfl, gt_nI (m := 5) rfl (by decide) (by omega) b339_141⟩) hGc.2.2.2.2⟩⟩
                  · skip
                    refine R_aload_n (pc := 252) dX9_nextToken_252 rfl rfl ?_
                    refine g_X9_108 (pc := 253) (v := .ref 170) rfl dX9_nextToken_253 (c_140 _) rfl ?_
                    refine R_aload_n (pc := 256) dX9_nextToken_256 rfl rfl ?_
                    refine g_X9_257 (pc := 257) (v := .int (nI k)) rfl dX9_nextToken_257 (c_140 _) (by show some (Value.int (σc.1 14039)) = _; rw [hGc.2.1]) ?_
                    have hx144 : vp_in (nI k) 160 := (vp_of_inR (show inR (nI k) 0 159 from inR_nI (M := 159) (by omega) (by decide)) (by decide))
                    refine R_iaload (pc := 260) dX9_nextToken_260 (c_170 _) hx144 ?_
                    refine R_bipush (pc := 261) (v := 48) dX9_nextToken_261 (by decide) ?_
                    refine R_bipush (pc := 263) (v := 57) dX9_nextToken_263 (by decide) ?_
                    refine k_X9_124 (pc := 265) (sp_X9_in _ _ _ _) rfl (by decide) (Nat.le_refl _) (Nat.le_refl _) (Nat.le_of_ble_eq_true rfl) dX9_nextToken_265 (fun x w2 h => ?_)
                    rcases h with ⟨rfl, ⟨h145, rfl⟩ | ⟨h145, rfl⟩⟩
                    · skip
                      refine R_ifeq (pc := 268) 333 dX9_nextToken_268 (by decide) (fun h => absurd h (by decide)) (fun _ => ?_)
                      refine R_aload_n (pc := 271) dX9_nextToken_271 rfl rfl ?_
                      refine R_aload_n (pc := 272) dX9_nextToken_272 rfl rfl ?_
                      refine g_X9_263 (pc := 273) (v := .int (nI (k - i))) rfl dX9_nextToken_273 (c_140 _) (by show some (Value.int (σc.1 14042)) = _; rw [hGc.2.2.2.1]) ?_
                      refine R_iconst (pc := 276) (v := 5) dX9_nextToken_276 (by decide) ?_
                      refine R_icge (pc := 277) 303 dX9_nextToken_277 (by decide) (fun b277_147 => ?_) (fun b277_147 => ?_)
                      · skip
                        refine R_aload_n (pc := 303) dX9_nextToken_303 rfl rfl ?_
                        refine g_X9_266 (pc := 304) (v := .int (nuF f (min (k - i) 5) i 0)) rfl dX9_nextToken_304 (c_140 _) (by show some (Value.int (σc.1 14043)) = _; rw [hGc.2.2.2.2]) ?_
                        refine p_X9_266 (pc := 307) rfl dX9_nextToken_307 (c_140 _) (Nat.le_of_ble_eq_true rfl) rfl rfl (s_140_43 _ _) ?_
                        have hW148 := cor_si 14043 (nuF f (min (k - i) 5) i 0) hCc rfl
                        refine R_aload_n (pc := 310) dX9_nextToken_310 rfl rfl ?_
                        refine R_dup (pc := 311) dX9_nextToken_311 rfl ?_
                        refine g_X9_263 (pc := 312) (v := .int (nI (k - i))) rfl dX9_nextToken_312 (c_140 _) (by show some (Value.int (σc.1 14042)) = _; rw [hGc.2.2.2.1]) ?_
                        refine R_iconst (pc := 315) (v := 1) dX9_nextToken_315 (by decide) ?_
                        refine R_iadd (pc := 316) dX9_nextToken_316 ?_
                        have r149 : inR ((nI (k - i)) + 1) 1 161 := inR_add (show inR (nI (k - i)) 0 160 from (show inR (nI (k - i)) 0 160 from inR_nI (M := 160) (by omega) (by decide))) (show inR 1 1 1 from (inR_self _)) (by decide) (by decide)
                        have e150 := ti_add (l := 1) (h := 161) (show inR (nI (k - i)) 0 160 from (show inR (nI (k - i)) 0 160 from inR_nI (M := 160) (by omega) (by decide))) (show inR 1 1 1 from (inR_self _)) (by decide) (by decide)
                        refine p_X9_263 (pc := 317) rfl dX9_nextToken_317 (c_140 _) (Nat.le_of_ble_eq_true rfl) rfl rfl (s_140_42 _ _) ?_
                        have hW151 := cor_si 14042 ((nI (k - i)) + 1) hW148 rfl
                        refine R_aload_n (pc := 320) dX9_nextToken_320 rfl rfl ?_
                        refine R_dup (pc := 321) dX9_nextToken_321 rfl ?_
                        refine g_X9_257 (pc := 322) (v := .int (nI k)) rfl dX9_nextToken_322 (c_140 _) (by show some (Value.int (σc.1 14039)) = _; rw [hGc.2.1]) ?_
                        refine R_iconst (pc := 325) (v := 1) dX9_nextToken_325 (by decide) ?_
                        refine R_iadd (pc := 326) dX9_nextToken_326 ?_
                        have r152 : inR ((nI k) + 1) 1 160 := inR_add (show inR (nI k) 0 159 from (show inR (nI k) 0 159 from inR_nI (M := 159) (by omega) (by decide))) (show inR 1 1 1 from (inR_self _)) (by decide) (by decide)
                        have e153 := ti_add (l := 1) (h := 160) (show inR (nI k) 0 159 from (show inR (nI k) 0 159 from inR_nI (M := 159) (by omega) (by decide))) (show inR 1 1 1 from (inR_self _)) (by decide) (by decide)
                        refine p_X9_257 (pc := 327) rfl dX9_nextToken_327 (c_140 _) (Nat.le_of_ble_eq_true rfl) rfl rfl (s_140_39 _ _) ?_
                        have hW154 := cor_si 14039 ((nI k) + 1) hW151 rfl
                        refine R_goto (pc := 330) 241 dX9_nextToken_330 (by decide) ?_
                        have hPk : rowB (f i) (f k) = true := by rw [row_d hD]; have q := h145; rw [hGc.1.2.1, nI_clamp (by omega)] at q; exact inB_t q
                        exact ih241 (k + 1) _ (by omega) (nI_lts (by omega) (by omega) (Int32.not_le.mp b249_140)) (te_s2 hn hTc (nI_lts (by omega) (by omega) (Int32.not_le.mp b249_140)) hPk) ⟨hGc.1, nI_1 k, hGc.2.2.1, dig_s hik, (show (nuF f (min (k - i) 5) i 0) = nuF f (min (k + 1 - i) 5) i 0 from nuT_b (ge_nI (m := 5) rfl (by decide) (by omega) b277_147))⟩ (by omega) hIc hW154
                      · skip
                        refine R_bipush (pc := 280) (v := 10) dX9_nextToken_280 (by decide) ?_
                        refine R_aload_n (pc := 282) dX9_nextToken_282 rfl rfl ?_
                        refine g_X9_266 (pc := 283) (v := .int (nuF f (min (k - i) 5) i 0)) rfl dX9_nextToken_283 (c_140 _) (by show some (Value.int (σc.1 14043)) = _; rw [hGc.2.2.2.2]) ?_
                        refine R_imul (pc := 286) dX9_nextToken_286 ?_
                        refine R_aload_n (pc := 287) dX9_nextToken_287 rfl rfl ?_
                        refine g_X9_108 (pc := 288) (v := .ref 170) rfl dX9_nextToken_288 (c_140 _) rfl ?_
                        refine R_aload_n (pc := 291) dX9_nextToken_291 rfl rfl ?_
                        refine g_X9_257 (pc := 292) (v := .int (nI k)) rfl dX9_nextToken_292 (c_140 _) (by show some (Value.int (σc.1 14039)) = _; rw [hGc.2.1]) ?_
                        have hx155 : vp_in (nI k) 160 := (vp_of_inR (show inR (nI k) 0 159 from inR_nI (M := 159) (by omega) (by decide)) (by decide))
                        refine R_iaload (pc := 295) dX9_nextToken_295 (c_170 _) hx155 ?_
                        refine R_iadd (pc := 296) dX9_nextToken_296 ?_
                        refine R_bipush (pc := 297) (v := 48) dX9_nextToken_297 (by decide) ?_
                        refine R_isub (pc := 299) dX9_nextToken_299 ?_
                        refine R_goto (pc := 300) 307 dX9_nextToken_300 (by decide) ?_
                        refine p_X9_266 (pc := 307) rfl dX9_nextToken_307 (c_140 _) (Nat.le_of_ble_eq_true rfl) rfl rfl (s_140_43 _ _) ?_
                        have hW156 := cor_si 14043 (((10 * (nuF f (min (k - i) 5) i 0)) + (σc.2.2.1 170 (Int32.toNatClampNeg (nI k)))) - 48) hCc rfl
                        refine R_aload_n (pc := 310) dX9_nextToken_310 rfl rfl ?_
                        refine R_dup (pc := 311) dX9_nextToken_311 rfl ?_
                        refine g_X9_263 (pc := 312) (v := .int (nI (k - i))) rfl dX9_nextToken_312 (c_140 _) (by show some (Value.int (σc.1 14042)) = _; rw [hGc.2.2.2.1]) ?_
                        refine R_iconst (pc := 315) (v := 1) dX9_nextToken_315 (by decide) ?_
                        refine R_iadd (pc := 316) dX9_nextToken_316 ?_
                        have r157 : inR ((nI (k - i)) + 1) 1 161 := inR_add (show inR (nI (k - i)) 0 160 from (show inR (nI (k - i)) 0 160 from inR_nI (M := 160) (by omega) (by decide))) (show inR 1 1 1 from (inR_self _)) (by decide) (by decide)
                        have e158 := ti_add (l := 1) (h := 161) (show inR (nI (k - i)) 0 160 from (show inR (nI (k - i)) 0 160 from inR_nI (M := 160) (by omega) (by decide))) (show inR 1 1 1 from (inR_self _)) (by decide) (by decide)
                        refine p_X9_263 (pc := 317) rfl dX9_nextToken_317 (c_140 _) (Nat.le_of_ble_eq_true rfl) rfl rfl (s_140_42 _ _) ?_
                        have hW159 := cor_si 14042 ((nI (k - i)) + 1) hW156 rfl
                        refine R_aload_n (pc := 320) dX9_nextToken_320 rfl rfl ?_
                        refine R_dup (pc := 321) dX9_nextToken_321 rfl ?_
                        refine g_X9_257 (pc := 322) (v := .int (nI k)) rfl dX9_nextToken_322 (c_140 _) (by show some (Value.int (σc.1 14039)) = _; rw [hGc.2.1]) ?_
                        refine R_iconst (pc := 325) (v := 1) dX9_nextToken_325 (by decide) ?_
                        refine R_iadd (pc := 326) dX9_nextToken_326 ?_
                        have r160 : inR ((nI k) + 1) 1 160 := inR_add (show inR (nI k) 0 159 from (show inR (nI k) 0 159 from inR_nI (M := 159) (by omega) (by decide))) (show inR 1 1 1 from (inR_self _)) (by decide) (by decide)
                        have e161 := ti_add (l := 1) (h := 160) (show inR (nI k) 0 159 from (show inR (nI k) 0 159 from inR_nI (M := 159) (by omega) (by decide))) (show inR 1 1 1 from (inR_self _)) (by decide) (by decide)
                        refine p_X9_257 (pc := 327) rfl dX9_nextToken_327 (c_140 _) (Nat.le_of_ble_eq_true rfl) rfl rfl (s_140_39 _ _) ?_
                        have hW162 := cor_si 14039 ((nI k) + 1) hW159 rfl
                        refine R_goto (pc := 330) 241 dX9_nextToken_330 (by decide) ?_
                        have hPk : rowB (f i) (f k) = true := by rw [row_d hD]; have q := h145; rw [hGc.1.2.1, nI_clamp (by omega)] at q; exact inB_t q
                        exact ih241 (k + 1) _ (by omega) (nI_lts (by omega) (by omega) (Int32.not_le.mp b249_140)) (te_s2 hn hTc (nI_lts (by omega) (by omega) (Int32.not_le.mp b249_140)) hPk) ⟨hGc.1, nI_1 k, hGc.2.2.1, dig_s hik, (show (((10 * (nuF f (min (k - i) 5) i 0)) + (σc.2.2.1 170 (Int32.toNatClampNeg (nI k)))) - 48) = nuF f (min (k + 1 - i) 5) i 0 from by rw [hGc.1.2.1, nI_clamp (by omega)]; exact nuT_a hik (lt_nI (m := 5) rfl (by decide) (by omega) b277_147))⟩ (by omega) hIc hW162
                    · skip
                      refine R_ifeq (pc := 268) 333 dX9_nextToken_268 (by decide) (fun _ => ?_) (fun h => absurd (by decide) h)
                      have hke : k = tkE f n i := (te_e (P := (fun k => rowB (f i) (f k))) hTc (Or.inr (by show rowB _ _ = false; rw [row_d hD]; have q := h145; rw [hGc.1.2.1, nI_clamp (by omega)] at q; exact inB_f q)))
                      refine R_aload_n (pc := 333) dX9_nextToken_333 rfl rfl ?_
                      refine R_aload_n (pc := 334) dX9_nextToken_334 rfl rfl ?_
                      refine g_X9_263 (pc := 335) (v := .int (nI (k - i))) rfl dX9_nextToken_335 (c_140 _) (by show some (Value.int (σc.1 14042)) = _; rw [hGc.2.2.2.1]) ?_
                      refine R_iconst (pc := 338) (v := 5) dX9_nextToken_338 (by decide) ?_
                      refine R_icle (pc := 339) 348 dX9_nextToken_339 (by decide) (fun b339_164 => ?_) (fun b339_164 => ?_)
                      · skip
                        refine R_ldc2 (pc := 348) w_1212c dX9_nextToken_348 ?_
                        refine p_X9_271 (pc := 351) rfl dX9_nextToken_351 (c_140 _) (Nat.le_of_ble_eq_true rfl) rfl rfl (s_140_41 _ _) ?_
                        have hW165 := cor_sj 14041 (-1) hCc rfl
                        refine R_goto (pc := 354) 394 dX9_nextToken_354 (by decide) ?_
                        exact R_vret (pc := 394) dX9_nextToken_394 rfl (Nat.zero_le _) (Nat.zero_le _) ⟨rfl, _, rfl, hIc, hW165, hGc.1, mt_of hsk ⟨hGc.2.1.trans (by rw [hke]), hGc.2.2.1, Nat.le_of_lt hlt, tv_dig (k := k) hn hlt hD hke (Or.inr ⟨rfl, le_nI (m := 5) rfl (by decide) (by omega) b339_164⟩) hGc.2.2.2.2⟩⟩
                      · skip
                        refine R_ldc2 (pc := 342) w_1245c dX9_nextToken_342 ?_
                        refine R_goto (pc := 345) 351 dX9_nextToken_345 (by decide) ?_
                        refine p_X9_271 (pc := 351) rfl dX9_nextToken_351 (c_140 _) (Nat.le_of_ble_eq_true rfl) rfl rfl (s_140_41 _ _) ?_
                        have hW166 := cor_sj 14041 (-4) hCc rfl
                        refine R_goto (pc := 354) 394 dX9_nextToken_354 (by decide) ?_
                        exact R_vret (pc := 394) dX9_nextToken_394 rfl (Nat.zero_le _) (Nat.zero_le _) ⟨rfl, _, rfl, hIc, hW166, hGc.1, mt_of hsk ⟨hGc.2.1.trans (by rw [hke]), hGc.2.2.1, Nat.le_of_lt hlt, tv_dig (k := k) hn hlt hD hke (Or.inl ⟨rfl, gt_nI (m := 5) rfl (by decide) (by omega) b339_164⟩) hGc.2.2.2.2⟩⟩
              exact HL241 (160 - i) i _ (by omega) (by omega) (te_st hn hlt hPs) ⟨hGa.1, hGa.2, rfl, (show (0 : Int32) = nI (i - i) by rw [Nat.sub_self]; rfl), nuT_0 f i⟩ (Nat.le_refl _) hIa hW93
            · skip
              refine R_ifeq (pc := 238) 357 dX9_nextToken_238 (by decide) (fun _ => ?_) (fun h => absurd (by decide) h)
              refine R_aload_n (pc := 357) dX9_nextToken_357 rfl rfl ?_
              refine R_aload_n (pc := 358) dX9_nextToken_358 rfl rfl ?_
              refine g_X9_108 (pc := 359) (v := .ref 170) rfl dX9_nextToken_359 (c_140 _) rfl ?_
              refine R_aload_n (pc := 362) dX9_nextToken_362 rfl rfl ?_
              refine g_X9_257 (pc := 363) (v := .int (nI i)) rfl dX9_nextToken_363 (c_140 _) (by show some (Value.int (σa.1 14039)) = _; rw [hGa.2]) ?_
              have hx168 : vp_in (nI i) 160 := (vp_of_inR (show inR (nI i) 0 159 from inR_nI (M := 159) (by omega) (by decide)) (by decide))
              refine W_iaload (pc := 366) (σa.2.2.1 170 (Int32.toNatClampNeg (nI i))) dX9_nextToken_366 (c_170 _) hx168 rfl ?_
              refine R_bipush (pc := 367) (v := 59) dX9_nextToken_367 (by decide) ?_
              refine R_icne (pc := 369) 378 dX9_nextToken_369 (by decide) (fun b369_169 => ?_) (fun b369_169 => ?_)
              · skip
                refine R_ldc2 (pc := 378) w_1245c dX9_nextToken_378 ?_
                refine p_X9_271 (pc := 381) rfl dX9_nextToken_381 (c_140 _) (Nat.le_of_ble_eq_true rfl) rfl rfl (s_140_41 _ _) ?_
                have hW170 := cor_sj 14041 (-4) hW93 rfl
                refine R_aload_n (pc := 384) dX9_nextToken_384 rfl rfl ?_
                refine R_dup (pc := 385) dX9_nextToken_385 rfl ?_
                refine g_X9_257 (pc := 386) (v := .int (nI i)) rfl dX9_nextToken_386 (c_140 _) (by show some (Value.int (σa.1 14039)) = _; rw [hGa.2]) ?_
                refine R_iconst (pc := 389) (v := 1) dX9_nextToken_389 (by decide) ?_
                refine R_iadd (pc := 390) dX9_nextToken_390 ?_
                have r171 : inR ((nI i) + 1) 1 160 := inR_add (show inR (nI i) 0 159 from (show inR (nI i) 0 159 from inR_nI (M := 159) (by omega) (by decide))) (show inR 1 1 1 from (inR_self _)) (by decide) (by decide)
                have e172 := ti_add (l := 1) (h := 160) (show inR (nI i) 0 159 from (show inR (nI i) 0 159 from inR_nI (M := 159) (by omega) (by decide))) (show inR 1 1 1 from (inR_self _)) (by decide) (by decide)
                refine p_X9_257 (pc := 391) rfl dX9_nextToken_391 (c_140 _) (Nat.le_of_ble_eq_true rfl) rfl rfl (s_140_39 _ _) ?_
                have hW173 := cor_si 14039 ((nI i) + 1) hW170 rfl
                exact R_vret (pc := 394) dX9_nextToken_394 rfl (Nat.zero_le _) (Nat.zero_le _) ⟨rfl, _, rfl, hIa, hW173, hGa.1, mt_of hsk (by have hLf : isL f i = false := (by have q := h96; rw [hGa.1.2.1, nI_clamp (by omega)] at q; exact inB_f q); have hDf : isD f i = false := (by have q := h134; rw [hGa.1.2.1, nI_clamp (by omega)] at q; exact inB_f q); exact ⟨(show nI i + 1 = nI (tkE f n i) from by rw [tk_o hlt hLf hDf, nI_1]), rfl, Nat.le_of_lt hlt, tv_oth hlt hLf hDf (Or.inr ⟨(by have q := b369_169; rw [hGa.1.2.1, nI_clamp (by omega)] at q; exact q), rfl⟩)⟩)⟩
              · skip
                refine R_ldc2 (pc := 372) w_1246c dX9_nextToken_372 ?_
                refine R_goto (pc := 375) 381 dX9_nextToken_375 (by decide) ?_
                refine p_X9_271 (pc := 381) rfl dX9_nextToken_381 (c_140 _) (Nat.le_of_ble_eq_true rfl) rfl rfl (s_140_41 _ _) ?_
                have hW174 := cor_sj 14041 (-3) hW93 rfl
                refine R_aload_n (pc := 384) dX9_nextToken_384 rfl rfl ?_
                refine R_dup (pc := 385) dX9_nextToken_385 rfl ?_
                refine g_X9_257 (pc := 386) (v := .int (nI i)) rfl dX9_nextToken_386 (c_140 _) (by show some (Value.int (σa.1 14039)) = _; rw [hGa.2]) ?_
                refine R_iconst (pc := 389) (v := 1) dX9_nextToken_389 (by decide) ?_
                refine R_iadd (pc := 390) dX9_nextToken_390 ?_
                have r175 : inR ((nI i) + 1) 1 160 := inR_add (show inR (nI i) 0 159 from (show inR (nI i) 0 159 from inR_nI (M := 159) (by omega) (by decide))) (show inR 1 1 1 from (inR_self _)) (by decide) (by decide)
                have e176 := ti_add (l := 1) (h := 160) (show inR (nI i) 0 159 from (show inR (nI i) 0 159 from inR_nI (M := 159) (by omega) (by decide))) (show inR 1 1 1 from (inR_self _)) (by decide) (by decide)
                refine p_X9_257 (pc := 391) rfl dX9_nextToken_391 (c_140 _) (Nat.le_of_ble_eq_true rfl) rfl rfl (s_140_39 _ _) ?_
                have hW177 := cor_si 14039 ((nI i) + 1) hW174 rfl
                exact R_vret (pc := 394) dX9_nextToken_394 rfl (Nat.zero_le _) (Nat.zero_le _) ⟨rfl, _, rfl, hIa, hW177, hGa.1, mt_of hsk (by have hLf : isL f i = false := (by have q := h96; rw [hGa.1.2.1, nI_clamp (by omega)] at q; exact inB_f q); have hDf : isD f i = false := (by have q := h134; rw [hGa.1.2.1, nI_clamp (by omega)] at q; exact inB_f q); exact ⟨(show nI i + 1 = nI (tkE f n i) from by rw [tk_o hlt hLf hDf, nI_1]), rfl, Nat.le_of_lt hlt, tv_oth hlt hLf hDf (Or.inl ⟨(by have q := b369_169; rw [hGa.1.2.1, nI_clamp (by omega)] at q; exact q), rfl⟩)⟩)⟩
        · skip
          refine R_aload_n (pc := 67) dX9_nextToken_67 rfl rfl ?_
          refine R_ldc2 (pc := 68) w_1242c dX9_nextToken_68 ?_
          refine p_X9_271 (pc := 71) rfl dX9_nextToken_71 (c_140 _) (Nat.le_of_ble_eq_true rfl) rfl rfl (s_140_41 _ _) ?_
          have hW178 := cor_sj 14041 (-2) hW93 rfl
          refine R_goto (pc := 74) 394 dX9_nextToken_74 (by decide) ?_
          exact R_vret (pc := 394) dX9_nextToken_394 rfl (Nat.zero_le _) (Nat.zero_le _) ⟨rfl, _, rfl, hIa, hW178, hGa.1, mt_of hsk (mt_end (σ := (uJ (uI (uI (uI σa 14040 (nI i)) 14042 0) 14043 0) 14041 (-2))) (nI_eqn (by omega) (by omega) b64_94) hGa.2 rfl rfl)⟩
      · skip
        refine R_aload_n (pc := 11) dX9_nextToken_11 rfl rfl ?_
        refine g_X9_108 (pc := 12) (v := .ref 170) rfl dX9_nextToken_12 (c_140 _) rfl ?_
        refine R_aload_n (pc := 15) dX9_nextToken_15 rfl rfl ?_
        refine g_X9_257 (pc := 16) (v := .int (nI i)) rfl dX9_nextToken_16 (c_140 _) (by show some (Value.int (σa.1 14039)) = _; rw [hGa.2]) ?_
        have hx179 : vp_in (nI i) 160 := (vp_of_inR (show inR (nI i) 0 159 from inR_nI (M := 159) (by omega) (by decide)) (by decide))
        refine R_iaload (pc := 19) dX9_nextToken_19 (c_170 _) hx179 ?_
        refine R_bipush (pc := 20) (v := 32) dX9_nextToken_20 (by decide) ?_
        refine R_icne (pc := 22) 38 dX9_nextToken_22 (by decide) (fun b22_180 => ?_) (fun b22_180 => ?_)
        · skip
          have hsk : i = sk f n p := sk_e hTa (Or.inr (by have q := b22_180; rw [hGa.1.2.1, nI_clamp (by omega)] at q; exact q))
          refine R_aload_n (pc := 38) dX9_nextToken_38 rfl rfl ?_
          refine R_aload_n (pc := 39) dX9_nextToken_39 rfl rfl ?_
          refine g_X9_257 (pc := 40) (v := .int (nI i)) rfl dX9_nextToken_40 (c_140 _) (by show some (Value.int (σa.1 14039)) = _; rw [hGa.2]) ?_
          refine p_X9_260 (pc := 43) rfl dX9_nextToken_43 (c_140 _) (Nat.le_of_ble_eq_true rfl) rfl rfl (s_140_40 _ _) ?_
          have hW181 := cor_si 14040 (nI i) hCa rfl
          refine R_aload_n (pc := 46) dX9_nextToken_46 rfl rfl ?_
          refine R_iconst (pc := 47) (v := 0) dX9_nextToken_47 (by decide) ?_
          refine p_X9_263 (pc := 48) rfl dX9_nextToken_48 (c_140 _) (Nat.le_of_ble_eq_true rfl) rfl rfl (s_140_42 _ _) ?_
          have hW182 := cor_si 14042 0 hW181 rfl
          refine R_aload_n (pc := 51) dX9_nextToken_51 rfl rfl ?_
          refine R_iconst (pc := 52) (v := 0) dX9_nextToken_52 (by decide) ?_
          refine p_X9_266 (pc := 53) rfl dX9_nextToken_53 (c_140 _) (Nat.le_of_ble_eq_true rfl) rfl rfl (s_140_43 _ _) ?_
          have hW183 := cor_si 14043 0 hW182 rfl
          refine R_aload_n (pc := 56) dX9_nextToken_56 rfl rfl ?_
          refine g_X9_257 (pc := 57) (v := .int (nI i)) rfl dX9_nextToken_57 (c_140 _) (by show some (Value.int (σa.1 14039)) = _; rw [hGa.2]) ?_
          refine R_aload_n (pc := 60) dX9_nextToken_60 rfl rfl ?_
          refine g_X9_254 (pc := 61) (v := .int (nI n)) rfl dX9_nextToken_61 (c_140 _) (by show some (Value.int (σa.1 14037)) = _; rw [hGa.1.1]) ?_
          refine R_icne (pc := 64) 77 dX9_nextToken_64 (by decide) (fun b64_184 => ?_) (fun b64_184 => ?_)
          · skip
            have hlt : i < n := Nat.lt_of_le_of_ne hna (fun e => b64_184 (by rw [e]))
            refine R_aload_n (pc := 77) dX9_nextToken_77 rfl rfl ?_
            refine g_X9_108 (pc := 78) (v := .ref 170) rfl dX9_nextToken_78 (c_140 _) rfl ?_
            refine R_aload_n (pc := 81) dX9_nextToken_81 rfl rfl ?_
            refine g_X9_257 (pc := 82) (v := .int (nI i)) rfl dX9_nextToken_82 (c_140 _) (by show some (Value.int (σa.1 14039)) = _; rw [hGa.2]) ?_
            have hx185 : vp_in (nI i) 160 := (vp_of_inR (show inR (nI i) 0 159 from inR_nI (M := 159) (by omega) (by decide)) (by decide))
            refine W_iaload (pc := 85) (σa.2.2.1 170 (Int32.toNatClampNeg (nI i))) dX9_nextToken_85 (c_170 _) hx185 rfl ?_
            refine R_bipush (pc := 86) (v := 97) dX9_nextToken_86 (by decide) ?_
            refine R_bipush (pc := 88) (v := 122) dX9_nextToken_88 (by decide) ?_
            refine k_X9_124 (pc := 90) (sp_X9_in _ _ _ _) rfl (by decide) (Nat.le_refl _) (Nat.le_refl _) (Nat.le_of_ble_eq_true rfl) dX9_nextToken_90 (fun x w2 h => ?_)
            rcases h with ⟨rfl, ⟨h186, rfl⟩ | ⟨h186, rfl⟩⟩
            · skip
              refine R_ifeq (pc := 93) 222 dX9_nextToken_93 (by decide) (fun h => absurd h (by decide)) (fun _ => ?_)
              refine R_aload_n (pc := 96) dX9_nextToken_96 rfl rfl ?_
              refine R_lconst (pc := 97) (v := 0) dX9_nextToken_97 (by decide) ?_
              refine p_X9_271 (pc := 98) rfl dX9_nextToken_98 (c_140 _) (Nat.le_of_ble_eq_true rfl) rfl rfl (s_140_41 _ _) ?_
              have hW188 := cor_sj 14041 0 hW183 rfl
              have hL : isL f i = true := by have q := h186; rw [hGa.1.2.1, nI_clamp (by omega)] at q; exact inB_t q
              have hPs : rowB (f i) (f i) = true := by rw [row_l hL]; exact hL
              have HL101 : ∀ (q k : Nat) (σb : Sg), k + q = 160 → k ≤ n → teF (fun k => rowB (f i) (f k)) n (160 - k) k = tkE f n i → qLt f r n c σb i k → i ≤ k → Inv σb → Cor σ σb → R G l yX9_nextToken cX9_nextToken 1 none 1 0 0 (QV (fun w2 => ∃ σ2, w2 = WW σ2 ∧ Inv σ2 ∧ Cor σ σ2 ∧ mQs f r n c σ2 ∧ MT f n (sk f n p) σ2)) 101 [(some (.ref 140))] [] (WW σb) 0 0 := by
                intro q
                induction q with
                | zero =>
                  intro k σb hjb hnb hTb hGb hik hIb hCb
                  refine R_aload_n (pc := 101) dX9_nextToken_101 rfl rfl ?_
                  refine g_X9_257 (pc := 102) (v := .int (nI k)) rfl dX9_nextToken_102 (c_140 _) (by show some (Value.int (σb.1 14039)) = _; rw [hGb.2.1]) ?_
                  refine R_aload_n (pc := 105) dX9_nextToken_105 rfl rfl ?_
                  refine g_X9_254 (pc := 106) (v := .int (nI n)) rfl dX9_nextToken_106 (c_140 _) (by show some (Value.int (σb.1 14037)) = _; rw [hGb.1.1]) ?_
                  refine R_icge (pc := 109) 191 dX9_nextToken_109 (by decide) (fun _ => ?_) (fun h => False.elim (by have q1 := ti_nle h; have q2 := ti_in (show inR (nI k) 160 160 from (show inR (nI k) 160 160 from by rw [show k = 160 by omega]; exact inR_self _)); have q3 := ti_in (show inR (nI n) 0 160 from (show inR (nI n) 0 160 from inR_nI (M := 160) (by omega) (by decide))); have z0 : (0 : Int32).toInt = 0 := (by decide);  have z1 : (160 : Int32).toInt = 160 := (by decide); omega))
                  have hke : k = tkE f n i := (te_e (P := (fun k => rowB (f i) (f k))) hTb (Or.inl (by omega)))
                  refine R_aload_n (pc := 191) dX9_nextToken_191 rfl rfl ?_
                  refine R_aload_n (pc := 192) dX9_nextToken_192 rfl rfl ?_
                  refine g_X9_257 (pc := 193) (v := .int (nI k)) rfl dX9_nextToken_193 (c_140 _) (by show some (Value.int (σb.1 14039)) = _; rw [hGb.2.1]) ?_
                  refine R_aload_n (pc := 196) dX9_nextToken_196 rfl rfl ?_
                  refine g_X9_260 (pc := 197) (v := .int (nI i)) rfl dX9_nextToken_197 (c_140 _) (by show some (Value.int (σb.1 14040)) = _; rw [hGb.2.2.1]) ?_
                  refine R_isub (pc := 200) dX9_nextToken_200 ?_
                  have r190 : inR ((nI k) - (nI i)) 0 160 := inR_sub (show inR (nI k) 160 160 from (show inR (nI k) 160 160 from by rw [show k = 160 by omega]; exact inR_self _)) (show inR (nI i) 0 160 from (show inR (nI i) 0 160 from inR_nI (M := 160) (by omega) (by decide))) (by decide) (by decide)
                  have e191 := ti_sub (l := 0) (h := 160) (show inR (nI k) 160 160 from (show inR (nI k) 160 160 from by rw [show k = 160 by omega]; exact inR_self _)) (show inR (nI i) 0 160 from (show inR (nI i) 0 160 from inR_nI (M := 160) (by omega) (by decide))) (by decide) (by decide)
                  refine R_bipush (pc := 201) (v := 9) dX9_nextToken_201 (by decide) ?_
                  refine R_icle (pc := 203) 212 dX9_nextToken_203 (by decide) (fun b203_192 => ?_) (fun b203_192 => ?_)
                  · skip
                    refine R_aload_n (pc := 212) dX9_nextToken_212 rfl rfl ?_
                    refine g_X9_271 (pc := 213) (v := .long (tokL f i (k - i))) rfl dX9_nextToken_213 (c_140 _) (by show some (Value.long (σb.2.1 14041)) = _; rw [hGb.2.2.2]) ?_
                    refine p_X9_271 (pc := 216) rfl dX9_nextToken_216 (c_140 _) (Nat.le_of_ble_eq_true rfl) rfl rfl (s_140_41 _ _) ?_
                    have hW193 := cor_sj 14041 (tokL f i (k - i)) hCb rfl
                    refine R_goto (pc := 219) 394 dX9_nextToken_219 (by decide) ?_
                    exact R_vret (pc := 394) dX9_nextToken_394 rfl (Nat.zero_le _) (Nat.zero_le _) ⟨rfl, _, rfl, hIb, hW193, hGb.1, mt_of hsk ⟨hGb.2.1.trans (by rw [hke]), hGb.2.2.1, Nat.le_of_lt hlt, tv_let (k := k) hn hlt hL hke rfl⟩⟩
                  · skip
                    refine R_ldc2 (pc := 206) w_1245c dX9_nextToken_206 ?_
                    refine R_goto (pc := 209) 216 dX9_nextToken_209 (by decide) ?_
                    refine p_X9_271 (pc := 216) rfl dX9_nextToken_216 (c_140 _) (Nat.le_of_ble_eq_true rfl) rfl rfl (s_140_41 _ _) ?_
                    have hW194 := cor_sj 14041 (-4) hCb rfl
                    refine R_goto (pc := 219) 394 dX9_nextToken_219 (by decide) ?_
                    exact R_vret (pc := 394) dX9_nextToken_394 rfl (Nat.zero_le _) (Nat.zero_le _) ⟨rfl, _, rfl, hIb, hW194, hGb.1, mt_of hsk ⟨hGb.2.1.trans (by rw [hke]), hGb.2.2.1, Nat.le_of_lt hlt, tv_let (k := k) hn hlt hL hke (tokL_f (sub_gt (m := 9) rfl (by decide) hik (by omega) b203_192)).symm⟩⟩
                | succ q ih101 =>
                  intro k σb hjb hnb hTb hGb hik hIb hCb
                  refine R_aload_n (pc := 101) dX9_nextToken_101 rfl rfl ?_
                  refine g_X9_257 (pc := 102) (v := .int (nI k)) rfl dX9_nextToken_102 (c_140 _) (by show some (Value.int (σb.1 14039)) = _; rw [hGb.2.1]) ?_
                  refine R_aload_n (pc := 105) dX9_nextToken_105 rfl rfl ?_
                  refine g_X9_254 (pc := 106) (v := .int (nI n)) rfl dX9_nextToken_106 (c_140 _) (by show some (Value.int (σb.1 14037)) = _; rw [hGb.1.1]) ?_
                  refine R_icge (pc := 109) 191 dX9_nextToken_109 (by decide) (fun b109_195 => ?_) (fun b109_195 => ?_)
                  · skip
                    have hke : k = tkE f n i := (te_e (P := (fun k => rowB (f i) (f k))) hTb (Or.inl (nI_les (by omega) (by omega) b109_195)))
                    refine R_aload_n (pc := 191) dX9_nextToken_191 rfl rfl ?_
                    refine R_aload_n (pc := 192) dX9_nextToken_192 rfl rfl ?_
                    refine g_X9_257 (pc := 193) (v := .int (nI k)) rfl dX9_nextToken_193 (c_140 _) (by show some (Value.int (σb.1 14039)) = _; rw [hGb.2.1]) ?_
                    refine R_aload_n (pc := 196) dX9_nextToken_196 rfl rfl ?_
                    refine g_X9_260 (pc := 197) (v := .int (nI i)) rfl dX9_nextToken_197 (c_140 _) (by show some (Value.int (σb.1 14040)) = _; rw [hGb.2.2.1]) ?_
                    refine R_isub (pc := 200) dX9_nextToken_200 ?_
                    have r196 : inR ((nI k) - (nI i)) (-160) 159 := inR_sub (show inR (nI k) 0 159 from (show inR (nI k) 0 159 from inR_nI (M := 159) (by omega) (by decide))) (show inR (nI i) 0 160 from (show inR (nI i) 0 160 from inR_nI (M := 160) (by omega) (by decide))) (by decide) (by decide)
                    have e197 := ti_sub (l := (-160)) (h := 159) (show inR (nI k) 0 159 from (show inR (nI k) 0 159 from inR_nI (M := 159) (by omega) (by decide))) (show inR (nI i) 0 160 from (show inR (nI i) 0 160 from inR_nI (M := 160) (by omega) (by decide))) (by decide) (by decide)
                    refine R_bipush (pc := 201) (v := 9) dX9_nextToken_201 (by decide) ?_
                    refine R_icle (pc := 203) 212 dX9_nextToken_203 (by decide) (fun b203_198 => ?_) (fun b203_198 => ?_)
                    · skip
                      refine R_aload_n (pc := 212) dX9_nextToken_212 rfl rfl ?_
                      refine g_X9_271 (pc := 213) (v := .long (tokL f i (k - i))) rfl dX9_nextToken_213 (c_140 _) (by show some (Value.long (σb.2.1 14041)) = _; rw [hGb.2.2.2]) ?_
                      refine p_X9_271 (pc := 216) rfl dX9_nextToken_216 (c_140 _) (Nat.le_of_ble_eq_true rfl) rfl rfl (s_140_41 _ _) ?_
                      have hW199 := cor_sj 14041 (tokL f i (k - i)) hCb rfl
                      refine R_goto (pc := 219) 394 dX9_nextToken_219 (by decide) ?_
                      exact R_vret (pc := 394) dX9_nextToken_394 rfl (Nat.zero_le _) (Nat.zero_le _) ⟨rfl, _, rfl, hIb, hW199, hGb.1, mt_of hsk ⟨hGb.2.1.trans (by rw [hke]), hGb.2.2.1, Nat.le_of_lt hlt, tv_let (k := k) hn hlt hL hke rfl⟩⟩
                    · skip
                      refine R_ldc2 (pc := 206) w_1245c dX9_nextToken_206 ?_
                      refine R_goto (pc := 209) 216 dX9_nextToken_209 (by decide) ?_
                      refine p_X9_271 (pc := 216) rfl dX9_nextToken_216 (c_140 _) (Nat.le_of_ble_eq_true rfl) rfl rfl (s_140_41 _ _) ?_
                      have hW200 := cor_sj 14041 (-4) hCb rfl
                      refine R_goto (pc := 219) 394 dX9_nextToken_219 (by decide) ?_
                      exact R_vret (pc := 394) dX9_nextToken_394 rfl (Nat.zero_le _) (Nat.zero_le _) ⟨rfl, _, rfl, hIb, hW200, hGb.1, mt_of hsk ⟨hGb.2.1.trans (by rw [hke]), hGb.2.2.1, Nat.le_of_lt hlt, tv_let (k := k) hn hlt hL hke (tokL_f (sub_gt (m := 9) rfl (by decide) hik (by omega) b203_198)).symm⟩⟩
                  · skip
                    refine R_aload_n (pc := 112) dX9_nextToken_112 rfl rfl ?_
                    refine g_X9_108 (pc := 113) (v := .ref 170) rfl dX9_nextToken_113 (c_140 _) rfl ?_
                    refine R_aload_n (pc := 116) dX9_nextToken_116 rfl rfl ?_
                    refine g_X9_257 (pc := 117) (v := .int (nI k)) rfl dX9_nextToken_117 (c_140 _) (by show some (Value.int (σb.1 14039)) = _; rw [hGb.2.1]) ?_
                    have hx201 : vp_in (nI k) 160 := (vp_of_inR (show inR (nI k) 0 159 from inR_nI (M := 159) (by omega) (by decide)) (by decide))
                    refine R_iaload (pc := 120) dX9_nextToken_120 (c_170 _) hx201 ?_
                    refine R_bipush (pc := 121) (v := 97) dX9_nextToken_121 (by decide) ?_
                    refine R_bipush (pc := 123) (v := 122) dX9_nextToken_123 (by decide) ?_
                    refine k_X9_124 (pc := 125) (sp_X9_in _ _ _ _) rfl (by decide) (Nat.le_refl _) (Nat.le_refl _) (Nat.le_of_ble_eq_true rfl) dX9_nextToken_125 (fun x w2 h => ?_)
                    rcases h with ⟨rfl, ⟨h202, rfl⟩ | ⟨h202, rfl⟩⟩
                    · skip
                      refine R_ifeq (pc := 128) 191 dX9_nextToken_128 (by decide) (fun h => absurd h (by decide)) (fun _ => ?_)
                      refine R_aload_n (pc := 131) dX9_nextToken_131 rfl rfl ?_
                      refine R_aload_n (pc := 132) dX9_nextToken_132 rfl rfl ?_
                      refine g_X9_257 (pc := 133) (v := .int (nI k)) rfl dX9_nextToken_133 (c_140 _) (by show some (Value.int (σb.1 14039)) = _; rw [hGb.2.1]) ?_
                      refine R_aload_n (pc := 136) dX9_nextToken_136 rfl rfl ?_
                      refine g_X9_260 (pc := 137) (v := .int (nI i)) rfl dX9_nextToken_137 (c_140 _) (by show some (Value.int (σb.1 14040)) = _; rw [hGb.2.2.1]) ?_
                      refine R_isub (pc := 140) dX9_nextToken_140 ?_
                      have r204 : inR ((nI k) - (nI i)) (-160) 159 := inR_sub (show inR (nI k) 0 159 from (show inR (nI k) 0 159 from inR_nI (M := 159) (by omega) (by decide))) (show inR (nI i) 0 160 from (show inR (nI i) 0 160 from inR_nI (M := 160) (by omega) (by decide))) (by decide) (by decide)
                      have e205 := ti_sub (l := (-160)) (h := 159) (show inR (nI k) 0 159 from (show inR (nI k) 0 159 from inR_nI (M := 159) (by omega) (by decide))) (show inR (nI i) 0 160 from (show inR (nI i) 0 160 from inR_nI (M := 160) (by omega) (by decide))) (by decide) (by decide)
                      refine R_bipush (pc := 141) (v := 9) dX9_nextToken_141 (by decide) ?_
                      refine R_icge (pc := 143) 172 dX9_nextToken_143 (by decide) (fun b143_206 => ?_) (fun b143_206 => ?_)
                      · skip
                        refine R_ldc2 (pc := 172) w_1245c dX9_nextToken_172 ?_
                        refine p_X9_271 (pc := 175) rfl dX9_nextToken_175 (c_140 _) (Nat.le_of_ble_eq_true rfl) rfl rfl (s_140_41 _ _) ?_
                        have hW207 := cor_sj 14041 (-4) hCb rfl
                        refine R_aload_n (pc := 178) dX9_nextToken_178 rfl rfl ?_
                        refine R_dup (pc := 179) dX9_nextToken_179 rfl ?_
                        refine g_X9_257 (pc := 180) (v := .int (nI k)) rfl dX9_nextToken_180 (c_140 _) (by show some (Value.int (σb.1 14039)) = _; rw [hGb.2.1]) ?_
                        refine R_iconst (pc := 183) (v := 1) dX9_nextToken_183 (by decide) ?_
                        refine R_iadd (pc := 184) dX9_nextToken_184 ?_
                        have r208 : inR ((nI k) + 1) 1 160 := inR_add (show inR (nI k) 0 159 from (show inR (nI k) 0 159 from inR_nI (M := 159) (by omega) (by decide))) (show inR 1 1 1 from (inR_self _)) (by decide) (by decide)
                        have e209 := ti_add (l := 1) (h := 160) (show inR (nI k) 0 159 from (show inR (nI k) 0 159 from inR_nI (M := 159) (by omega) (by decide))) (show inR 1 1 1 from (inR_self _)) (by decide) (by decide)
                        refine p_X9_257 (pc := 185) rfl dX9_nextToken_185 (c_140 _) (Nat.le_of_ble_eq_true rfl) rfl rfl (s_140_39 _ _) ?_
                        have hW210 := cor_si 14039 ((nI k) + 1) hW207 rfl
                        refine R_goto (pc := 188) 101 dX9_nextToken_188 (by decide) ?_
                        have hPk : rowB (f i) (f k) = true := by rw [row_l hL]; have q := h202; rw [hGb.1.2.1, nI_clamp (by omega)] at q; exact inB_t q
                        exact ih101 (k + 1) _ (by omega) (nI_lts (by omega) (by omega) (Int32.not_le.mp b109_195)) (te_s2 hn hTb (nI_lts (by omega) (by omega) (Int32.not_le.mp b109_195)) hPk) ⟨hGb.1, nI_1 k, hGb.2.2.1, (show (-4 : Int64) = tokL f i (k + 1 - i) from tokL_b (sub_ge (m := 9) rfl (by decide) hik (by omega) b143_206))⟩ (by omega) hIb hW210
                      · skip
                        refine R_ldc2 (pc := 146) w_1243c dX9_nextToken_146 ?_
                        refine R_aload_n (pc := 149) dX9_nextToken_149 rfl rfl ?_
                        refine g_X9_271 (pc := 150) (v := .long (tokL f i (k - i))) rfl dX9_nextToken_150 (c_140 _) (by show some (Value.long (σb.2.1 14041)) = _; rw [hGb.2.2.2]) ?_
                        refine R_lmul (pc := 153) dX9_nextToken_153 ?_
                        refine R_aload_n (pc := 154) dX9_nextToken_154 rfl rfl ?_
                        refine g_X9_108 (pc := 155) (v := .ref 170) rfl dX9_nextToken_155 (c_140 _) rfl ?_
                        refine R_aload_n (pc := 158) dX9_nextToken_158 rfl rfl ?_
                        refine g_X9_257 (pc := 159) (v := .int (nI k)) rfl dX9_nextToken_159 (c_140 _) (by show some (Value.int (σb.1 14039)) = _; rw [hGb.2.1]) ?_
                        have hx211 : vp_in (nI k) 160 := (vp_of_inR (show inR (nI k) 0 159 from inR_nI (M := 159) (by omega) (by decide)) (by decide))
                        refine R_iaload (pc := 162) dX9_nextToken_162 (c_170 _) hx211 ?_
                        refine R_i2l (pc := 163) dX9_nextToken_163 ?_
                        refine R_ladd (pc := 164) dX9_nextToken_164 ?_
                        refine R_ldc2 (pc := 165) w_1244c dX9_nextToken_165 ?_
                        refine R_lsub (pc := 168) dX9_nextToken_168 ?_
                        refine R_goto (pc := 169) 175 dX9_nextToken_169 (by decide) ?_
                        refine p_X9_271 (pc := 175) rfl dX9_nextToken_175 (c_140 _) (Nat.le_of_ble_eq_true rfl) rfl rfl (s_140_41 _ _) ?_
                        have hW212 := cor_sj 14041 (((27 * (tokL f i (k - i))) + (Int32.toInt64 (σb.2.2.1 170 (Int32.toNatClampNeg (nI k))))) - 96) hCb rfl
                        refine R_aload_n (pc := 178) dX9_nextToken_178 rfl rfl ?_
                        refine R_dup (pc := 179) dX9_nextToken_179 rfl ?_
                        refine g_X9_257 (pc := 180) (v := .int (nI k)) rfl dX9_nextToken_180 (c_140 _) (by show some (Value.int (σb.1 14039)) = _; rw [hGb.2.1]) ?_
                        refine R_iconst (pc := 183) (v := 1) dX9_nextToken_183 (by decide) ?_
                        refine R_iadd (pc := 184) dX9_nextToken_184 ?_
                        have r213 : inR ((nI k) + 1) 1 160 := inR_add (show inR (nI k) 0 159 from (show inR (nI k) 0 159 from inR_nI (M := 159) (by omega) (by decide))) (show inR 1 1 1 from (inR_self _)) (by decide) (by decide)
                        have e214 := ti_add (l := 1) (h := 160) (show inR (nI k) 0 159 from (show inR (nI k) 0 159 from inR_nI (M := 159) (by omega) (by decide))) (show inR 1 1 1 from (inR_self _)) (by decide) (by decide)
                        refine p_X9_257 (pc := 185) rfl dX9_nextToken_185 (c_140 _) (Nat.le_of_ble_eq_true rfl) rfl rfl (s_140_39 _ _) ?_
                        have hW215 := cor_si 14039 ((nI k) + 1) hW212 rfl
                        refine R_goto (pc := 188) 101 dX9_nextToken_188 (by decide) ?_
                        have hPk : rowB (f i) (f k) = true := by rw [row_l hL]; have q := h202; rw [hGb.1.2.1, nI_clamp (by omega)] at q; exact inB_t q
                        exact ih101 (k + 1) _ (by omega) (nI_lts (by omega) (by omega) (Int32.not_le.mp b109_195)) (te_s2 hn hTb (nI_lts (by omega) (by omega) (Int32.not_le.mp b109_195)) hPk) ⟨hGb.1, nI_1 k, hGb.2.2.1, (show (((27 * (tokL f i (k - i))) + (Int32.toInt64 (σb.2.2.1 170 (Int32.toNatClampNeg (nI k))))) - 96) = tokL f i (k + 1 - i) from by rw [hGb.1.2.1, nI_clamp (by omega)]; exact tokL_a hik (sub_lt (m := 9) rfl (by decide) hik (by omega) b143_206))⟩ (by omega) hIb hW215
                    · skip
                      refine R_ifeq (pc := 128) 191 dX9_nextToken_128 (by decide) (fun _ => ?_) (fun h => absurd (by decide) h)
                      have hke : k = tkE f n i := (te_e (P := (fun k => rowB (f i) (f k))) hTb (Or.inr (by show rowB _ _ = false; rw [row_l hL]; have q := h202; rw [hGb.1.2.1, nI_clamp (by omega)] at q; exact inB_f q)))
                      refine R_aload_n (pc := 191) dX9_nextToken_191 rfl rfl ?_
                      refine R_aload_n (pc := 192) dX9_nextToken_192 rfl rfl ?_
                      refine g_X9_257 (pc := 193) (v := .int (nI k)) rfl dX9_nextToken_193 (c_140 _) (by show some (Value.int (σb.1 14039)) = _; rw [hGb.2.1]) ?_
                      refine R_aload_n (pc := 196) dX9_nextToken_196 rfl rfl ?_
                      refine g_X9_260 (pc := 197) (v := .int (nI i)) rfl dX9_nextToken_197 (c_140 _) (by show some (Value.int (σb.1 14040)) = _; rw [hGb.2.2.1]) ?_
                      refine R_isub (pc := 200) dX9_nextToken_200 ?_
                      have r217 : inR ((nI k) - (nI i)) (-160) 159 := inR_sub (show inR (nI k) 0 159 from (show inR (nI k) 0 159 from inR_nI (M := 159) (by omega) (by decide))) (show inR (nI i) 0 160 from (show inR (nI i) 0 160 from inR_nI (M := 160) (by omega) (by decide))) (by decide) (by decide)
                      have e218 := ti_sub (l := (-160)) (h := 159) (show inR (nI k) 0 159 from (show inR (nI k) 0 159 from inR_nI (M := 159) (by omega) (by decide))) (show inR (nI i) 0 160 from (show inR (nI i) 0 160 from inR_nI (M := 160) (by omega) (by decide))) (by decide) (by decide)
                      refine R_bipush (pc := 201) (v := 9) dX9_nextToken_201 (by decide) ?_
                      refine R_icle (pc := 203) 212 dX9_nextToken_203 (by decide) (fun b203_219 => ?_) (fun b203_219 => ?_)
                      · skip
                        refine R_aload_n (pc := 212) dX9_nextToken_212 rfl rfl ?_
                        refine g_X9_271 (pc := 213) (v := .long (tokL f i (k - i))) rfl dX9_nextToken_213 (c_140 _) (by show some (Value.long (σb.2.1 14041)) = _; rw [hGb.2.2.2]) ?_
                        refine p_X9_271 (pc := 216) rfl dX9_nextToken_216 (c_140 _) (Nat.le_of_ble_eq_true rfl) rfl rfl (s_140_41 _ _) ?_
                        have hW220 := cor_sj 14041 (tokL f i (k - i)) hCb rfl
                        refine R_goto (pc := 219) 394 dX9_nextToken_219 (by decide) ?_
                        exact R_vret (pc := 394) dX9_nextToken_394 rfl (Nat.zero_le _) (Nat.zero_le _) ⟨rfl, _, rfl, hIb, hW220, hGb.1, mt_of hsk ⟨hGb.2.1.trans (by rw [hke]), hGb.2.2.1, Nat.le_of_lt hlt, tv_let (k := k) hn hlt hL hke rfl⟩⟩
                      · skip
                        refine R_ldc2 (pc := 206) w_1245c dX9_nextToken_206 ?_
                        refine R_goto (pc := 209) 216 dX9_nextToken_209 (by decide) ?_
                        refine p_X9_271 (pc := 216) rfl dX9_nextToken_216 (c_140 _) (Nat.le_of_ble_eq_true rfl) rfl rfl (s_140_41 _ _) ?_
                        have hW221 := cor_sj 14041 (-4) hCb rfl
                        refine R_goto (pc := 219) 394 dX9_nextToken_219 (by decide) ?_
                        exact R_vret (pc := 394) dX9_nextToken_394 rfl (Nat.zero_le _) (Nat.zero_le _) ⟨rfl, _, rfl, hIb, hW221, hGb.1, mt_of hsk ⟨hGb.2.1.trans (by rw [hke]), hGb.2.2.1, Nat.le_of_lt hlt, tv_let (k := k) hn hlt hL hke (tokL_f (sub_gt (m := 9) rfl (by decide) hik (by omega) b203_219)).symm⟩⟩
              exact HL101 (160 - i) i _ (by omega) (by omega) (te_st hn hlt hPs) ⟨hGa.1, hGa.2, rfl, (tokL_0 f i).symm⟩ (Nat.le_refl _) hIa hW188
            · skip
              refine R_ifeq (pc := 93) 222 dX9_nextToken_93 (by decide) (fun _ => ?_) (fun h => absurd (by decide) h)
              refine R_aload_n (pc := 222) dX9_nextToken_222 rfl rfl ?_
              refine g_X9_108 (pc := 223) (v := .ref 170) rfl dX9_nextToken_223 (c_140 _) rfl ?_
              refine R_aload_n (pc := 226) dX9_nextToken_226 rfl rfl ?_
              refine g_X9_257 (pc := 227) (v := .int (nI i)) rfl dX9_nextToken_227 (c_140 _) (by show some (Value.int (σa.1 14039)) = _; rw [hGa.2]) ?_
              have hx223 : vp_in (nI i) 160 := (vp_of_inR (show inR (nI i) 0 159 from inR_nI (M := 159) (by omega) (by decide)) (by decide))
              refine W_iaload (pc := 230) (σa.2.2.1 170 (Int32.toNatClampNeg (nI i))) dX9_nextToken_230 (c_170 _) hx223 rfl ?_
              refine R_bipush (pc := 231) (v := 48) dX9_nextToken_231 (by decide) ?_
              refine R_bipush (pc := 233) (v := 57) dX9_nextToken_233 (by decide) ?_
              refine k_X9_124 (pc := 235) (sp_X9_in _ _ _ _) rfl (by decide) (Nat.le_refl _) (Nat.le_refl _) (Nat.le_of_ble_eq_true rfl) dX9_nextToken_235 (fun x w2 h => ?_)
              rcases h with ⟨rfl, ⟨h224, rfl⟩ | ⟨h224, rfl⟩⟩
              · skip
                refine R_ifeq (pc := 238) 357 dX9_nextToken_238 (by decide) (fun h => absurd h (by decide)) (fun _ => ?_)
                have hD : isD f i = true := by have q := h224; rw [hGa.1.2.1, nI_clamp (by omega)] at q; exact inB_t q
                have hPs : rowB (f i) (f i) = true := by rw [row_d hD]; exact hD
                have HL241 : ∀ (q k : Nat) (σc : Sg), k + q = 160 → k ≤ n → teF (fun k => rowB (f i) (f k)) n (160 - k) k = tkE f n i → qDg f r n c σc i k → i ≤ k → Inv σc → Cor σ σc → R G l yX9_nextToken cX9_nextToken 1 none 1 0 0 (QV (fun w2 => ∃ σ2, w2 = WW σ2 ∧ Inv σ2 ∧ Cor σ σ2 ∧ mQs f r n c σ2 ∧ MT f n (sk f n p) σ2)) 241 [(some (.ref 140))] [] (WW σc) 0 0 := by
                  intro q
                  induction q with
                  | zero =>
                    intro k σc hjc hnc hTc hGc hik hIc hCc
                    refine R_aload_n (pc := 241) dX9_nextToken_241 rfl rfl ?_
                    refine g_X9_257 (pc := 242) (v := .int (nI k)) rfl dX9_nextToken_242 (c_140 _) (by show some (Value.int (σc.1 14039)) = _; rw [hGc.2.1]) ?_
                    refine R_aload_n (pc := 245) dX9_nextToken_245 rfl rfl ?_
                    refine g_X9_254 (pc := 246) (v := .int (nI n)) rfl dX9_nextToken_246 (c_140 _) (by show some (Value.int (σc.1 14037)) = _; rw [hGc.1.1]) ?_
                    refine R_icge (pc := 249) 333 dX9_nextToken_249 (by decide) (fun _ => ?_) (fun h => False.elim (by have q1 := ti_nle h; have q2 := ti_in (show inR (nI k) 160 160 from (show inR (nI k) 160 160 from by rw [show k = 160 by omega]; exact inR_self _)); have q3 := ti_in (show inR (nI n) 0 160 from (show inR (nI n) 0 160 from inR_nI (M := 160) (by omega) (by decide))); have z0 : (0 : Int32).toInt = 0 := (by decide);  have z1 : (160 : Int32).toInt = 160 := (by decide); omega))
                    have hke : k = tkE f n i := (te_e (P := (fun k => rowB (f i) (f k))) hTc (Or.inl (by omega)))
                    refine R_aload_n (pc := 333) dX9_nextToken_333 rfl rfl ?_
                    refine R_aload_n (pc := 334) dX9_nextToken_334 rfl rfl ?_
                    refine g_X9_263 (pc := 335) (v := .int (nI (k - i))) rfl dX9_nextToken_335 (c_140 _) (by show some (Value.int (σc.1 14042)) = _; rw [hGc.2.2.2.1]) ?_
                    refine R_iconst (pc := 338) (v := 5) dX9_nextToken_338 (by decide) ?_
                    refine R_icle (pc := 339) 348 dX9_nextToken_339 (by decide) (fun b339_227 => ?_) (fun b339_227 => ?_)
                    · skip
                      refine R_ldc2 (pc := 348) w_1212c dX9_nextToken_348 ?_
                      refine p_X9_271 (pc := 351) rfl dX9_nextToken_351 (c_140 _) (Nat.le_of_ble_eq_true rfl) rfl rfl (s_140_41 _ _) ?_
                      have hW228 := cor_sj 14041 (-1) hCc rfl
                      refine R_goto (pc := 354) 394 dX9_nextToken_354 (by decide) ?_
                      exact R_vret (pc := 394) dX9_nextToken_394 rfl (Nat.zero_le _) (Nat.zero_le _) ⟨rfl, _, rfl, hIc, hW228, hGc.1, mt_of hsk ⟨hGc.2.1.trans (by rw [hke]), hGc.2.2.1, Nat.le_of_lt hlt, tv_dig (k := k) hn hlt hD hke (Or.inr ⟨rfl, le_nI (m := 5) rfl (by decide) (by omega) b339_227⟩) hGc.2.2.2.2⟩⟩
                    · skip
                      refine R_ldc2 (pc := 342) w_1245c dX9_nextToken_342 ?_
                      refine R_goto (pc := 345) 351 dX9_nextToken_345 (by decide) ?_
                      refine p_X9_271 (pc := 351) rfl dX9_nextToken_351 (c_140 _) (Nat.le_of_ble_eq_true rfl) rfl rfl (s_140_41 _ _) ?_
                      have hW229 := cor_sj 14041 (-4) hCc rfl
                      refine R_goto (pc := 354) 394 dX9_nextToken_354 (by decide) ?_
                      exact R_vret (pc := 394) dX9_nextToken_394 rfl (Nat.zero_le _) (Nat.zero_le _) ⟨rfl, _, rfl, hIc, hW229, hGc.1, mt_of hsk ⟨hGc.2.1.trans (by rw [hke]), hGc.2.2.1, Nat.le_of_lt hlt, tv_dig (k := k) hn hlt hD hke (Or.inl ⟨rfl, gt_nI (m := 5) rfl (by decide) (by omega) b339_227⟩) hGc.2.2.2.2⟩⟩
                  | succ q ih241 =>
                    intro k σc hjc hnc hTc hGc hik hIc hCc
                    refine R_aload_n (pc := 241) dX9_nextToken_241 rfl rfl ?_
                    refine g_X9_257 (pc := 242) (v := .int (nI k)) rfl dX9_nextToken_242 (c_140 _) (by show some (Value.int (σc.1 14039)) = _; rw [hGc.2.1]) ?_
                    refine R_aload_n (pc := 245) dX9_nextToken_245 rfl rfl ?_
                    refine g_X9_254 (pc := 246) (v := .int (nI n)) rfl dX9_nextToken_246 (c_140 _) (by show some (Value.int (σc.1 14037)) = _; rw [hGc.1.1]) ?_
                    refine R_icge (pc := 249) 333 dX9_nextToken_249 (by decide) (fun b249_230 => ?_) (fun b249_230 => ?_)
                    · skip
                      have hke : k = tkE f n i := (te_e (P := (fun k => rowB (f i) (f k))) hTc (Or.inl (nI_les (by omega) (by omega) b249_230)))
                      refine R_aload_n (pc := 333) dX9_nextToken_333 rfl rfl ?_
                      refine R_aload_n (pc := 334) dX9_nextToken_334 rfl rfl ?_
                      refine g_X9_263 (pc := 335) (v := .int (nI (k - i))) rfl dX9_nextToken_335 (c_140 _) (by show some (Value.int (σc.1 14042)) = _; rw [hGc.2.2.2.1]) ?_
                      refine R_iconst (pc := 338) (v := 5) dX9_nextToken_338 (by decide) ?_
                      refine R_icle (pc := 339) 348 dX9_nextToken_339 (by decide) (fun b339_231 => ?_) (fun b339_231 => ?_)
                      · skip
                        refine R_ldc2 (pc := 348) w_1212c dX9_nextToken_348 ?_
                        refine p_X9_271 (pc := 351) rfl dX9_nextToken_351 (c_140 _) (Nat.le_of_ble_eq_true rfl) rfl rfl (s_140_41 _ _) ?_
                        have hW232 := cor_sj 14041 (-1) hCc rfl
                        refine R_goto (pc := 354) 394 dX9_nextToken_354 (by decide) ?_
                        exact R_vret (pc := 394) dX9_nextToken_394 rfl (Nat.zero_le _) (Nat.zero_le _) ⟨rfl, _, rfl, hIc, hW232, hGc.1, mt_of hsk ⟨hGc.2.1.trans (by rw [hke]), hGc.2.2.1, Nat.le_of_lt hlt, tv_dig (k := k) hn hlt hD hke (Or.inr ⟨rfl, le_nI (m := 5) rfl (by decide) (by omega) b339_231⟩) hGc.2.2.2.2⟩⟩
                      · skip
                        refine R_ldc2 (pc := 342) w_1245c dX9_nextToken_342 ?_
                        refine R_goto (pc := 345) 351 dX9_nextToken_345 (by decide) ?_
                        refine p_X9_271 (pc := 351) rfl dX9_nextToken_351 (c_140 _) (Nat.le_of_ble_eq_true rfl) rfl rfl (s_140_41 _ _) ?_
                        have hW233 := cor_sj 14041 (-4) hCc rfl
                        refine R_goto (pc := 354) 394 dX9_nextToken_354 (by decide) ?_
                        exact R_vret (pc := 394) dX9_nextToken_394 rfl (Nat.zero_le _) (Nat.zero_le _) ⟨rfl, _, rfl, hIc, hW233, hGc.1, mt_of hsk ⟨hGc.2.1.trans (by rw [hke]), hGc.2.2.1, Nat.le_of_lt hlt, tv_dig (k := k) hn hlt hD hke (Or.inl ⟨rfl, gt_nI (m := 5) rfl (by decide) (by omega) b339_231⟩) hGc.2.2.2.2⟩⟩
                    · skip
                      refine R_aload_n (pc := 252) dX9_nextToken_252 rfl rfl ?_
                      refine g_X9_108 (pc := 253) (v := .ref 170) rfl dX9_nextToken_253 (c_140 _) rfl ?_
                      refine R_aload_n (pc := 256) dX9_nextToken_256 rfl rfl ?_
                      refine g_X9_257 (pc := 257) (v := .int (nI k)) rfl dX9_nextToken_257 (c_140 _) (by show some (Value.int (σc.1 14039)) = _; rw [hGc.2.1]) ?_
                      have hx234 : vp_in (nI k) 160 := (vp_of_inR (show inR (nI k) 0 159 from inR_nI (M := 159) (by omega) (by decide)) (by decide))
                      refine R_iaload (pc := 260) dX9_nextToken_260 (c_170 _) hx234 ?_
                      refine R_bipush (pc := 261) (v := 48) dX9_nextToken_261 (by decide) ?_
                      refine R_bipush (pc := 263) (v := 57) dX9_nextToken_263 (by decide) ?_
                      refine k_X9_124 (pc := 265) (sp_X9_in _ _ _ _) rfl (by decide) (Nat.le_refl _) (Nat.le_refl _) (Nat.le_of_ble_eq_true rfl) dX9_nextToken_265 (fun x w2 h => ?_)
                      rcases h with ⟨rfl, ⟨h235, rfl⟩ | ⟨h235, rfl⟩⟩
                      · skip
                        refine R_ifeq (pc := 268) 333 dX9_nextToken_268 (by decide) (fun h => absurd h (by decide)) (fun _ => ?_)
                        refine R_aload_n (pc := 271) dX9_nextToken_271 rfl rfl ?_
                        refine R_aload_n (pc := 272) dX9_nextToken_272 rfl rfl ?_
                        refine g_X9_263 (pc := 273) (v := .int (nI (k - i))) rfl dX9_nextToken_273 (c_140 _) (by show some (Value.int (σc.1 14042)) = _; rw [hGc.2.2.2.1]) ?_
                        refine R_iconst (pc := 276) (v := 5) dX9_nextToken_276 (by decide) ?_
                        refine R_icge (pc := 277) 303 dX9_nextToken_277 (by decide) (fun b277_237 => ?_) (fun b277_237 => ?_)
                        · skip
                          refine R_aload_n (pc := 303) dX9_nextToken_303 rfl rfl ?_
                          refine g_X9_266 (pc := 304) (v := .int (nuF f (min (k - i) 5) i 0)) rfl dX9_nextToken_304 (c_140 _) (by show some (Value.int (σc.1 14043)) = _; rw [hGc.2.2.2.2]) ?_
                          refine p_X9_266 (pc := 307) rfl dX9_nextToken_307 (c_140 _) (Nat.le_of_ble_eq_true rfl) rfl rfl (s_140_43 _ _) ?_
                          have hW238 := cor_si 14043 (nuF f (min (k - i) 5) i 0) hCc rfl
                          refine R_aload_n (pc := 310) dX9_nextToken_310 rfl rfl ?_
                          refine R_dup (pc := 311) dX9_nextToken_311 rfl ?_
                          refine g_X9_263 (pc := 312) (v := .int (nI (k - i))) rfl dX9_nextToken_312 (c_140 _) (by show some (Value.int (σc.1 14042)) = _; rw [hGc.2.2.2.1]) ?_
                          refine R_iconst (pc := 315) (v := 1) dX9_nextToken_315 (by decide) ?_
                          refine R_iadd (pc := 316) dX9_nextToken_316 ?_
                          have r239 : inR ((nI (k - i)) + 1) 1 161 := inR_add (show inR (nI (k - i)) 0 160 from (show inR (nI (k - i)) 0 160 from inR_nI (M := 160) (by omega) (by decide))) (show inR 1 1 1 from (inR_self _)) (by decide) (by decide)
                          have e240 := ti_add (l := 1) (h := 161) (show inR (nI (k - i)) 0 160 from (show inR (nI (k - i)) 0 160 from inR_nI (M := 160) (by omega) (by decide))) (show inR 1 1 1 from (inR_self _)) (by decide) (by decide)
                          refine p_X9_263 (pc := 317) rfl dX9_nextToken_317 (c_140 _) (Nat.le_of_ble_eq_true rfl) rfl rfl (s_140_42 _ _) ?_
                          have hW241 := cor_si 14042 ((nI (k - i)) + 1) hW238 rfl
                          refine R_aload_n (pc := 320) dX9_nextToken_320 rfl rfl ?_
                          refine R_dup (pc := 321) dX9_nextToken_321 rfl ?_
                          refine g_X9_257 (pc := 322) (v := .int (nI k)) rfl dX9_nextToken_322 (c_140 _) (by show some (Value.int (σc.1 14039)) = _; rw [hGc.2.1]) ?_
                          refine R_iconst (pc := 325) (v := 1) dX9_nextToken_325 (by decide) ?_
                          refine R_iadd (pc := 326) dX9_nextToken_326 ?_
                          have r242 : inR ((nI k) + 1) 1 160 := inR_add (show inR (nI k) 0 159 from (show inR (nI k) 0 159 from inR_nI (M := 159) (by omega) (by decide))) (show inR 1 1 1 from (inR_self _)) (by decide) (by decide)
                          have e243 := ti_add (l := 1) (h := 160) (show inR (nI k) 0 159 from (show inR (nI k) 0 159 from inR_nI (M := 159) (by omega) (by decide))) (show inR 1 1 1 from (inR_self _)) (by decide) (by decide)
                          refine p_X9_257 (pc := 327) rfl dX9_nextToken_327 (c_140 _) (Nat.le_of_ble_eq_true rfl) rfl rfl (s_140_39 _ _) ?_
                          have hW244 := cor_si 14039 ((nI k) + 1) hW241 rfl
                          refine R_goto (pc := 330) 241 dX9_nextToken_330 (by decide) ?_
                          have hPk : rowB (f i) (f k) = true := by rw [row_d hD]; have q := h235; rw [hGc.1.2.1, nI_clamp (by omega)] at q; exact inB_t q
                          exact ih241 (k + 1) _ (by omega) (nI_lts (by omega) (by omega) (Int32.not_le.mp b249_230)) (te_s2 hn hTc (nI_lts (by omega) (by omega) (Int32.not_le.mp b249_230)) hPk) ⟨hGc.1, nI_1 k, hGc.2.2.1, dig_s hik, (show (nuF f (min (k - i) 5) i 0) = nuF f (min (k + 1 - i) 5) i 0 from nuT_b (ge_nI (m := 5) rfl (by decide) (by omega) b277_237))⟩ (by omega) hIc hW244
                        · skip
                          refine R_bipush (pc := 280) (v := 10) dX9_nextToken_280 (by decide) ?_
                          refine R_aload_n (pc := 282) dX9_nextToken_282 rfl rfl ?_
                          refine g_X9_266 (pc := 283) (v := .int (nuF f (min (k - i) 5) i 0)) rfl dX9_nextToken_283 (c_140 _) (by show some (Value.int (σc.1 14043)) = _; rw [hGc.2.2.2.2]) ?_
                          refine R_imul (pc := 286) dX9_nextToken_286 ?_
                          refine R_aload_n (pc := 287) dX9_nextToken_287 rfl rfl ?_
                          refine g_X9_108 (pc := 288) (v := .ref 170) rfl dX9_nextToken_288 (c_140 _) rfl ?_
                          refine R_aload_n (pc := 291) dX9_nextToken_291 rfl rfl ?_
                          refine g_X9_257 (pc := 292) (v := .int (nI k)) rfl dX9_nextToken_292 (c_140 _) (by show some (Value.int (σc.1 14039)) = _; rw [hGc.2.1]) ?_
                          have hx245 : vp_in (nI k) 160 := (vp_of_inR (show inR (nI k) 0 159 from inR_nI (M := 159) (by omega) (by decide)) (by decide))
                          refine R_iaload (pc := 295) dX9_nextToken_295 (c_170 _) hx245 ?_
                          refine R_iadd (pc := 296) dX9_nextToken_296 ?_
                          refine R_bipush (pc := 297) (v := 48) dX9_nextToken_297 (by decide) ?_
                          refine R_isub (pc := 299) dX9_nextToken_299 ?_
                          refine R_goto (pc := 300) 307 dX9_nextToken_300 (by decide) ?_
                          refine p_X9_266 (pc := 307) rfl dX9_nextToken_307 (c_140 _) (Nat.le_of_ble_eq_true rfl) rfl rfl (s_140_43 _ _) ?_
                          have hW246 := cor_si 14043 (((10 * (nuF f (min (k - i) 5) i 0)) + (σc.2.2.1 170 (Int32.toNatClampNeg (nI k)))) - 48) hCc rfl
                          refine R_aload_n (pc := 310) dX9_nextToken_310 rfl rfl ?_
                          refine R_dup (pc := 311) dX9_nextToken_311 rfl ?_
                          refine g_X9_263 (pc := 312) (v := .int (nI (k - i))) rfl dX9_nextToken_312 (c_140 _) (by show some (Value.int (σc.1 14042)) = _; rw [hGc.2.2.2.1]) ?_
                          refine R_iconst (pc := 315) (v := 1) dX9_nextToken_315 (by decide) ?_
                          refine R_iadd (pc := 316) dX9_nextToken_316 ?_
                          have r247 : inR ((nI (k - i)) + 1) 1 161 := inR_add (show inR (nI (k - i)) 0 160 from (show inR (nI (k - i)) 0 160 from inR_nI (M := 160) (by omega) (by decide))) (show inR 1 1 1 from (inR_self _)) (by decide) (by decide)
                          have e248 := ti_add (l := 1) (h := 161) (show inR (nI (k - i)) 0 160 from (show inR (nI (k - i)) 0 160 from inR_nI (M := 160) (by omega) (by decide))) (show inR 1 1 1 from (inR_self _)) (by decide) (by decide)
                          refine p_X9_263 (pc := 317) rfl dX9_nextToken_317 (c_140 _) (Nat.le_of_ble_eq_true rfl) rfl rfl (s_140_42 _ _) ?_
                          have hW249 := cor_si 14042 ((nI (k - i)) + 1) hW246 rfl
                          refine R_aload_n (pc := 320) dX9_nextToken_320 rfl rfl ?_
                          refine R_dup (pc := 321) dX9_nextToken_321 rfl ?_
                          refine g_X9_257 (pc := 322) (v := .int (nI k)) rfl dX9_nextToken_322 (c_140 _) (by show some (Value.int (σc.1 14039)) = _; rw [hGc.2.1]) ?_
                          refine R_iconst (pc := 325) (v := 1) dX9_nextToken_325 (by decide) ?_
                          refine R_iadd (pc := 326) dX9_nextToken_326 ?_
                          have r250 : inR ((nI k) + 1) 1 160 := inR_add (show inR (nI k) 0 159 from (show inR (nI k) 0 159 from inR_nI (M := 159) (by omega) (by decide))) (show inR 1 1 1 from (inR_self _)) (by decide) (by decide)
                          have e251 := ti_add (l := 1) (h := 160) (show inR (nI k) 0 159 from (show inR (nI k) 0 159 from inR_nI (M := 159) (by omega) (by decide))) (show inR 1 1 1 from (inR_self _)) (by decide) (by decide)
                          refine p_X9_257 (pc := 327) rfl dX9_nextToken_327 (c_140 _) (Nat.le_of_ble_eq_true rfl) rfl rfl (s_140_39 _ _) ?_
                          have hW252 := cor_si 14039 ((nI k) + 1) hW249 rfl
                          refine R_goto (pc := 330) 241 dX9_nextToken_330 (by decide) ?_
                          have hPk : rowB (f i) (f k) = true := by rw [row_d hD]; have q := h235; rw [hGc.1.2.1, nI_clamp (by omega)] at q; exact inB_t q
                          exact ih241 (k + 1) _ (by omega) (nI_lts (by omega) (by omega) (Int32.not_le.mp b249_230)) (te_s2 hn hTc (nI_lts (by omega) (by omega) (Int32.not_le.mp b249_230)) hPk) ⟨hGc.1, nI_1 k, hGc.2.2.1, dig_s hik, (show (((10 * (nuF f (min (k - i) 5) i 0)) + (σc.2.2.1 170 (Int32.toNatClampNeg (nI k)))) - 48) = nuF f (min (k + 1 - i) 5) i 0 from by rw [hGc.1.2.1, nI_clamp (by omega)]; exact nuT_a hik (lt_nI (m := 5) rfl (by decide) (by omega) b277_237))⟩ (by omega) hIc hW252
                      · skip
                        refine R_ifeq (pc := 268) 333 dX9_nextToken_268 (by decide) (fun _ => ?_) (fun h => absurd (by decide) h)
                        have hke : k = tkE f n i := (te_e (P := (fun k => rowB (f i) (f k))) hTc (Or.inr (by show rowB _ _ = false; rw [row_d hD]; have q := h235; rw [hGc.1.2.1, nI_clamp (by omega)] at q; exact inB_f q)))
                        refine R_aload_n (pc := 333) dX9_nextToken_333 rfl rfl ?_
                        refine R_aload_n (pc := 334) dX9_nextToken_334 rfl rfl ?_
                        refine g_X9_263 (pc := 335) (v := .int (nI (k - i))) rfl dX9_nextToken_335 (c_140 _) (by show some (Value.int (σc.1 14042)) = _; rw [hGc.2.2.2.1]) ?_
                        refine R_iconst (pc := 338) (v := 5) dX9_nextToken_338 (by decide) ?_
                        refine R_icle (pc := 339) 348 dX9_nextToken_339 (by decide) (fun b339_254 => ?_) (fun b339_254 => ?_)
                        · skip
                          refine R_ldc2 (pc := 348) w_1212c dX9_nextToken_348 ?_
                          refine p_X9_271 (pc := 351) rfl dX9_nextToken_351 (c_140 _) (Nat.le_of_ble_eq_true rfl) rfl rfl (s_140_41 _ _) ?_
                          have hW255 := cor_sj 14041 (-1) hCc rfl
                          refine R_goto (pc := 354) 394 dX9_nextToken_354 (by decide) ?_
                          exact R_vret (pc := 394) dX9_nextToken_394 rfl (Nat.zero_le _) (Nat.zero_le _) ⟨rfl, _, rfl, hIc, hW255, hGc.1, mt_of hsk ⟨hGc.2.1.trans (by rw [hke]), hGc.2.2.1, Nat.le_of_lt hlt, tv_dig (k := k) hn hlt hD hke (Or.inr ⟨rfl, le_nI (m := 5) rfl (by decide) (by omega) b339_254⟩) hGc.2.2.2.2⟩⟩
                        · skip
                          refine R_ldc2 (pc := 342) w_1245c dX9_nextToken_342 ?_
                          refine R_goto (pc := 345) 351 dX9_nextToken_345 (by decide) ?_
                          refine p_X9_271 (pc := 351) rfl dX9_nextToken_351 (c_140 _) (Nat.le_of_ble_eq_true rfl) rfl rfl (s_140_41 _ _) ?_
                          have hW256 := cor_sj 14041 (-4) hCc rfl
                          refine R_goto (pc := 354) 394 dX9_nextToken_354 (by decide) ?_
                          exact R_vret (pc := 394) dX9_nextToken_394 rfl (Nat.zero_le _) (Nat.zero_le _) ⟨rfl, _, rfl, hIc, hW256, hGc.1, mt_of hsk ⟨hGc.2.1.trans (by rw [hke]), hGc.2.2.1, Nat.le_of_lt hlt, tv_dig (k := k) hn hlt hD hke (Or.inl ⟨rfl, gt_nI (m := 5) rfl (by decide) (by omega) b339_254⟩) hGc.2.2.2.2⟩⟩
                exact HL241 (160 - i) i _ (by omega) (by omega) (te_st hn hlt hPs) ⟨hGa.1, hGa.2, rfl, (show (0 : Int32) = nI (i - i) by rw [Nat.sub_self]; rfl), nuT_0 f i⟩ (Nat.le_refl _) hIa hW183
              · skip
                refine R_ifeq (pc := 238) 357 dX9_nextToken_238 (by decide) (fun _ => ?_) (fun h => absurd (by decide) h)
                refine R_aload_n (pc := 357) dX9_nextToken_357 rfl rfl ?_
                refine R_aload_n (pc := 358) dX9_nextToken_358 rfl rfl ?_
                refine g_X9_108 (pc := 359) (v := .ref 170) rfl dX9_nextToken_359 (c_140 _) rfl ?_
                refine R_aload_n (pc := 362) dX9_nextToken_362 rfl rfl ?_
                refine g_X9_257 (pc := 363) (v := .int (nI i)) rfl dX9_nextToken_363 (c_140 _) (by show some (Value.int (σa.1 14039)) = _; rw [hGa.2]) ?_
                have hx258 : vp_in (nI i) 160 := (vp_of_inR (show inR (nI i) 0 159 from inR_nI (M := 159) (by omega) (by decide)) (by decide))
                refine W_iaload (pc := 366) (σa.2.2.1 170 (Int32.toNatClampNeg (nI i))) dX9_nextToken_366 (c_170 _) hx258 rfl ?_
                refine R_bipush (pc := 367) (v := 59) dX9_nextToken_367 (by decide) ?_
                refine R_icne (pc := 369) 378 dX9_nextToken_369 (by decide) (fun b369_259 => ?_) (fun b369_259 => ?_)
                · skip
                  refine R_ldc2 (pc := 378) w_1245c dX9_nextToken_378 ?_
                  refine p_X9_271 (pc := 381) rfl dX9_nextToken_381 (c_140 _) (Nat.le_of_ble_eq_true rfl) rfl rfl (s_140_41 _ _) ?_
                  have hW260 := cor_sj 14041 (-4) hW183 rfl
                  refine R_aload_n (pc := 384) dX9_nextToken_384 rfl rfl ?_
                  refine R_dup (pc := 385) dX9_nextToken_385 rfl ?_
                  refine g_X9_257 (pc := 386) (v := .int (nI i)) rfl dX9_nextToken_386 (c_140 _) (by show some (Value.int (σa.1 14039)) = _; rw [hGa.2]) ?_
                  refine R_iconst (pc := 389) (v := 1) dX9_nextToken_389 (by decide) ?_
                  refine R_iadd (pc := 390) dX9_nextToken_390 ?_
                  have r261 : inR ((nI i) + 1) 1 160 := inR_add (show inR (nI i) 0 159 from (show inR (nI i) 0 159 from inR_nI (M := 159) (by omega) (by decide))) (show inR 1 1 1 from (inR_self _)) (by decide) (by decide)
                  have e262 := ti_add (l := 1) (h := 160) (show inR (nI i) 0 159 from (show inR (nI i) 0 159 from inR_nI (M := 159) (by omega) (by decide))) (show inR 1 1 1 from (inR_self _)) (by decide) (by decide)
                  refine p_X9_257 (pc := 391) rfl dX9_nextToken_391 (c_140 _) (Nat.le_of_ble_eq_true rfl) rfl rfl (s_140_39 _ _) ?_
                  have hW263 := cor_si 14039 ((nI i) + 1) hW260 rfl
                  exact R_vret (pc := 394) dX9_nextToken_394 rfl (Nat.zero_le _) (Nat.zero_le _) ⟨rfl, _, rfl, hIa, hW263, hGa.1, mt_of hsk (by have hLf : isL f i = false := (by have q := h186; rw [hGa.1.2.1, nI_clamp (by omega)] at q; exact inB_f q); have hDf : isD f i = false := (by have q := h224; rw [hGa.1.2.1, nI_clamp (by omega)] at q; exact inB_f q); exact ⟨(show nI i + 1 = nI (tkE f n i) from by rw [tk_o hlt hLf hDf, nI_1]), rfl, Nat.le_of_lt hlt, tv_oth hlt hLf hDf (Or.inr ⟨(by have q := b369_259; rw [hGa.1.2.1, nI_clamp (by omega)] at q; exact q), rfl⟩)⟩)⟩
                · skip
                  refine R_ldc2 (pc := 372) w_1246c dX9_nextToken_372 ?_
                  refine R_goto (pc := 375) 381 dX9_nextToken_375 (by decide) ?_
                  refine p_X9_271 (pc := 381) rfl dX9_nextToken_381 (c_140 _) (Nat.le_of_ble_eq_true rfl) rfl rfl (s_140_41 _ _) ?_
                  have hW264 := cor_sj 14041 (-3) hW183 rfl
                  refine R_aload_n (pc := 384) dX9_nextToken_384 rfl rfl ?_
                  refine R_dup (pc := 385) dX9_nextToken_385 rfl ?_
                  refine g_X9_257 (pc := 386) (v := .int (nI i)) rfl dX9_nextToken_386 (c_140 _) (by show some (Value.int (σa.1 14039)) = _; rw [hGa.2]) ?_
                  refine R_iconst (pc := 389) (v := 1) dX9_nextToken_389 (by decide) ?_
                  refine R_iadd (pc := 390) dX9_nextToken_390 ?_
                  have r265 : inR ((nI i) + 1) 1 160 := inR_add (show inR (nI i) 0 159 from (show inR (nI i) 0 159 from inR_nI (M := 159) (by omega) (by decide))) (show inR 1 1 1 from (inR_self _)) (by decide) (by decide)
                  have e266 := ti_add (l := 1) (h := 160) (show inR (nI i) 0 159 from (show inR (nI i) 0 159 from inR_nI (M := 159) (by omega) (by decide))) (show inR 1 1 1 from (inR_self _)) (by decide) (by decide)
                  refine p_X9_257 (pc := 391) rfl dX9_nextToken_391 (c_140 _) (Nat.le_of_ble_eq_true rfl) rfl rfl (s_140_39 _ _) ?_
                  have hW267 := cor_si 14039 ((nI i) + 1) hW264 rfl
                  exact R_vret (pc := 394) dX9_nextToken_394 rfl (Nat.zero_le _) (Nat.zero_le _) ⟨rfl, _, rfl, hIa, hW267, hGa.1, mt_of hsk (by have hLf : isL f i = false := (by have q := h186; rw [hGa.1.2.1, nI_clamp (by omega)] at q; exact inB_f q); have hDf : isD f i = false := (by have q := h224; rw [hGa.1.2.1, nI_clamp (by omega)] at q; exact inB_f q); exact ⟨(show nI i + 1 = nI (tkE f n i) from by rw [tk_o hlt hLf hDf, nI_1]), rfl, Nat.le_of_lt hlt, tv_oth hlt hLf hDf (Or.inl ⟨(by have q := b369_259; rw [hGa.1.2.1, nI_clamp (by omega)] at q; exact q), rfl⟩)⟩)⟩
          · skip
            refine R_aload_n (pc := 67) dX9_nextToken_67 rfl rfl ?_
            refine R_ldc2 (pc := 68) w_1242c dX9_nextToken_68 ?_
            refine p_X9_271 (pc := 71) rfl dX9_nextToken_71 (c_140 _) (Nat.le_of_ble_eq_true rfl) rfl rfl (s_140_41 _ _) ?_
            have hW268 := cor_sj 14041 (-2) hW183 rfl
            refine R_goto (pc := 74) 394 dX9_nextToken_74 (by decide) ?_
            exact R_vret (pc := 394) dX9_nextToken_394 rfl (Nat.zero_le _) (Nat.zero_le _) ⟨rfl, _, rfl, hIa, hW268, hGa.1, mt_of hsk (mt_end (σ := (uJ (uI (uI (uI σa 14040 (nI i)) 14042 0) 14043 0) 14041 (-2))) (nI_eqn (by omega) (by omega) b64_184) hGa.2 rfl rfl)⟩
        · skip
          refine R_aload_n (pc := 25) dX9_nextToken_25 rfl rfl ?_
          refine R_dup (pc := 26) dX9_nextToken_26 rfl ?_
          refine g_X9_257 (pc := 27) (v := .int (nI i)) rfl dX9_nextToken_27 (c_140 _) (by show some (Value.int (σa.1 14039)) = _; rw [hGa.2]) ?_
          refine R_iconst (pc := 30) (v := 1) dX9_nextToken_30 (by decide) ?_
          refine R_iadd (pc := 31) dX9_nextToken_31 ?_
          have r269 : inR ((nI i) + 1) 1 160 := inR_add (show inR (nI i) 0 159 from (show inR (nI i) 0 159 from inR_nI (M := 159) (by omega) (by decide))) (show inR 1 1 1 from (inR_self _)) (by decide) (by decide)
          have e270 := ti_add (l := 1) (h := 160) (show inR (nI i) 0 159 from (show inR (nI i) 0 159 from inR_nI (M := 159) (by omega) (by decide))) (show inR 1 1 1 from (inR_self _)) (by decide) (by decide)
          refine p_X9_257 (pc := 32) rfl dX9_nextToken_32 (c_140 _) (Nat.le_of_ble_eq_true rfl) rfl rfl (s_140_39 _ _) ?_
          have hW271 := cor_si 14039 ((nI i) + 1) hCa rfl
          refine R_goto (pc := 35) 0 dX9_nextToken_35 (by decide) ?_
          exact ih0 (i + 1) _ (by omega) (nI_lts (by omega) (by omega) (Int32.not_le.mp b8_90)) (sk_s2 hn hTa (nI_lts (by omega) (by omega) (Int32.not_le.mp b8_90)) (by have q := b22_180; rw [hGa.1.2.1, nI_clamp (by omega)] at q; exact q)) ⟨hGa.1, nI_1 i⟩ hIa hW271
  exact HL0 (160 - p) p _ (by omega) (by omega) rfl ⟨hQ, hp⟩ hI (show Cor σ σ from Cor.rfl' σ)
