/-! methods on any state that keeps the invariant -/
set_option maxRecDepth 100000 in
set_option maxHeartbeats 40000000 in
theorem ge_X9_isLine {G : vG} {l : Launch} (σ : Sg) (f r : Nat → Int32) (n : Nat) (c : Int32) (p m : Nat)  (hI : Inv σ) (hQ : mQs f r n c σ) (hp : σ.1 14039 = nI p) (hpn : p ≤ n) (hm : m < 8) : Sp G l yX9_isLine cX9_isLine 2 (some .boolean) 3 0 0 [.ref 140, .int (nI (6 * m))] (WW σ) (QI (fun x w2 => ∃ σ2, w2 = WW σ2 ∧ Inv σ2 ∧ Cor σ σ2 ∧ ∃ r2 : Nat → Int32, mQs f r2 n c σ2 ∧ (∀ q : Nat, q < 6 * m ∨ 6 * m + 6 ≤ q → r2 q = r q) ∧ (x = 1 ∧ (∃ p2 : Nat, p2 ≤ n ∧ σ2.1 14039 = nI p2 ∧ lnS f n (sk f n p, -1) = (sk f n p2, -1) ∧ LnC r2 m f n (sk f n p, -1)) ∨ x = 0 ∧ ¬ (lnS f n (sk f n p, -1)).2 = -1 ∧ σ2.1 14044 = (lnS f n (sk f n p, -1)).2))) := by
  refine Sp_of_R [(some (.ref 140)), (some (.int (nI (6 * m))))] [] rfl (by simp) rfl (Nat.le_of_ble_eq_true rfl) ?_
  have hn : n ≤ 160 := hQ.2.2.2.2
  refine R_aload_n (pc := 0) dX9_isLine_0 rfl rfl ?_
  refine R_ldc2 (pc := 1) w_1233c dX9_isLine_1 ?_
  refine k_X9_294 (pc := 4) (ge_X9_isWord _ f r n c p 411 hI hQ hp hpn) rfl (c_140 _) (by decide) (Nat.le_refl _) (Nat.le_refl _) (Nat.le_of_ble_eq_true rfl) dX9_isLine_4 (fun x w2 h => ?_)
  obtain ⟨σx2, rfl, hV1, hW3, hQ4, hM5, hb⟩ := h
  have hW8 := Cor.trans (show Cor σ σ from Cor.rfl' σ) hW3
  rcases hb with ⟨rfl, ht6⟩ | ⟨rfl, ht6, hf7⟩
  · skip
    have hB9 : rdB f n (sk f n p) 0 = true := (hM5.2.2.2.1 0 (by decide)).mp ht6
    have hs10 : (ln1 f n (sk f n p, -1)) = ((sk f n (tkE f n (sk f n p))), -1) := by show rwS f n 0 (sk f n p, -1) = _; exact rw_t (st := ((sk f n p), -1)) rfl hB9
    refine R_ifeq (pc := 7) 73 dX9_isLine_7 (by decide) (fun h => absurd h (by decide)) (fun _ => ?_)
    refine R_aload_n (pc := 10) dX9_isLine_10 rfl rfl ?_
    refine R_iload_n (pc := 11) dX9_isLine_11 rfl rfl ?_
    refine R_iconst (pc := 12) (v := 0) dX9_isLine_12 (by decide) ?_
    refine R_iconst (pc := 13) (v := 4) dX9_isLine_13 (by decide) ?_
    refine k_X9_298 (pc := 14) (ge_X9_isNumber _ f r n c (tkE f n (sk f n p)) (nI (6 * m)) 0 4 hV1 hQ4 hM5.1 (te_p hM5.2.2.1).2.1 (inR_up (show inR (nI (6 * m)) 0 42 from inR_nI (M := 42) (by omega) (by decide)) (by decide) (by decide)) (by decide)) rfl (c_140 _) (by decide) (Nat.le_refl _) (Nat.le_refl _) (Nat.le_of_ble_eq_true rfl) dX9_isLine_14 (fun x w2 h => ?_)
    obtain ⟨σx13, rfl, hV12, hW14, hp16, hb⟩ := h
    have hW19 := Cor.trans hW8 hW14
    rcases hb with ⟨rfl, hB17, hQ15⟩ | ⟨rfl, hB17, hQ15, hf18⟩
    · skip
      have hs20 : (ln2 f n (sk f n p, -1)) = ((sk f n (tkE f n (sk f n (tkE f n (sk f n p))))), -1) := by show rnS f n 0 4 (ln1 f n (sk f n p, -1)) = _; rw [hs10]; exact (rn_t (st := ((sk f n (tkE f n (sk f n p))), -1)) rfl hB17).1
      have hv21 : (lnP f n (sk f n p, -1)) = nu f n (sk f n (tkE f n (sk f n p))) := by show rnV f n 0 4 (ln1 f n (sk f n p, -1)) = _; rw [hs10]; exact (rn_t (st := ((sk f n (tkE f n (sk f n p))), -1)) rfl hB17).2
      have hQ22 : mQs f (upd r (6 * m) (lnP f n (sk f n p, -1))) n c σx13 := by have q := hQ15; rw [(nI_clamp (by omega)), ← hv21] at q; exact q
      refine R_ifeq (pc := 17) 73 dX9_isLine_17 (by decide) (fun h => absurd h (by decide)) (fun _ => ?_)
      refine R_aload_n (pc := 20) dX9_isLine_20 rfl rfl ?_
      refine R_ldc2 (pc := 21) w_1255c dX9_isLine_21 ?_
      refine k_X9_294 (pc := 24) (ge_X9_isWord _ f (upd r (6 * m) (lnP f n (sk f n p, -1))) n c (tkE f n (sk f n (tkE f n (sk f n p)))) 131638 hV12 hQ22 hp16 (te_p (sk_le (te_p hM5.2.2.1).2.1)).2.1) rfl (c_140 _) (by decide) (Nat.le_refl _) (Nat.le_refl _) (Nat.le_of_ble_eq_true rfl) dX9_isLine_24 (fun x w2 h => ?_)
      obtain ⟨σx25, rfl, hV24, hW26, hQ27, hM28, hb⟩ := h
      have hW31 := Cor.trans hW19 hW26
      rcases hb with ⟨rfl, ht29⟩ | ⟨rfl, ht29, hf30⟩
      · skip
        have hB32 : rdB f n (sk f n (tkE f n (sk f n (tkE f n (sk f n p))))) 1 = true := (hM28.2.2.2.1 1 (by decide)).mp ht29
        have hs33 : (ln3 f n (sk f n p, -1)) = ((sk f n (tkE f n (sk f n (tkE f n (sk f n (tkE f n (sk f n p))))))), -1) := by show rwS f n 1 (ln2 f n (sk f n p, -1)) = _; rw [hs20]; exact rw_t (st := ((sk f n (tkE f n (sk f n (tkE f n (sk f n p))))), -1)) rfl hB32
        refine R_ifeq (pc := 27) 73 dX9_isLine_27 (by decide) (fun h => absurd h (by decide)) (fun _ => ?_)
        refine R_aload_n (pc := 30) dX9_isLine_30 rfl rfl ?_
        refine R_iload_n (pc := 31) dX9_isLine_31 rfl rfl ?_
        refine R_iconst (pc := 32) (v := 1) dX9_isLine_32 (by decide) ?_
        refine R_iadd (pc := 33) dX9_isLine_33 ?_
        have r35 : inR ((nI (6 * m)) + 1) 1 43 := inR_add (show inR (nI (6 * m)) 0 42 from (show inR (nI (6 * m)) 0 42 from inR_nI (M := 42) (by omega) (by decide))) (show inR 1 1 1 from (inR_self _)) (by decide) (by decide)
        have e36 := ti_add (l := 1) (h := 43) (show inR (nI (6 * m)) 0 42 from (show inR (nI (6 * m)) 0 42 from inR_nI (M := 42) (by omega) (by decide))) (show inR 1 1 1 from (inR_self _)) (by decide) (by decide)
        refine R_iconst (pc := 34) (v := 1) dX9_isLine_34 (by decide) ?_
        refine R_bipush (pc := 35) (v := 99) dX9_isLine_35 (by decide) ?_
        refine k_X9_298 (pc := 37) (ge_X9_isNumber _ f (upd r (6 * m) (lnP f n (sk f n p, -1))) n c (tkE f n (sk f n (tkE f n (sk f n (tkE f n (sk f n p)))))) ((nI (6 * m)) + 1) 1 99 hV24 hQ27 hM28.1 (te_p hM28.2.2.1).2.1 (inR_up r35 (by decide) (by decide)) (by decide)) rfl (c_140 _) (by decide) (Nat.le_refl _) (Nat.le_refl _) (Nat.le_of_ble_eq_true rfl) dX9_isLine_37 (fun x w2 h => ?_)
        obtain ⟨σx38, rfl, hV37, hW39, hp41, hb⟩ := h
        have hW44 := Cor.trans hW31 hW39
        rcases hb with ⟨rfl, hB42, hQ40⟩ | ⟨rfl, hB42, hQ40, hf43⟩
        · skip
          have hs45 : (ln4 f n (sk f n p, -1)) = ((sk f n (tkE f n (sk f n (tkE f n (sk f n (tkE f n (sk f n (tkE f n (sk f n p))))))))), -1) := by show rnS f n 1 99 (ln3 f n (sk f n p, -1)) = _; rw [hs33]; exact (rn_t (st := ((sk f n (tkE f n (sk f n (tkE f n (sk f n (tkE f n (sk f n p))))))), -1)) rfl hB42).1
          have hv46 : (lnF f n (sk f n p, -1)) = nu f n (sk f n (tkE f n (sk f n (tkE f n (sk f n (tkE f n (sk f n p))))))) := by show rnV f n 1 99 (ln3 f n (sk f n p, -1)) = _; rw [hs33]; exact (rn_t (st := ((sk f n (tkE f n (sk f n (tkE f n (sk f n (tkE f n (sk f n p))))))), -1)) rfl hB42).2
          have hQ47 : mQs f (upd (upd r (6 * m) (lnP f n (sk f n p, -1))) (6 * m + 1) (lnF f n (sk f n p, -1))) n c σx38 := by have q := hQ40; rw [(ixk (s := 6 * m) (i := 1) (X := 1) (by omega) (by decide) rfl), ← hv46] at q; exact q
          refine R_ifeq (pc := 40) 73 dX9_isLine_40 (by decide) (fun h => absurd h (by decide)) (fun _ => ?_)
          refine R_aload_n (pc := 43) dX9_isLine_43 rfl rfl ?_
          refine R_ldc2 (pc := 44) w_1256c dX9_isLine_44 ?_
          refine k_X9_294 (pc := 47) (ge_X9_isWord _ f (upd (upd r (6 * m) (lnP f n (sk f n p, -1))) (6 * m + 1) (lnF f n (sk f n p, -1))) n c (tkE f n (sk f n (tkE f n (sk f n (tkE f n (sk f n (tkE f n (sk f n p)))))))) 555 hV37 hQ47 hp41 (te_p (sk_le (te_p hM28.2.2.1).2.1)).2.1) rfl (c_140 _) (by decide) (Nat.le_refl _) (Nat.le_refl _) (Nat.le_of_ble_eq_true rfl) dX9_isLine_47 (fun x w2 h => ?_)
          obtain ⟨σx50, rfl, hV49, hW51, hQ52, hM53, hb⟩ := h
          have hW56 := Cor.trans hW44 hW51
          rcases hb with ⟨rfl, ht54⟩ | ⟨rfl, ht54, hf55⟩
          · skip
            have hB57 : rdB f n (sk f n (tkE f n (sk f n (tkE f n (sk f n (tkE f n (sk f n (tkE f n (sk f n p))))))))) 2 = true := (hM53.2.2.2.1 2 (by decide)).mp ht54
            have hs58 : (ln5 f n (sk f n p, -1)) = ((sk f n (tkE f n (sk f n (tkE f n (sk f n (tkE f n (sk f n (tkE f n (sk f n (tkE f n (sk f n p))))))))))), -1) := by show rwS f n 2 (ln4 f n (sk f n p, -1)) = _; rw [hs45]; exact rw_t (st := ((sk f n (tkE f n (sk f n (tkE f n (sk f n (tkE f n (sk f n (tkE f n (sk f n p))))))))), -1)) rfl hB57
            refine R_ifeq (pc := 50) 73 dX9_isLine_50 (by decide) (fun h => absurd h (by decide)) (fun _ => ?_)
            refine R_aload_n (pc := 53) dX9_isLine_53 rfl rfl ?_
            refine R_iload_n (pc := 54) dX9_isLine_54 rfl rfl ?_
            refine R_iconst (pc := 55) (v := 2) dX9_isLine_55 (by decide) ?_
            refine R_iadd (pc := 56) dX9_isLine_56 ?_
            have r60 : inR ((nI (6 * m)) + 2) 2 44 := inR_add (show inR (nI (6 * m)) 0 42 from (show inR (nI (6 * m)) 0 42 from inR_nI (M := 42) (by omega) (by decide))) (show inR 2 2 2 from (inR_self _)) (by decide) (by decide)
            have e61 := ti_add (l := 2) (h := 44) (show inR (nI (6 * m)) 0 42 from (show inR (nI (6 * m)) 0 42 from inR_nI (M := 42) (by omega) (by decide))) (show inR 2 2 2 from (inR_self _)) (by decide) (by decide)
            refine R_aload_n (pc := 57) dX9_isLine_57 rfl rfl ?_
            refine g_X9_111 (pc := 58) (v := .ref 171) rfl dX9_isLine_58 (c_140 _) rfl ?_
            refine R_iload_n (pc := 61) dX9_isLine_61 rfl rfl ?_
            refine R_iconst (pc := 62) (v := 1) dX9_isLine_62 (by decide) ?_
            refine R_iadd (pc := 63) dX9_isLine_63 ?_
            have r62 : inR ((nI (6 * m)) + 1) 1 43 := inR_add (show inR (nI (6 * m)) 0 42 from (show inR (nI (6 * m)) 0 42 from inR_nI (M := 42) (by omega) (by decide))) (show inR 1 1 1 from (inR_self _)) (by decide) (by decide)
            have e63 := ti_add (l := 1) (h := 43) (show inR (nI (6 * m)) 0 42 from (show inR (nI (6 * m)) 0 42 from inR_nI (M := 42) (by omega) (by decide))) (show inR 1 1 1 from (inR_self _)) (by decide) (by decide)
            have hx64 : vp_in ((nI (6 * m)) + 1) 48 := (vp_ti (by have q0 := e36; have q1 := e61; have q2 := e63; have q3 := ti_in (show inR (nI (6 * m)) 0 42 from inR_nI (M := 42) (by omega) (by decide)); have q4 := ti_in r62; have q5 := ti_in r60; have z0 : (0 : Int32).toInt = 0 := (by decide); have z1 : (1 : Int32).toInt = 1 := (by decide); have z2 : (2 : Int32).toInt = 2 := (by decide); have z3 : (42 : Int32).toInt = 42 := (by decide); have z4 : (43 : Int32).toInt = 43 := (by decide); have z5 : (44 : Int32).toInt = 44 := (by decide); omega) (by have q0 := e36; have q1 := e61; have q2 := e63; have q3 := ti_in (show inR (nI (6 * m)) 0 42 from inR_nI (M := 42) (by omega) (by decide)); have q4 := ti_in r62; have q5 := ti_in r60; have z0 : (0 : Int32).toInt = 0 := (by decide); have z1 : (1 : Int32).toInt = 1 := (by decide); have z2 : (2 : Int32).toInt = 2 := (by decide); have z3 : (42 : Int32).toInt = 42 := (by decide); have z4 : (43 : Int32).toInt = 43 := (by decide); have z5 : (44 : Int32).toInt = 44 := (by decide); omega))
            refine R_iaload (pc := 64) dX9_isLine_64 (c_171 _) hx64 ?_
            refine R_cv (lnF f n (sk f n p, -1)) (by show (σx50.2.2.1 171 (Int32.toNatClampNeg ((nI (6 * m)) + 1))) = _; rw [hQ52.2.2.1, (ixk (s := 6 * m) (i := 1) (X := 1) (by omega) (by decide) rfl), upd_at]) ?_
            refine R_bipush (pc := 65) (v := 99) dX9_isLine_65 (by decide) ?_
            refine k_X9_298 (pc := 67) (ge_X9_isNumber _ f (upd (upd r (6 * m) (lnP f n (sk f n p, -1))) (6 * m + 1) (lnF f n (sk f n p, -1))) n c (tkE f n (sk f n (tkE f n (sk f n (tkE f n (sk f n (tkE f n (sk f n (tkE f n (sk f n p)))))))))) ((nI (6 * m)) + 2) (lnF f n (sk f n p, -1)) 99 hV49 hQ52 hM53.1 (te_p hM53.2.2.1).2.1 (inR_up r60 (by decide) (by decide)) (by rw [hv46]; exact hlo_of hB42 (by decide))) rfl (c_140 _) (by decide) (Nat.le_refl _) (Nat.le_refl _) (Nat.le_of_ble_eq_true rfl) dX9_isLine_67 (fun x w2 h => ?_)
            obtain ⟨σx66, rfl, hV65, hW67, hp69, hb⟩ := h
            have hW72 := Cor.trans hW56 hW67
            rcases hb with ⟨rfl, hB70, hQ68⟩ | ⟨rfl, hB70, hQ68, hf71⟩
            · skip
              have hs73 : (ln6 f n (sk f n p, -1)) = ((sk f n (tkE f n (sk f n (tkE f n (sk f n (tkE f n (sk f n (tkE f n (sk f n (tkE f n (sk f n (tkE f n (sk f n p))))))))))))), -1) := by show rnS f n (lnF f n (sk f n p, -1)) 99 (ln5 f n (sk f n p, -1)) = _; rw [hs58]; exact (rn_t (st := ((sk f n (tkE f n (sk f n (tkE f n (sk f n (tkE f n (sk f n (tkE f n (sk f n (tkE f n (sk f n p))))))))))), -1)) rfl hB70).1
              have hv74 : (lnU f n (sk f n p, -1)) = nu f n (sk f n (tkE f n (sk f n (tkE f n (sk f n (tkE f n (sk f n (tkE f n (sk f n (tkE f n (sk f n p))))))))))) := by show rnV f n (lnF f n (sk f n p, -1)) 99 (ln5 f n (sk f n p, -1)) = _; rw [hs58]; exact (rn_t (st := ((sk f n (tkE f n (sk f n (tkE f n (sk f n (tkE f n (sk f n (tkE f n (sk f n (tkE f n (sk f n p))))))))))), -1)) rfl hB70).2
              have hQ75 : mQs f (upd (upd (upd r (6 * m) (lnP f n (sk f n p, -1))) (6 * m + 1) (lnF f n (sk f n p, -1))) (6 * m + 2) (lnU f n (sk f n p, -1))) n c σx66 := by have q := hQ68; rw [(ixk (s := 6 * m) (i := 2) (X := 2) (by omega) (by decide) rfl), ← hv74] at q; exact q
              refine R_ifne (pc := 70) 75 dX9_isLine_70 (by decide) (fun _ => ?_) (fun h => absurd h (by decide))
              refine R_aload_n (pc := 75) dX9_isLine_75 rfl rfl ?_
              refine k_X9_285 (pc := 76) (ge_X9_nextToken _ f (upd (upd (upd r (6 * m) (lnP f n (sk f n p, -1))) (6 * m + 1) (lnF f n (sk f n p, -1))) (6 * m + 2) (lnU f n (sk f n p, -1))) n c (tkE f n (sk f n (tkE f n (sk f n (tkE f n (sk f n (tkE f n (sk f n (tkE f n (sk f n (tkE f n (sk f n p)))))))))))) hV65 hQ75 hp69 (te_p (sk_le (te_p hM53.2.2.1).2.1)).2.1) rfl (c_140 _) (by decide) (Nat.le_refl _) (Nat.le_refl _) (Nat.le_of_ble_eq_true rfl) dX9_isLine_76 (fun w2 h => ?_)
              obtain ⟨σx78, rfl, hV77, hW79, hQ80, hM81⟩ := h
              have hW82 := Cor.trans hW72 hW79
              refine R_aload_n (pc := 79) dX9_isLine_79 rfl rfl ?_
              refine g_X9_111 (pc := 80) (v := .ref 171) rfl dX9_isLine_80 (c_140 _) rfl ?_
              refine R_iload_n (pc := 83) dX9_isLine_83 rfl rfl ?_
              refine R_iconst (pc := 84) (v := 3) dX9_isLine_84 (by decide) ?_
              refine R_iadd (pc := 85) dX9_isLine_85 ?_
              have r83 : inR ((nI (6 * m)) + 3) 3 45 := inR_add (show inR (nI (6 * m)) 0 42 from (show inR (nI (6 * m)) 0 42 from inR_nI (M := 42) (by omega) (by decide))) (show inR 3 3 3 from (inR_self _)) (by decide) (by decide)
              have e84 := ti_add (l := 3) (h := 45) (show inR (nI (6 * m)) 0 42 from (show inR (nI (6 * m)) 0 42 from inR_nI (M := 42) (by omega) (by decide))) (show inR 3 3 3 from (inR_self _)) (by decide) (by decide)
              refine R_aload_n (pc := 86) dX9_isLine_86 rfl rfl ?_
              refine g_X9_271 (pc := 87) (v := .long (σx78.2.1 14041)) rfl dX9_isLine_87 (c_140 _) rfl ?_
              refine R_ldc2 (pc := 90) w_1257c dX9_isLine_90 ?_
              refine R_lcmp (pc := 93) dX9_isLine_93 ?_
              refine R_ifne (pc := 94) 101 dX9_isLine_94 (by decide) (fun b94_85 => ?_) (fun b94_85 => ?_)
              · skip
                refine R_iconst (pc := 101) (v := 0) dX9_isLine_101 (by decide) ?_
                have hx86 : vp_in ((nI (6 * m)) + 3) 48 := (vp_ti (by have q0 := e36; have q1 := e61; have q2 := e63; have q3 := e84; have q4 := ti_ne b94_85; have q5 := ti_in (show inR (nI (6 * m)) 0 42 from inR_nI (M := 42) (by omega) (by decide)); have q6 := ti_in r62; have q7 := ti_in r60; have q8 := ti_in r83; have z0 : (0 : Int32).toInt = 0 := (by decide); have z1 : (1 : Int32).toInt = 1 := (by decide); have z2 : (14041 : Int32).toInt = 14041 := (by decide); have z3 : (2 : Int32).toInt = 2 := (by decide); have z4 : (2968 : Int32).toInt = 2968 := (by decide); have z5 : (3 : Int32).toInt = 3 := (by decide); have z6 : (42 : Int32).toInt = 42 := (by decide); have z7 : (43 : Int32).toInt = 43 := (by decide); have z8 : (44 : Int32).toInt = 44 := (by decide); have z9 : (45 : Int32).toInt = 45 := (by decide); omega) (by have q0 := e36; have q1 := e61; have q2 := e63; have q3 := e84; have q4 := ti_ne b94_85; have q5 := ti_in (show inR (nI (6 * m)) 0 42 from inR_nI (M := 42) (by omega) (by decide)); have q6 := ti_in r62; have q7 := ti_in r60; have q8 := ti_in r83; have z0 : (0 : Int32).toInt = 0 := (by decide); have z1 : (1 : Int32).toInt = 1 := (by decide); have z2 : (14041 : Int32).toInt = 14041 := (by decide); have z3 : (2 : Int32).toInt = 2 := (by decide); have z4 : (2968 : Int32).toInt = 2968 := (by decide); have z5 : (3 : Int32).toInt = 3 := (by decide); have z6 : (42 : Int32).toInt = 42 := (by decide); have z7 : (43 : Int32).toInt = 43 := (by decide); have z8 : (44 : Int32).toInt = 44 := (by decide); have z9 : (45 : Int32).toInt = 45 := (by decide); omega))
                refine W_iastore (pc := 102) dX9_isLine_102 (c_171 _) hx86 (a_171 _ _) ?_
                have hW87 := cor_sa 171 (upd (σx78.2.2.1 171) (Int32.toNatClampNeg ((nI (6 * m)) + 3)) 0) hW82 rfl
                refine R_aload_n (pc := 103) dX9_isLine_103 rfl rfl ?_
                refine g_X9_111 (pc := 104) (v := .ref 171) rfl dX9_isLine_104 (c_140 _) rfl ?_
                refine R_iload_n (pc := 107) dX9_isLine_107 rfl rfl ?_
                refine R_iconst (pc := 108) (v := 5) dX9_isLine_108 (by decide) ?_
                refine R_iadd (pc := 109) dX9_isLine_109 ?_
                have r88 : inR ((nI (6 * m)) + 5) 5 47 := inR_add (show inR (nI (6 * m)) 0 42 from (show inR (nI (6 * m)) 0 42 from inR_nI (M := 42) (by omega) (by decide))) (show inR 5 5 5 from (inR_self _)) (by decide) (by decide)
                have e89 := ti_add (l := 5) (h := 47) (show inR (nI (6 * m)) 0 42 from (show inR (nI (6 * m)) 0 42 from inR_nI (M := 42) (by omega) (by decide))) (show inR 5 5 5 from (inR_self _)) (by decide) (by decide)
                refine R_iconst (pc := 110) (v := 0) dX9_isLine_110 (by decide) ?_
                have hx90 : vp_in ((nI (6 * m)) + 5) 48 := (vp_ti (by have q0 := e36; have q1 := e61; have q2 := e63; have q3 := e84; have q4 := e89; have q5 := ti_ne b94_85; have q6 := ti_in (show inR (nI (6 * m)) 0 42 from inR_nI (M := 42) (by omega) (by decide)); have q7 := ti_in r62; have q8 := ti_in r60; have q9 := ti_in r83; have q10 := ti_in r88; have z0 : (0 : Int32).toInt = 0 := (by decide); have z1 : (1 : Int32).toInt = 1 := (by decide); have z2 : (14041 : Int32).toInt = 14041 := (by decide); have z3 : (2 : Int32).toInt = 2 := (by decide); have z4 : (2968 : Int32).toInt = 2968 := (by decide); have z5 : (3 : Int32).toInt = 3 := (by decide); have z6 : (42 : Int32).toInt = 42 := (by decide); have z7 : (43 : Int32).toInt = 43 := (by decide); have z8 : (44 : Int32).toInt = 44 := (by decide); have z9 : (45 : Int32).toInt = 45 := (by decide); have z10 : (47 : Int32).toInt = 47 := (by decide); have z11 : (5 : Int32).toInt = 5 := (by decide); omega) (by have q0 := e36; have q1 := e61; have q2 := e63; have q3 := e84; have q4 := e89; have q5 := ti_ne b94_85; have q6 := ti_in (show inR (nI (6 * m)) 0 42 from inR_nI (M := 42) (by omega) (by decide)); have q7 := ti_in r62; have q8 := ti_in r60; have q9 := ti_in r83; have q10 := ti_in r88; have z0 : (0 : Int32).toInt = 0 := (by decide); have z1 : (1 : Int32).toInt = 1 := (by decide); have z2 : (14041 : Int32).toInt = 14041 := (by decide); have z3 : (2 : Int32).toInt = 2 := (by decide); have z4 : (2968 : Int32).toInt = 2968 := (by decide); have z5 : (3 : Int32).toInt = 3 := (by decide); have z6 : (42 : Int32).toInt = 42 := (by decide); have z7 : (43 : Int32).toInt = 43 := (by decide); have z8 : (44 : Int32).toInt = 44 := (by decide); have z9 : (45 : Int32).toInt = 45 := (by decide); have z10 : (47 : Int32).toInt = 47 := (by decide); have z11 : (5 : Int32).toInt = 5 := (by decide); omega))
                refine W_iastore (pc := 111) dX9_isLine_111 (c_171 _) hx90 (a_171 _ _) ?_
                have hW91 := cor_sa 171 (upd ((uA σx78 171 (upd (σx78.2.2.1 171) (Int32.toNatClampNeg ((nI (6 * m)) + 3)) 0)).2.2.1 171) (Int32.toNatClampNeg ((nI (6 * m)) + 5)) 0) hW87 rfl
                have hQ92 : mQs f (upd (upd (upd (upd (upd r (6 * m) (lnP f n (sk f n p, -1))) (6 * m + 1) (lnF f n (sk f n p, -1))) (6 * m + 2) (lnU f n (sk f n p, -1))) (6 * m + 3) 0) (6 * m + 5) 0) n c (uA (uA σx78 171 (upd (σx78.2.2.1 171) (Int32.toNatClampNeg ((nI (6 * m)) + 3)) 0)) 171 (upd ((uA σx78 171 (upd (σx78.2.2.1 171) (Int32.toNatClampNeg ((nI (6 * m)) + 3)) 0)).2.2.1 171) (Int32.toNatClampNeg ((nI (6 * m)) + 5)) 0)) := mq_a (mq_a hQ80 (ixk (s := 6 * m) (i := 3) (X := 3) (by omega) (by decide) rfl) rfl) (ixk (s := 6 * m) (i := 5) (X := 5) (by omega) (by decide) rfl) rfl
                have hd93 : rdB f n (sk f n (tkE f n (sk f n (tkE f n (sk f n (tkE f n (sk f n (tkE f n (sk f n (tkE f n (sk f n (tkE f n (sk f n p))))))))))))) 3 = false := rdB_of (hM81.2.2.2.1 3 (by decide)) (fun e => b94_85 (lcz.mpr e))
                have hd94 : rdB f n (ln6 f n (sk f n p, -1)).1 3 = false := by rw [hs73]; exact hd93
                refine R_aload_n (pc := 112) dX9_isLine_112 rfl rfl ?_
                refine g_X9_271 (pc := 113) (v := .long (σx78.2.1 14041)) rfl dX9_isLine_113 (c_140 _) rfl ?_
                refine R_ldc2 (pc := 116) w_1258c dX9_isLine_116 ?_
                refine R_lcmp (pc := 119) dX9_isLine_119 ?_
                refine R_ifne (pc := 120) 133 dX9_isLine_120 (by decide) (fun b120_95 => ?_) (fun b120_95 => ?_)
                · skip
                  refine R_aload_n (pc := 133) dX9_isLine_133 rfl rfl ?_
                  refine g_X9_271 (pc := 134) (v := .long (σx78.2.1 14041)) rfl dX9_isLine_134 (c_140 _) rfl ?_
                  refine R_ldc2 (pc := 137) w_1257c dX9_isLine_137 ?_
                  refine R_lcmp (pc := 140) dX9_isLine_140 ?_
                  refine R_ifne (pc := 141) 197 dX9_isLine_141 (by decide) (fun _ => ?_) (fun h => absurd h b94_85)
                  have hB97 : rdB f n (sk f n (tkE f n (sk f n (tkE f n (sk f n (tkE f n (sk f n (tkE f n (sk f n (tkE f n (sk f n (tkE f n (sk f n p))))))))))))) 4 = false := rdB_of (hM81.2.2.2.1 4 (by decide)) (fun e => b120_95 (lcz.mpr e))
                  have hs98 : (lnB7 f n (sk f n p, -1)) = ((sk f n (tkE f n (sk f n (tkE f n (sk f n (tkE f n (sk f n (tkE f n (sk f n (tkE f n (sk f n (tkE f n (sk f n p))))))))))))), nI (sk f n (tkE f n (sk f n (tkE f n (sk f n (tkE f n (sk f n (tkE f n (sk f n (tkE f n (sk f n (tkE f n (sk f n p)))))))))))))) := by show rwS f n 4 (ln6 f n (sk f n p, -1)) = _; rw [hs73]; exact (rw_f2 (st := ((sk f n (tkE f n (sk f n (tkE f n (sk f n (tkE f n (sk f n (tkE f n (sk f n (tkE f n (sk f n (tkE f n (sk f n p))))))))))))), -1)) hB97).trans (fw_1 _)
                  refine R_aload_n (pc := 197) dX9_isLine_197 rfl rfl ?_
                  refine k_X9_288 (pc := 198) (ge_X9_fails _ hV77) rfl (c_140 _) (by decide) (Nat.le_refl _) (Nat.le_refl _) (Nat.le_of_ble_eq_true rfl) dX9_isLine_198 (fun x w2 h => ?_)
                  obtain ⟨rfl, _, rfl, hV99, hW100, rfl⟩ := h
                  have hW101 := Cor.trans hW91 hW100
                  exact R_iret (pc := 201) dX9_isLine_201 rfl rfl (Nat.zero_le _) (Nat.zero_le _) ⟨_, rfl, _, rfl, hV99, hW101, _, (mq_f hQ92), (fun q hq => by rw [upd_ne _ (by omega), upd_ne _ (by omega), upd_ne _ (by omega), upd_ne _ (by omega), upd_ne _ (by omega)]), Or.inr ⟨rfl, (by rw [lx_B7 hd94 hs98 (nI_ne1 (Nat.le_trans (sk_le (te_p (sk_le (te_p hM53.2.2.1).2.1)).2.1) hn))]; exact (nI_ne1 (Nat.le_trans (sk_le (te_p (sk_le (te_p hM53.2.2.1).2.1)).2.1) hn))), (by rw [lx_B7 hd94 hs98 (nI_ne1 (Nat.le_trans (sk_le (te_p (sk_le (te_p hM53.2.2.1).2.1)).2.1) hn))]; exact hM81.2.1)⟩⟩
                · skip
                  have hB103 : rdB f n (sk f n (tkE f n (sk f n (tkE f n (sk f n (tkE f n (sk f n (tkE f n (sk f n (tkE f n (sk f n (tkE f n (sk f n p))))))))))))) 4 = true := (hM81.2.2.2.1 4 (by decide)).mp (lcz.mp b120_95)
                  have hs104 : (lnB7 f n (sk f n p, -1)) = ((sk f n (tkE f n (sk f n (tkE f n (sk f n (tkE f n (sk f n (tkE f n (sk f n (tkE f n (sk f n (tkE f n (sk f n (tkE f n (sk f n p))))))))))))))), -1) := by show rwS f n 4 (ln6 f n (sk f n p, -1)) = _; rw [hs73]; exact rw_t (st := ((sk f n (tkE f n (sk f n (tkE f n (sk f n (tkE f n (sk f n (tkE f n (sk f n (tkE f n (sk f n (tkE f n (sk f n p))))))))))))), -1)) rfl hB103
                  refine R_aload_n (pc := 123) dX9_isLine_123 rfl rfl ?_
                  refine R_iload_n (pc := 124) dX9_isLine_124 rfl rfl ?_
                  refine R_iconst (pc := 125) (v := 4) dX9_isLine_125 (by decide) ?_
                  refine R_iadd (pc := 126) dX9_isLine_126 ?_
                  have r105 : inR ((nI (6 * m)) + 4) 4 46 := inR_add (show inR (nI (6 * m)) 0 42 from (show inR (nI (6 * m)) 0 42 from inR_nI (M := 42) (by omega) (by decide))) (show inR 4 4 4 from (inR_self _)) (by decide) (by decide)
                  have e106 := ti_add (l := 4) (h := 46) (show inR (nI (6 * m)) 0 42 from (show inR (nI (6 * m)) 0 42 from inR_nI (M := 42) (by omega) (by decide))) (show inR 4 4 4 from (inR_self _)) (by decide) (by decide)
                  refine R_iconst (pc := 127) (v := 0) dX9_isLine_127 (by decide) ?_
                  refine R_iconst (pc := 128) (v := 4) dX9_isLine_128 (by decide) ?_
                  refine k_X9_298 (pc := 129) (ge_X9_isNumber _ f (upd (upd (upd (upd (upd r (6 * m) (lnP f n (sk f n p, -1))) (6 * m + 1) (lnF f n (sk f n p, -1))) (6 * m + 2) (lnU f n (sk f n p, -1))) (6 * m + 3) 0) (6 * m + 5) 0) n c (tkE f n (sk f n (tkE f n (sk f n (tkE f n (sk f n (tkE f n (sk f n (tkE f n (sk f n (tkE f n (sk f n (tkE f n (sk f n p)))))))))))))) ((nI (6 * m)) + 4) 0 4 hV77 hQ92 (show (uA (uA σx78 171 (upd (σx78.2.2.1 171) (Int32.toNatClampNeg ((nI (6 * m)) + 3)) 0)) 171 (upd ((uA σx78 171 (upd (σx78.2.2.1 171) (Int32.toNatClampNeg ((nI (6 * m)) + 3)) 0)).2.2.1 171) (Int32.toNatClampNeg ((nI (6 * m)) + 5)) 0)).1 14039 = nI (tkE f n (sk f n (tkE f n (sk f n (tkE f n (sk f n (tkE f n (sk f n (tkE f n (sk f n (tkE f n (sk f n (tkE f n (sk f n p)))))))))))))) from hM81.1) (te_p hM81.2.2.1).2.1 (inR_up r105 (by decide) (by decide)) (by decide)) rfl (c_140 _) (by decide) (Nat.le_refl _) (Nat.le_refl _) (Nat.le_of_ble_eq_true rfl) dX9_isLine_129 (fun x w2 h => ?_)
                  obtain ⟨σx108, rfl, hV107, hW109, hp111, hb⟩ := h
                  have hW114 := Cor.trans hW91 hW109
                  rcases hb with ⟨rfl, hB112, hQ110⟩ | ⟨rfl, hB112, hQ110, hf113⟩
                  · skip
                    have hs115 : (lnB8 f n (sk f n p, -1)) = ((sk f n (tkE f n (sk f n (tkE f n (sk f n (tkE f n (sk f n (tkE f n (sk f n (tkE f n (sk f n (tkE f n (sk f n (tkE f n (sk f n (tkE f n (sk f n p))))))))))))))))), -1) := by show rnS f n 0 4 (lnB7 f n (sk f n p, -1)) = _; rw [hs104]; exact (rn_t (st := ((sk f n (tkE f n (sk f n (tkE f n (sk f n (tkE f n (sk f n (tkE f n (sk f n (tkE f n (sk f n (tkE f n (sk f n (tkE f n (sk f n p))))))))))))))), -1)) rfl hB112).1
                    have hv116 : (lnQ f n (sk f n p, -1)) = nu f n (sk f n (tkE f n (sk f n (tkE f n (sk f n (tkE f n (sk f n (tkE f n (sk f n (tkE f n (sk f n (tkE f n (sk f n (tkE f n (sk f n p))))))))))))))) := by show rnV f n 0 4 (lnB7 f n (sk f n p, -1)) = _; rw [hs104]; exact (rn_t (st := ((sk f n (tkE f n (sk f n (tkE f n (sk f n (tkE f n (sk f n (tkE f n (sk f n (tkE f n (sk f n (tkE f n (sk f n (tkE f n (sk f n p))))))))))))))), -1)) rfl hB112).2
                    have hQ117 : mQs f (upd (upd (upd (upd (upd (upd r (6 * m) (lnP f n (sk f n p, -1))) (6 * m + 1) (lnF f n (sk f n p, -1))) (6 * m + 2) (lnU f n (sk f n p, -1))) (6 * m + 3) 0) (6 * m + 5) 0) (6 * m + 4) (lnQ f n (sk f n p, -1))) n c σx108 := by have q := hQ110; rw [(ixk (s := 6 * m) (i := 4) (X := 4) (by omega) (by decide) rfl), ← hv116] at q; exact q
                    exact R_iret (pc := 132) dX9_isLine_132 rfl rfl (Nat.zero_le _) (Nat.zero_le _) ⟨_, rfl, _, rfl, hV107, hW114, _, hQ117, (fun q hq => by rw [upd_ne _ (by omega), upd_ne _ (by omega), upd_ne _ (by omega), upd_ne _ (by omega), upd_ne _ (by omega), upd_ne _ (by omega)]), Or.inl ⟨rfl, _, (te_p (sk_le (te_p hM81.2.2.1).2.1)).2.1, hp111, lx_B8 hd94 hs115, (by rw [upd_ne _ (by omega), upd_ne _ (by omega), upd_ne _ (by omega), upd_ne _ (by omega), upd_ne _ (by omega), upd_at]), (by rw [upd_ne _ (by omega), upd_ne _ (by omega), upd_ne _ (by omega), upd_ne _ (by omega), upd_at]), (by rw [upd_ne _ (by omega), upd_ne _ (by omega), upd_ne _ (by omega), upd_at]), Or.inr ⟨hd94, (by rw [upd_ne _ (by omega), upd_ne _ (by omega), upd_at]), (by rw [upd_at])⟩⟩⟩
                  · skip
                    have hs118 : (lnB8 f n (sk f n p, -1)) = ((sk f n (tkE f n (sk f n (tkE f n (sk f n (tkE f n (sk f n (tkE f n (sk f n (tkE f n (sk f n (tkE f n (sk f n (tkE f n (sk f n p))))))))))))))), nI (sk f n (tkE f n (sk f n (tkE f n (sk f n (tkE f n (sk f n (tkE f n (sk f n (tkE f n (sk f n (tkE f n (sk f n (tkE f n (sk f n p)))))))))))))))) := by show rnS f n 0 4 (lnB7 f n (sk f n p, -1)) = _; rw [hs104]; exact (rn_f2 (st := ((sk f n (tkE f n (sk f n (tkE f n (sk f n (tkE f n (sk f n (tkE f n (sk f n (tkE f n (sk f n (tkE f n (sk f n (tkE f n (sk f n p))))))))))))))), -1)) hB112).1.trans (fw_1 _)
                    exact R_iret (pc := 132) dX9_isLine_132 rfl rfl (Nat.zero_le _) (Nat.zero_le _) ⟨_, rfl, _, rfl, hV107, hW114, _, hQ110, (fun q hq => by rw [upd_ne _ (by omega), upd_ne _ (by omega), upd_ne _ (by omega), upd_ne _ (by omega), upd_ne _ (by omega)]), Or.inr ⟨rfl, (by rw [lx_B8 hd94 hs118]; exact (nI_ne1 (Nat.le_trans (sk_le (te_p hM81.2.2.1).2.1) hn))), (by rw [lx_B8 hd94 hs118]; exact hf113)⟩⟩
              · skip
                refine R_iconst (pc := 97) (v := 1) dX9_isLine_97 (by decide) ?_
                refine R_goto (pc := 98) 102 dX9_isLine_98 (by decide) ?_
                have hx120 : vp_in ((nI (6 * m)) + 3) 48 := (vp_ti (by have q0 := e36; have q1 := e61; have q2 := e63; have q3 := e84; have q4 := ti_eq b94_85; have q5 := ti_in (show inR (nI (6 * m)) 0 42 from inR_nI (M := 42) (by omega) (by decide)); have q6 := ti_in r62; have q7 := ti_in r60; have q8 := ti_in r83; have z0 : (0 : Int32).toInt = 0 := (by decide); have z1 : (1 : Int32).toInt = 1 := (by decide); have z2 : (14041 : Int32).toInt = 14041 := (by decide); have z3 : (2 : Int32).toInt = 2 := (by decide); have z4 : (2968 : Int32).toInt = 2968 := (by decide); have z5 : (3 : Int32).toInt = 3 := (by decide); have z6 : (42 : Int32).toInt = 42 := (by decide); have z7 : (43 : Int32).toInt = 43 := (by decide); have z8 : (44 : Int32).toInt = 44 := (by decide); have z9 : (45 : Int32).toInt = 45 := (by decide); omega) (by have q0 := e36; have q1 := e61; have q2 := e63; have q3 := e84; have q4 := ti_eq b94_85; have q5 := ti_in (show inR (nI (6 * m)) 0 42 from inR_nI (M := 42) (by omega) (by decide)); have q6 := ti_in r62; have q7 := ti_in r60; have q8 := ti_in r83; have z0 : (0 : Int32).toInt = 0 := (by decide); have z1 : (1 : Int32).toInt = 1 := (by decide); have z2 : (14041 : Int32).toInt = 14041 := (by decide); have z3 : (2 : Int32).toInt = 2 := (by decide); have z4 : (2968 : Int32).toInt = 2968 := (by decide); have z5 : (3 : Int32).toInt = 3 := (by decide); have z6 : (42 : Int32).toInt = 42 := (by decide); have z7 : (43 : Int32).toInt = 43 := (by decide); have z8 : (44 : Int32).toInt = 44 := (by decide); have z9 : (45 : Int32).toInt = 45 := (by decide); omega))
                refine W_iastore (pc := 102) dX9_isLine_102 (c_171 _) hx120 (a_171 _ _) ?_
                have hW121 := cor_sa 171 (upd (σx78.2.2.1 171) (Int32.toNatClampNeg ((nI (6 * m)) + 3)) 1) hW82 rfl
                refine R_aload_n (pc := 103) dX9_isLine_103 rfl rfl ?_
                refine g_X9_111 (pc := 104) (v := .ref 171) rfl dX9_isLine_104 (c_140 _) rfl ?_
                refine R_iload_n (pc := 107) dX9_isLine_107 rfl rfl ?_
                refine R_iconst (pc := 108) (v := 5) dX9_isLine_108 (by decide) ?_
                refine R_iadd (pc := 109) dX9_isLine_109 ?_
                have r122 : inR ((nI (6 * m)) + 5) 5 47 := inR_add (show inR (nI (6 * m)) 0 42 from (show inR (nI (6 * m)) 0 42 from inR_nI (M := 42) (by omega) (by decide))) (show inR 5 5 5 from (inR_self _)) (by decide) (by decide)
                have e123 := ti_add (l := 5) (h := 47) (show inR (nI (6 * m)) 0 42 from (show inR (nI (6 * m)) 0 42 from inR_nI (M := 42) (by omega) (by decide))) (show inR 5 5 5 from (inR_self _)) (by decide) (by decide)
                refine R_iconst (pc := 110) (v := 0) dX9_isLine_110 (by decide) ?_
                have hx124 : vp_in ((nI (6 * m)) + 5) 48 := (vp_ti (by have q0 := e36; have q1 := e61; have q2 := e63; have q3 := e84; have q4 := e123; have q5 := ti_eq b94_85; have q6 := ti_in (show inR (nI (6 * m)) 0 42 from inR_nI (M := 42) (by omega) (by decide)); have q7 := ti_in r62; have q8 := ti_in r60; have q9 := ti_in r83; have q10 := ti_in r122; have z0 : (0 : Int32).toInt = 0 := (by decide); have z1 : (1 : Int32).toInt = 1 := (by decide); have z2 : (14041 : Int32).toInt = 14041 := (by decide); have z3 : (2 : Int32).toInt = 2 := (by decide); have z4 : (2968 : Int32).toInt = 2968 := (by decide); have z5 : (3 : Int32).toInt = 3 := (by decide); have z6 : (42 : Int32).toInt = 42 := (by decide); have z7 : (43 : Int32).toInt = 43 := (by decide); have z8 : (44 : Int32).toInt = 44 := (by decide); have z9 : (45 : Int32).toInt = 45 := (by decide); have z10 : (47 : Int32).toInt = 47 := (by decide); have z11 : (5 : Int32).toInt = 5 := (by decide); omega) (by have q0 := e36; have q1 := e61; have q2 := e63; have q3 := e84; have q4 := e123; have q5 := ti_eq b94_85; have q6 := ti_in (show inR (nI (6 * m)) 0 42 from inR_nI (M := 42) (by omega) (by decide)); have q7 := ti_in r62; have q8 := ti_in r60; have q9 := ti_in r83; have q10 := ti_in r122; have z0 : (0 : Int32).toInt = 0 := (by decide); have z1 : (1 : Int32).toInt = 1 := (by decide); have z2 : (14041 : Int32).toInt = 14041 := (by decide); have z3 : (2 : Int32).toInt = 2 := (by decide); have z4 : (2968 : Int32).toInt = 2968 := (by decide); have z5 : (3 : Int32).toInt = 3 := (by decide); have z6 : (42 : Int32).toInt = 42 := (by decide); have z7 : (43 : Int32).toInt = 43 := (by decide); have z8 : (44 : Int32).toInt = 44 := (by decide); have z9 : (45 : Int32).toInt = 45 := (by decide); have z10 : (47 : Int32).toInt = 47 := (by decide); have z11 : (5 : Int32).toInt = 5 := (by decide); omega))
                refine W_iastore (pc := 111) dX9_isLine_111 (c_171 _) hx124 (a_171 _ _) ?_
                have hW125 := cor_sa 171 (upd ((uA σx78 171 (upd (σx78.2.2.1 171) (Int32.toNatClampNeg ((nI (6 * m)) + 3)) 1)).2.2.1 171) (Int32.toNatClampNeg ((nI (6 * m)) + 5)) 0) hW121 rfl
                have hQ126 : mQs f (upd (upd (upd (upd (upd r (6 * m) (lnP f n (sk f n p, -1))) (6 * m + 1) (lnF f n (sk f n p, -1))) (6 * m + 2) (lnU f n (sk f n p, -1))) (6 * m + 3) 1) (6 * m + 5) 0) n c (uA (uA σx78 171 (upd (σx78.2.2.1 171) (Int32.toNatClampNeg ((nI (6 * m)) + 3)) 1)) 171 (upd ((uA σx78 171 (upd (σx78.2.2.1 171) (Int32.toNatClampNeg ((nI (6 * m)) + 3)) 1)).2.2.1 171) (Int32.toNatClampNeg ((nI (6 * m)) + 5)) 0)) := mq_a (mq_a hQ80 (ixk (s := 6 * m) (i := 3) (X := 3) (by omega) (by decide) rfl) rfl) (ixk (s := 6 * m) (i := 5) (X := 5) (by omega) (by decide) rfl) rfl
                have hd127 : rdB f n (sk f n (tkE f n (sk f n (tkE f n (sk f n (tkE f n (sk f n (tkE f n (sk f n (tkE f n (sk f n (tkE f n (sk f n p))))))))))))) 3 = true := (hM81.2.2.2.1 3 (by decide)).mp (lcz.mp b94_85)
                have hd128 : rdB f n (ln6 f n (sk f n p, -1)).1 3 = true := by rw [hs73]; exact hd127
                refine R_aload_n (pc := 112) dX9_isLine_112 rfl rfl ?_
                refine g_X9_271 (pc := 113) (v := .long (σx78.2.1 14041)) rfl dX9_isLine_113 (c_140 _) rfl ?_
                refine R_ldc2 (pc := 116) w_1258c dX9_isLine_116 ?_
                refine R_lcmp (pc := 119) dX9_isLine_119 ?_
                refine R_ifne (pc := 120) 133 dX9_isLine_120 (by decide) (fun b120_129 => ?_) (fun b120_129 => ?_)
                · skip
                  refine R_aload_n (pc := 133) dX9_isLine_133 rfl rfl ?_
                  refine g_X9_271 (pc := 134) (v := .long (σx78.2.1 14041)) rfl dX9_isLine_134 (c_140 _) rfl ?_
                  refine R_ldc2 (pc := 137) w_1257c dX9_isLine_137 ?_
                  refine R_lcmp (pc := 140) dX9_isLine_140 ?_
                  refine R_ifne (pc := 141) 197 dX9_isLine_141 (by decide) (fun h => absurd b94_85 h) (fun _ => ?_)
                  have hs131 : (lnD7 f n (sk f n p, -1)) = ((sk f n (tkE f n (sk f n (tkE f n (sk f n (tkE f n (sk f n (tkE f n (sk f n (tkE f n (sk f n (tkE f n (sk f n (tkE f n (sk f n p))))))))))))))), -1) := by show rwS f n 3 (ln6 f n (sk f n p, -1)) = _; rw [hs73]; exact rw_t (st := ((sk f n (tkE f n (sk f n (tkE f n (sk f n (tkE f n (sk f n (tkE f n (sk f n (tkE f n (sk f n (tkE f n (sk f n p))))))))))))), -1)) rfl hd127
                  refine R_aload_n (pc := 144) dX9_isLine_144 rfl rfl ?_
                  refine R_iload_n (pc := 145) dX9_isLine_145 rfl rfl ?_
                  refine R_iconst (pc := 146) (v := 4) dX9_isLine_146 (by decide) ?_
                  refine R_iadd (pc := 147) dX9_isLine_147 ?_
                  have r132 : inR ((nI (6 * m)) + 4) 4 46 := inR_add (show inR (nI (6 * m)) 0 42 from (show inR (nI (6 * m)) 0 42 from inR_nI (M := 42) (by omega) (by decide))) (show inR 4 4 4 from (inR_self _)) (by decide) (by decide)
                  have e133 := ti_add (l := 4) (h := 46) (show inR (nI (6 * m)) 0 42 from (show inR (nI (6 * m)) 0 42 from inR_nI (M := 42) (by omega) (by decide))) (show inR 4 4 4 from (inR_self _)) (by decide) (by decide)
                  refine R_iconst (pc := 148) (v := 0) dX9_isLine_148 (by decide) ?_
                  refine R_sipush (pc := 149) (v := 20000) dX9_isLine_149 (by decide) ?_
                  refine k_X9_298 (pc := 152) (ge_X9_isNumber _ f (upd (upd (upd (upd (upd r (6 * m) (lnP f n (sk f n p, -1))) (6 * m + 1) (lnF f n (sk f n p, -1))) (6 * m + 2) (lnU f n (sk f n p, -1))) (6 * m + 3) 1) (6 * m + 5) 0) n c (tkE f n (sk f n (tkE f n (sk f n (tkE f n (sk f n (tkE f n (sk f n (tkE f n (sk f n (tkE f n (sk f n (tkE f n (sk f n p)))))))))))))) ((nI (6 * m)) + 4) 0 20000 hV77 hQ126 (show (uA (uA σx78 171 (upd (σx78.2.2.1 171) (Int32.toNatClampNeg ((nI (6 * m)) + 3)) 1)) 171 (upd ((uA σx78 171 (upd (σx78.2.2.1 171) (Int32.toNatClampNeg ((nI (6 * m)) + 3)) 1)).2.2.1 171) (Int32.toNatClampNeg ((nI (6 * m)) + 5)) 0)).1 14039 = nI (tkE f n (sk f n (tkE f n (sk f n (tkE f n (sk f n (tkE f n (sk f n (tkE f n (sk f n (tkE f n (sk f n (tkE f n (sk f n p)))))))))))))) from hM81.1) (te_p hM81.2.2.1).2.1 (inR_up r132 (by decide) (by decide)) (by decide)) rfl (c_140 _) (by decide) (Nat.le_refl _) (Nat.le_refl _) (Nat.le_of_ble_eq_true rfl) dX9_isLine_152 (fun x w2 h => ?_)
                  obtain ⟨σx135, rfl, hV134, hW136, hp138, hb⟩ := h
                  have hW141 := Cor.trans hW125 hW136
                  rcases hb with ⟨rfl, hB139, hQ137⟩ | ⟨rfl, hB139, hQ137, hf140⟩
                  · skip
                    have hs142 : (lnD8 f n (sk f n p, -1)) = ((sk f n (tkE f n (sk f n (tkE f n (sk f n (tkE f n (sk f n (tkE f n (sk f n (tkE f n (sk f n (tkE f n (sk f n (tkE f n (sk f n (tkE f n (sk f n p))))))))))))))))), -1) := by show rnS f n 0 20000 (lnD7 f n (sk f n p, -1)) = _; rw [hs131]; exact (rn_t (st := ((sk f n (tkE f n (sk f n (tkE f n (sk f n (tkE f n (sk f n (tkE f n (sk f n (tkE f n (sk f n (tkE f n (sk f n (tkE f n (sk f n p))))))))))))))), -1)) rfl hB139).1
                    have hv143 : (lnL f n (sk f n p, -1)) = nu f n (sk f n (tkE f n (sk f n (tkE f n (sk f n (tkE f n (sk f n (tkE f n (sk f n (tkE f n (sk f n (tkE f n (sk f n (tkE f n (sk f n p))))))))))))))) := by show rnV f n 0 20000 (lnD7 f n (sk f n p, -1)) = _; rw [hs131]; exact (rn_t (st := ((sk f n (tkE f n (sk f n (tkE f n (sk f n (tkE f n (sk f n (tkE f n (sk f n (tkE f n (sk f n (tkE f n (sk f n (tkE f n (sk f n p))))))))))))))), -1)) rfl hB139).2
                    have hQ144 : mQs f (upd (upd (upd (upd (upd (upd r (6 * m) (lnP f n (sk f n p, -1))) (6 * m + 1) (lnF f n (sk f n p, -1))) (6 * m + 2) (lnU f n (sk f n p, -1))) (6 * m + 3) 1) (6 * m + 5) 0) (6 * m + 4) (lnL f n (sk f n p, -1))) n c σx135 := by have q := hQ137; rw [(ixk (s := 6 * m) (i := 4) (X := 4) (by omega) (by decide) rfl), ← hv143] at q; exact q
                    refine R_ifeq (pc := 155) 193 dX9_isLine_155 (by decide) (fun h => absurd h (by decide)) (fun _ => ?_)
                    refine R_aload_n (pc := 158) dX9_isLine_158 rfl rfl ?_
                    refine R_ldc2 (pc := 159) w_1256c dX9_isLine_159 ?_
                    refine k_X9_294 (pc := 162) (ge_X9_isWord _ f (upd (upd (upd (upd (upd (upd r (6 * m) (lnP f n (sk f n p, -1))) (6 * m + 1) (lnF f n (sk f n p, -1))) (6 * m + 2) (lnU f n (sk f n p, -1))) (6 * m + 3) 1) (6 * m + 5) 0) (6 * m + 4) (lnL f n (sk f n p, -1))) n c (tkE f n (sk f n (tkE f n (sk f n (tkE f n (sk f n (tkE f n (sk f n (tkE f n (sk f n (tkE f n (sk f n (tkE f n (sk f n (tkE f n (sk f n p)))))))))))))))) 555 hV134 hQ144 hp138 (te_p (sk_le (te_p hM81.2.2.1).2.1)).2.1) rfl (c_140 _) (by decide) (Nat.le_refl _) (Nat.le_refl _) (Nat.le_of_ble_eq_true rfl) dX9_isLine_162 (fun x w2 h => ?_)
                    obtain ⟨σx147, rfl, hV146, hW148, hQ149, hM150, hb⟩ := h
                    have hW153 := Cor.trans hW141 hW148
                    rcases hb with ⟨rfl, ht151⟩ | ⟨rfl, ht151, hf152⟩
                    · skip
                      have hB154 : rdB f n (sk f n (tkE f n (sk f n (tkE f n (sk f n (tkE f n (sk f n (tkE f n (sk f n (tkE f n (sk f n (tkE f n (sk f n (tkE f n (sk f n (tkE f n (sk f n p))))))))))))))))) 2 = true := (hM150.2.2.2.1 2 (by decide)).mp ht151
                      have hs155 : (lnD9 f n (sk f n p, -1)) = ((sk f n (tkE f n (sk f n (tkE f n (sk f n (tkE f n (sk f n (tkE f n (sk f n (tkE f n (sk f n (tkE f n (sk f n (tkE f n (sk f n (tkE f n (sk f n (tkE f n (sk f n p))))))))))))))))))), -1) := by show rwS f n 2 (lnD8 f n (sk f n p, -1)) = _; rw [hs142]; exact rw_t (st := ((sk f n (tkE f n (sk f n (tkE f n (sk f n (tkE f n (sk f n (tkE f n (sk f n (tkE f n (sk f n (tkE f n (sk f n (tkE f n (sk f n (tkE f n (sk f n p))))))))))))))))), -1)) rfl hB154
                      refine R_ifeq (pc := 165) 193 dX9_isLine_165 (by decide) (fun h => absurd h (by decide)) (fun _ => ?_)
                      refine R_aload_n (pc := 168) dX9_isLine_168 rfl rfl ?_
                      refine R_iload_n (pc := 169) dX9_isLine_169 rfl rfl ?_
                      refine R_iconst (pc := 170) (v := 5) dX9_isLine_170 (by decide) ?_
                      refine R_iadd (pc := 171) dX9_isLine_171 ?_
                      have r157 : inR ((nI (6 * m)) + 5) 5 47 := inR_add (show inR (nI (6 * m)) 0 42 from (show inR (nI (6 * m)) 0 42 from inR_nI (M := 42) (by omega) (by decide))) (show inR 5 5 5 from (inR_self _)) (by decide) (by decide)
                      have e158 := ti_add (l := 5) (h := 47) (show inR (nI (6 * m)) 0 42 from (show inR (nI (6 * m)) 0 42 from inR_nI (M := 42) (by omega) (by decide))) (show inR 5 5 5 from (inR_self _)) (by decide) (by decide)
                      refine R_aload_n (pc := 172) dX9_isLine_172 rfl rfl ?_
                      refine g_X9_111 (pc := 173) (v := .ref 171) rfl dX9_isLine_173 (c_140 _) rfl ?_
                      refine R_iload_n (pc := 176) dX9_isLine_176 rfl rfl ?_
                      refine R_iconst (pc := 177) (v := 4) dX9_isLine_177 (by decide) ?_
                      refine R_iadd (pc := 178) dX9_isLine_178 ?_
                      have r159 : inR ((nI (6 * m)) + 4) 4 46 := inR_add (show inR (nI (6 * m)) 0 42 from (show inR (nI (6 * m)) 0 42 from inR_nI (M := 42) (by omega) (by decide))) (show inR 4 4 4 from (inR_self _)) (by decide) (by decide)
                      have e160 := ti_add (l := 4) (h := 46) (show inR (nI (6 * m)) 0 42 from (show inR (nI (6 * m)) 0 42 from inR_nI (M := 42) (by omega) (by decide))) (show inR 4 4 4 from (inR_self _)) (by decide) (by decide)
                      have hx161 : vp_in ((nI (6 * m)) + 4) 48 := (vp_ti (by have q0 := e36; have q1 := e61; have q2 := e63; have q3 := e84; have q4 := e123; have q5 := e133; have q6 := e158; have q7 := e160; have q8 := ti_eq b94_85; have q9 := ti_ne b120_129; have q10 := ti_in (show inR (nI (6 * m)) 0 42 from inR_nI (M := 42) (by omega) (by decide)); have q11 := ti_in r62; have q12 := ti_in r60; have q13 := ti_in r83; have q14 := ti_in r157; have q15 := ti_in r159; have z0 : (0 : Int32).toInt = 0 := (by decide); have z1 : (1 : Int32).toInt = 1 := (by decide); have z2 : (14041 : Int32).toInt = 14041 := (by decide); have z3 : (2 : Int32).toInt = 2 := (by decide); have z4 : (2968 : Int32).toInt = 2968 := (by decide); have z5 : (3 : Int32).toInt = 3 := (by decide); have z6 : (4 : Int32).toInt = 4 := (by decide); have z7 : (40187 : Int32).toInt = 40187 := (by decide); have z8 : (42 : Int32).toInt = 42 := (by decide); have z9 : (43 : Int32).toInt = 43 := (by decide); have z10 : (44 : Int32).toInt = 44 := (by decide); have z11 : (45 : Int32).toInt = 45 := (by decide); have z12 : (46 : Int32).toInt = 46 := (by decide); have z13 : (47 : Int32).toInt = 47 := (by decide); have z14 : (5 : Int32).toInt = 5 := (by decide); omega) (by have q0 := e36; have q1 := e61; have q2 := e63; have q3 := e84; have q4 := e123; have q5 := e133; have q6 := e158; have q7 := e160; have q8 := ti_eq b94_85; have q9 := ti_ne b120_129; have q10 := ti_in (show inR (nI (6 * m)) 0 42 from inR_nI (M := 42) (by omega) (by decide)); have q11 := ti_in r62; have q12 := ti_in r60; have q13 := ti_in r83; have q14 := ti_in r157; have q15 := ti_in r159; have z0 : (0 : Int32).toInt = 0 := (by decide); have z1 : (1 : Int32).toInt = 1 := (by decide); have z2 : (14041 : Int32).toInt = 14041 := (by decide); have z3 : (2 : Int32).toInt = 2 := (by decide); have z4 : (2968 : Int32).toInt = 2968 := (by decide); have z5 : (3 : Int32).toInt = 3 := (by decide); have z6 : (4 : Int32).toInt = 4 := (by decide); have z7 : (40187 : Int32).toInt = 40187 := (by decide); have z8 : (42 : Int32).toInt = 42 := (by decide); have z9 : (43 : Int32).toInt = 43 := (by decide); have z10 : (44 : Int32).toInt = 44 := (by decide); have z11 : (45 : Int32).toInt = 45 := (by decide); have z12 : (46 : Int32).toInt = 46 := (by decide); have z13 : (47 : Int32).toInt = 47 := (by decide); have z14 : (5 : Int32).toInt = 5 := (by decide); omega))
                      refine R_iaload (pc := 179) dX9_isLine_179 (c_171 _) hx161 ?_
                      refine R_cv (lnL f n (sk f n p, -1)) (by show (σx147.2.2.1 171 (Int32.toNatClampNeg ((nI (6 * m)) + 4))) = _; rw [hQ149.2.2.1, (ixk (s := 6 * m) (i := 4) (X := 4) (by omega) (by decide) rfl), upd_at]) ?_
                      refine R_sipush (pc := 180) (v := 20000) dX9_isLine_180 (by decide) ?_
                      refine k_X9_298 (pc := 183) (ge_X9_isNumber _ f (upd (upd (upd (upd (upd (upd r (6 * m) (lnP f n (sk f n p, -1))) (6 * m + 1) (lnF f n (sk f n p, -1))) (6 * m + 2) (lnU f n (sk f n p, -1))) (6 * m + 3) 1) (6 * m + 5) 0) (6 * m + 4) (lnL f n (sk f n p, -1))) n c (tkE f n (sk f n (tkE f n (sk f n (tkE f n (sk f n (tkE f n (sk f n (tkE f n (sk f n (tkE f n (sk f n (tkE f n (sk f n (tkE f n (sk f n (tkE f n (sk f n p)))))))))))))))))) ((nI (6 * m)) + 5) (lnL f n (sk f n p, -1)) 20000 hV146 hQ149 hM150.1 (te_p hM150.2.2.1).2.1 (inR_up r157 (by decide) (by decide)) (by rw [hv143]; exact hlo_of hB139 (by decide))) rfl (c_140 _) (by decide) (Nat.le_refl _) (Nat.le_refl _) (Nat.le_of_ble_eq_true rfl) dX9_isLine_183 (fun x w2 h => ?_)
                      obtain ⟨σx163, rfl, hV162, hW164, hp166, hb⟩ := h
                      have hW169 := Cor.trans hW153 hW164
                      rcases hb with ⟨rfl, hB167, hQ165⟩ | ⟨rfl, hB167, hQ165, hf168⟩
                      · skip
                        have hs170 : (lnD10 f n (sk f n p, -1)) = ((sk f n (tkE f n (sk f n (tkE f n (sk f n (tkE f n (sk f n (tkE f n (sk f n (tkE f n (sk f n (tkE f n (sk f n (tkE f n (sk f n (tkE f n (sk f n (tkE f n (sk f n (tkE f n (sk f n p))))))))))))))))))))), -1) := by show rnS f n (lnL f n (sk f n p, -1)) 20000 (lnD9 f n (sk f n p, -1)) = _; rw [hs155]; exact (rn_t (st := ((sk f n (tkE f n (sk f n (tkE f n (sk f n (tkE f n (sk f n (tkE f n (sk f n (tkE f n (sk f n (tkE f n (sk f n (tkE f n (sk f n (tkE f n (sk f n (tkE f n (sk f n p))))))))))))))))))), -1)) rfl hB167).1
                        have hv171 : (lnH f n (sk f n p, -1)) = nu f n (sk f n (tkE f n (sk f n (tkE f n (sk f n (tkE f n (sk f n (tkE f n (sk f n (tkE f n (sk f n (tkE f n (sk f n (tkE f n (sk f n (tkE f n (sk f n (tkE f n (sk f n p))))))))))))))))))) := by show rnV f n (lnL f n (sk f n p, -1)) 20000 (lnD9 f n (sk f n p, -1)) = _; rw [hs155]; exact (rn_t (st := ((sk f n (tkE f n (sk f n (tkE f n (sk f n (tkE f n (sk f n (tkE f n (sk f n (tkE f n (sk f n (tkE f n (sk f n (tkE f n (sk f n (tkE f n (sk f n (tkE f n (sk f n p))))))))))))))))))), -1)) rfl hB167).2
                        have hQ172 : mQs f (upd (upd (upd (upd (upd (upd (upd r (6 * m) (lnP f n (sk f n p, -1))) (6 * m + 1) (lnF f n (sk f n p, -1))) (6 * m + 2) (lnU f n (sk f n p, -1))) (6 * m + 3) 1) (6 * m + 5) 0) (6 * m + 4) (lnL f n (sk f n p, -1))) (6 * m + 5) (lnH f n (sk f n p, -1))) n c σx163 := by have q := hQ165; rw [(ixk (s := 6 * m) (i := 5) (X := 5) (by omega) (by decide) rfl), ← hv171] at q; exact q
                        refine R_ifeq (pc := 186) 193 dX9_isLine_186 (by decide) (fun h => absurd h (by decide)) (fun _ => ?_)
                        refine R_iconst (pc := 189) (v := 1) dX9_isLine_189 (by decide) ?_
                        refine R_goto (pc := 190) 201 dX9_isLine_190 (by decide) ?_
                        exact R_iret (pc := 201) dX9_isLine_201 rfl rfl (Nat.zero_le _) (Nat.zero_le _) ⟨_, rfl, _, rfl, hV162, hW169, _, hQ172, (fun q hq => by rw [upd_ne _ (by omega), upd_ne _ (by omega), upd_ne _ (by omega), upd_ne _ (by omega), upd_ne _ (by omega), upd_ne _ (by omega), upd_ne _ (by omega)]), Or.inl ⟨rfl, _, (te_p (sk_le (te_p hM150.2.2.1).2.1)).2.1, hp166, lx_D10 hd128 hs170, (by rw [upd_ne _ (by omega), upd_ne _ (by omega), upd_ne _ (by omega), upd_ne _ (by omega), upd_ne _ (by omega), upd_ne _ (by omega), upd_at]), (by rw [upd_ne _ (by omega), upd_ne _ (by omega), upd_ne _ (by omega), upd_ne _ (by omega), upd_ne _ (by omega), upd_at]), (by rw [upd_ne _ (by omega), upd_ne _ (by omega), upd_ne _ (by omega), upd_ne _ (by omega), upd_at]), Or.inl ⟨hd128, (by rw [upd_ne _ (by omega), upd_ne _ (by omega), upd_ne _ (by omega), upd_at]), (by rw [upd_ne _ (by omega), upd_at]), (by rw [upd_at])⟩⟩⟩
                      · skip
                        have hs174 : (lnD10 f n (sk f n p, -1)) = ((sk f n (tkE f n (sk f n (tkE f n (sk f n (tkE f n (sk f n (tkE f n (sk f n (tkE f n (sk f n (tkE f n (sk f n (tkE f n (sk f n (tkE f n (sk f n (tkE f n (sk f n p))))))))))))))))))), nI (sk f n (tkE f n (sk f n (tkE f n (sk f n (tkE f n (sk f n (tkE f n (sk f n (tkE f n (sk f n (tkE f n (sk f n (tkE f n (sk f n (tkE f n (sk f n (tkE f n (sk f n p)))))))))))))))))))) := by show rnS f n (lnL f n (sk f n p, -1)) 20000 (lnD9 f n (sk f n p, -1)) = _; rw [hs155]; exact (rn_f2 (st := ((sk f n (tkE f n (sk f n (tkE f n (sk f n (tkE f n (sk f n (tkE f n (sk f n (tkE f n (sk f n (tkE f n (sk f n (tkE f n (sk f n (tkE f n (sk f n (tkE f n (sk f n p))))))))))))))))))), -1)) hB167).1.trans (fw_1 _)
                        refine R_ifeq (pc := 186) 193 dX9_isLine_186 (by decide) (fun _ => ?_) (fun h => absurd (by decide) h)
                        refine R_iconst (pc := 193) (v := 0) dX9_isLine_193 (by decide) ?_
                        refine R_goto (pc := 194) 201 dX9_isLine_194 (by decide) ?_
                        exact R_iret (pc := 201) dX9_isLine_201 rfl rfl (Nat.zero_le _) (Nat.zero_le _) ⟨_, rfl, _, rfl, hV162, hW169, _, hQ165, (fun q hq => by rw [upd_ne _ (by omega), upd_ne _ (by omega), upd_ne _ (by omega), upd_ne _ (by omega), upd_ne _ (by omega), upd_ne _ (by omega)]), Or.inr ⟨rfl, (by rw [lx_D10 hd128 hs174]; exact (nI_ne1 (Nat.le_trans (sk_le (te_p hM150.2.2.1).2.1) hn))), (by rw [lx_D10 hd128 hs174]; exact hf168)⟩⟩
                    · skip
                      have hB177 : rdB f n (sk f n (tkE f n (sk f n (tkE f n (sk f n (tkE f n (sk f n (tkE f n (sk f n (tkE f n (sk f n (tkE f n (sk f n (tkE f n (sk f n (tkE f n (sk f n p))))))))))))))))) 2 = false := rdB_of (hM150.2.2.2.1 2 (by decide)) ht151
                      have hs178 : (lnD9 f n (sk f n p, -1)) = ((sk f n (tkE f n (sk f n (tkE f n (sk f n (tkE f n (sk f n (tkE f n (sk f n (tkE f n (sk f n (tkE f n (sk f n (tkE f n (sk f n (tkE f n (sk f n p))))))))))))))))), nI (sk f n (tkE f n (sk f n (tkE f n (sk f n (tkE f n (sk f n (tkE f n (sk f n (tkE f n (sk f n (tkE f n (sk f n (tkE f n (sk f n (tkE f n (sk f n p)))))))))))))))))) := by show rwS f n 2 (lnD8 f n (sk f n p, -1)) = _; rw [hs142]; exact (rw_f2 (st := ((sk f n (tkE f n (sk f n (tkE f n (sk f n (tkE f n (sk f n (tkE f n (sk f n (tkE f n (sk f n (tkE f n (sk f n (tkE f n (sk f n (tkE f n (sk f n p))))))))))))))))), -1)) hB177).trans (fw_1 _)
                      refine R_ifeq (pc := 165) 193 dX9_isLine_165 (by decide) (fun _ => ?_) (fun h => absurd (by decide) h)
                      refine R_iconst (pc := 193) (v := 0) dX9_isLine_193 (by decide) ?_
                      refine R_goto (pc := 194) 201 dX9_isLine_194 (by decide) ?_
                      exact R_iret (pc := 201) dX9_isLine_201 rfl rfl (Nat.zero_le _) (Nat.zero_le _) ⟨_, rfl, _, rfl, hV146, hW153, _, hQ149, (fun q hq => by rw [upd_ne _ (by omega), upd_ne _ (by omega), upd_ne _ (by omega), upd_ne _ (by omega), upd_ne _ (by omega), upd_ne _ (by omega)]), Or.inr ⟨rfl, (by rw [lx_D9 hd128 hs178 (nI_ne1 (Nat.le_trans (sk_le (te_p (sk_le (te_p hM81.2.2.1).2.1)).2.1) hn))]; exact (nI_ne1 (Nat.le_trans (sk_le (te_p (sk_le (te_p hM81.2.2.1).2.1)).2.1) hn))), (by rw [lx_D9 hd128 hs178 (nI_ne1 (Nat.le_trans (sk_le (te_p (sk_le (te_p hM81.2.2.1).2.1)).2.1) hn))]; exact hf152)⟩⟩
                  · skip
                    have hs181 : (lnD8 f n (sk f n p, -1)) = ((sk f n (tkE f n (sk f n (tkE f n (sk f n (tkE f n (sk f n (tkE f n (sk f n (tkE f n (sk f n (tkE f n (sk f n (tkE f n (sk f n p))))))))))))))), nI (sk f n (tkE f n (sk f n (tkE f n (sk f n (tkE f n (sk f n (tkE f n (sk f n (tkE f n (sk f n (tkE f n (sk f n (tkE f n (sk f n p)))))))))))))))) := by show rnS f n 0 20000 (lnD7 f n (sk f n p, -1)) = _; rw [hs131]; exact (rn_f2 (st := ((sk f n (tkE f n (sk f n (tkE f n (sk f n (tkE f n (sk f n (tkE f n (sk f n (tkE f n (sk f n (tkE f n (sk f n (tkE f n (sk f n p))))))))))))))), -1)) hB139).1.trans (fw_1 _)
                    refine R_ifeq (pc := 155) 193 dX9_isLine_155 (by decide) (fun _ => ?_) (fun h => absurd (by decide) h)
                    refine R_iconst (pc := 193) (v := 0) dX9_isLine_193 (by decide) ?_
                    refine R_goto (pc := 194) 201 dX9_isLine_194 (by decide) ?_
                    exact R_iret (pc := 201) dX9_isLine_201 rfl rfl (Nat.zero_le _) (Nat.zero_le _) ⟨_, rfl, _, rfl, hV134, hW141, _, hQ137, (fun q hq => by rw [upd_ne _ (by omega), upd_ne _ (by omega), upd_ne _ (by omega), upd_ne _ (by omega), upd_ne _ (by omega)]), Or.inr ⟨rfl, (by rw [lx_D8 hd128 hs181 (nI_ne1 (Nat.le_trans (sk_le (te_p hM81.2.2.1).2.1) hn))]; exact (nI_ne1 (Nat.le_trans (sk_le (te_p hM81.2.2.1).2.1) hn))), (by rw [lx_D8 hd128 hs181 (nI_ne1 (Nat.le_trans (sk_le (te_p hM81.2.2.1).2.1) hn))]; exact hf140)⟩⟩
                · skip
                  exact absurd ((lcz.mp b94_85).symm.trans (lcz.mp b120_129)) (by decide)
            · skip
              have hs184 : (ln6 f n (sk f n p, -1)) = ((sk f n (tkE f n (sk f n (tkE f n (sk f n (tkE f n (sk f n (tkE f n (sk f n (tkE f n (sk f n p))))))))))), nI (sk f n (tkE f n (sk f n (tkE f n (sk f n (tkE f n (sk f n (tkE f n (sk f n (tkE f n (sk f n p)))))))))))) := by show rnS f n (lnF f n (sk f n p, -1)) 99 (ln5 f n (sk f n p, -1)) = _; rw [hs58]; exact (rn_f2 (st := ((sk f n (tkE f n (sk f n (tkE f n (sk f n (tkE f n (sk f n (tkE f n (sk f n (tkE f n (sk f n p))))))))))), -1)) hB70).1.trans (fw_1 _)
              refine R_ifne (pc := 70) 75 dX9_isLine_70 (by decide) (fun h => absurd (by decide) h) (fun _ => ?_)
              refine R_iconst (pc := 73) (v := 0) dX9_isLine_73 (by decide) ?_
              exact R_iret (pc := 74) dX9_isLine_74 rfl rfl (Nat.zero_le _) (Nat.zero_le _) ⟨_, rfl, _, rfl, hV65, hW72, _, hQ68, (fun q hq => by rw [upd_ne _ (by omega), upd_ne _ (by omega)]), Or.inr ⟨rfl, (by rw [lx_6 hs184 (nI_ne1 (Nat.le_trans (sk_le (te_p hM53.2.2.1).2.1) hn))]; exact (nI_ne1 (Nat.le_trans (sk_le (te_p hM53.2.2.1).2.1) hn))), (by rw [lx_6 hs184 (nI_ne1 (Nat.le_trans (sk_le (te_p hM53.2.2.1).2.1) hn))]; exact hf71)⟩⟩
          · skip
            have hB187 : rdB f n (sk f n (tkE f n (sk f n (tkE f n (sk f n (tkE f n (sk f n (tkE f n (sk f n p))))))))) 2 = false := rdB_of (hM53.2.2.2.1 2 (by decide)) ht54
            have hs188 : (ln5 f n (sk f n p, -1)) = ((sk f n (tkE f n (sk f n (tkE f n (sk f n (tkE f n (sk f n (tkE f n (sk f n p))))))))), nI (sk f n (tkE f n (sk f n (tkE f n (sk f n (tkE f n (sk f n (tkE f n (sk f n p)))))))))) := by show rwS f n 2 (ln4 f n (sk f n p, -1)) = _; rw [hs45]; exact (rw_f2 (st := ((sk f n (tkE f n (sk f n (tkE f n (sk f n (tkE f n (sk f n (tkE f n (sk f n p))))))))), -1)) hB187).trans (fw_1 _)
            refine R_ifeq (pc := 50) 73 dX9_isLine_50 (by decide) (fun _ => ?_) (fun h => absurd (by decide) h)
            refine R_iconst (pc := 73) (v := 0) dX9_isLine_73 (by decide) ?_
            exact R_iret (pc := 74) dX9_isLine_74 rfl rfl (Nat.zero_le _) (Nat.zero_le _) ⟨_, rfl, _, rfl, hV49, hW56, _, hQ52, (fun q hq => by rw [upd_ne _ (by omega), upd_ne _ (by omega)]), Or.inr ⟨rfl, (by rw [lx_5 hs188 (nI_ne1 (Nat.le_trans (sk_le (te_p (sk_le (te_p hM28.2.2.1).2.1)).2.1) hn))]; exact (nI_ne1 (Nat.le_trans (sk_le (te_p (sk_le (te_p hM28.2.2.1).2.1)).2.1) hn))), (by rw [lx_5 hs188 (nI_ne1 (Nat.le_trans (sk_le (te_p (sk_le (te_p hM28.2.2.1).2.1)).2.1) hn))]; exact hf55)⟩⟩
        · skip
          have hs191 : (ln4 f n (sk f n p, -1)) = ((sk f n (tkE f n (sk f n (tkE f n (sk f n (tkE f n (sk f n p))))))), nI (sk f n (tkE f n (sk f n (tkE f n (sk f n (tkE f n (sk f n p)))))))) := by show rnS f n 1 99 (ln3 f n (sk f n p, -1)) = _; rw [hs33]; exact (rn_f2 (st := ((sk f n (tkE f n (sk f n (tkE f n (sk f n (tkE f n (sk f n p))))))), -1)) hB42).1.trans (fw_1 _)
          refine R_ifeq (pc := 40) 73 dX9_isLine_40 (by decide) (fun _ => ?_) (fun h => absurd (by decide) h)
          refine R_iconst (pc := 73) (v := 0) dX9_isLine_73 (by decide) ?_
          exact R_iret (pc := 74) dX9_isLine_74 rfl rfl (Nat.zero_le _) (Nat.zero_le _) ⟨_, rfl, _, rfl, hV37, hW44, _, hQ40, (fun q hq => by rw [upd_ne _ (by omega)]), Or.inr ⟨rfl, (by rw [lx_4 hs191 (nI_ne1 (Nat.le_trans (sk_le (te_p hM28.2.2.1).2.1) hn))]; exact (nI_ne1 (Nat.le_trans (sk_le (te_p hM28.2.2.1).2.1) hn))), (by rw [lx_4 hs191 (nI_ne1 (Nat.le_trans (sk_le (te_p hM28.2.2.1).2.1) hn))]; exact hf43)⟩⟩
      · skip
        have hB194 : rdB f n (sk f n (tkE f n (sk f n (tkE f n (sk f n p))))) 1 = false := rdB_of (hM28.2.2.2.1 1 (by decide)) ht29
        have hs195 : (ln3 f n (sk f n p, -1)) = ((sk f n (tkE f n (sk f n (tkE f n (sk f n p))))), nI (sk f n (tkE f n (sk f n (tkE f n (sk f n p)))))) := by show rwS f n 1 (ln2 f n (sk f n p, -1)) = _; rw [hs20]; exact (rw_f2 (st := ((sk f n (tkE f n (sk f n (tkE f n (sk f n p))))), -1)) hB194).trans (fw_1 _)
        refine R_ifeq (pc := 27) 73 dX9_isLine_27 (by decide) (fun _ => ?_) (fun h => absurd (by decide) h)
        refine R_iconst (pc := 73) (v := 0) dX9_isLine_73 (by decide) ?_
        exact R_iret (pc := 74) dX9_isLine_74 rfl rfl (Nat.zero_le _) (Nat.zero_le _) ⟨_, rfl, _, rfl, hV24, hW31, _, hQ27, (fun q hq => by rw [upd_ne _ (by omega)]), Or.inr ⟨rfl, (by rw [lx_3 hs195 (nI_ne1 (Nat.le_trans (sk_le (te_p (sk_le (te_p hM5.2.2.1).2.1)).2.1) hn))]; exact (nI_ne1 (Nat.le_trans (sk_le (te_p (sk_le (te_p hM5.2.2.1).2.1)).2.1) hn))), (by rw [lx_3 hs195 (nI_ne1 (Nat.le_trans (sk_le (te_p (sk_le (te_p hM5.2.2.1).2.1)).2.1) hn))]; exact hf30)⟩⟩
    · skip
      have hs198 : (ln2 f n (sk f n p, -1)) = ((sk f n (tkE f n (sk f n p))), nI (sk f n (tkE f n (sk f n p)))) := by show rnS f n 0 4 (ln1 f n (sk f n p, -1)) = _; rw [hs10]; exact (rn_f2 (st := ((sk f n (tkE f n (sk f n p))), -1)) hB17).1.trans (fw_1 _)
      refine R_ifeq (pc := 17) 73 dX9_isLine_17 (by decide) (fun _ => ?_) (fun h => absurd (by decide) h)
      refine R_iconst (pc := 73) (v := 0) dX9_isLine_73 (by decide) ?_
      exact R_iret (pc := 74) dX9_isLine_74 rfl rfl (Nat.zero_le _) (Nat.zero_le _) ⟨_, rfl, _, rfl, hV12, hW19, _, hQ15, (fun q hq => rfl), Or.inr ⟨rfl, (by rw [lx_2 hs198 (nI_ne1 (Nat.le_trans (sk_le (te_p hM5.2.2.1).2.1) hn))]; exact (nI_ne1 (Nat.le_trans (sk_le (te_p hM5.2.2.1).2.1) hn))), (by rw [lx_2 hs198 (nI_ne1 (Nat.le_trans (sk_le (te_p hM5.2.2.1).2.1) hn))]; exact hf18)⟩⟩
  · skip
    have hB201 : rdB f n (sk f n p) 0 = false := rdB_of (hM5.2.2.2.1 0 (by decide)) ht6
    have hs202 : (ln1 f n (sk f n p, -1)) = ((sk f n p), nI (sk f n p)) := by show rwS f n 0 (sk f n p, -1) = _; exact (rw_f2 (st := ((sk f n p), -1)) hB201).trans (fw_1 _)
    refine R_ifeq (pc := 7) 73 dX9_isLine_7 (by decide) (fun _ => ?_) (fun h => absurd (by decide) h)
    refine R_iconst (pc := 73) (v := 0) dX9_isLine_73 (by decide) ?_
    exact R_iret (pc := 74) dX9_isLine_74 rfl rfl (Nat.zero_le _) (Nat.zero_le _) ⟨_, rfl, _, rfl, hV1, hW8, _, hQ4, (fun q hq => rfl), Or.inr ⟨rfl, (by rw [lx_1 hs202 (nI_ne1 (Nat.le_trans (sk_le hpn) hn))]; exact (nI_ne1 (Nat.le_trans (sk_le hpn) hn))), (by rw [lx_1 hs202 (nI_ne1 (Nat.le_trans (sk_le hpn) hn))]; exact hf7)⟩⟩
