/-! methods on any state that keeps the invariant -/
theorem in_ff {x a b : Int32} {fa fb : Int} (h : inR x a b) (ha : a.toInt = fa) (hb : b.toInt = fb) : fa ≤ x.toInt ∧ x.toInt ≤ fb := by
  have q := ti_in h
  omega
theorem rf_n1 {x a b : Int32} {fa fb u v : Int} (h : ¬ inR x a b) (ha : a.toInt = fa) (hb : b.toInt = fb) (h1 : u ≤ x.toInt) (h2 : fa ≤ u) (h3 : u ≤ fb) (h4 : x.toInt ≤ v) : fb + 1 ≤ v := by
  by_cases q : x.toInt ≤ fb
  · exact absurd (of_ti (by omega) (by omega)) h
  · omega
theorem rf_n2 {x a b : Int32} {fa fb u v : Int} (h : ¬ inR x a b) (ha : a.toInt = fa) (hb : b.toInt = fb) (h1 : x.toInt ≤ u) (h2 : fa ≤ u) (h3 : u ≤ fb) (h4 : v ≤ x.toInt) : v ≤ fa - 1 := by
  by_cases q : fa ≤ x.toInt
  · exact absurd (of_ti (by omega) (by omega)) h
  · omega
set_option maxRecDepth 100000 in
set_option maxHeartbeats 40000000 in
theorem gd_X1_narrowByFeatures {G : vG} {l : Launch} (σ : Sg) (D : Dt) (μ : Int32) (c : Nat)  (hI : Inv σ) (hK : LkC D μ σ) (hB : BnX D (XC σ) 1) (hc : dA D c = true) : Sp G l yX1_narrowByFeatures cX1_narrowByFeatures 6 none 1 0 0 [.ref 58, .int (nI c)] (WW σ) (QV (fun w2 => ∃ σ2, w2 = WW σ2 ∧ Inv σ2 ∧ Cor σ σ2 ∧ StC D σ σ2 ∧ BnX D (XC σ2) 1 ∧ ∀ f, f < 8 → Rf D (XC σ) (XC σ2) c f)) := by
  refine Sp_of_R [(some (.ref 58)), (some (.int (nI c))), none, none, none, none] [none, none, none, none] rfl (by simp) rfl (Nat.le_of_ble_eq_true rfl) ?_
  have hc20 : c < 20 := (hK.2.1 c hc).1
  refine R_aload_n (pc := 0) dX1_narrowByFeatures_0 rfl rfl ?_
  refine g_X1_45 (pc := 1) (v := .ref 92) rfl dX1_narrowByFeatures_1 (c_58 _) rfl ?_
  refine R_iload_n (pc := 4) dX1_narrowByFeatures_4 rfl rfl ?_
  have hx1 : vp_in (nI c) 20 := (vp_of_inR (show inR (nI c) 0 19 from inR_nI (M := 19) (by omega) (by decide)) (by decide))
  refine R_iaload (pc := 5) dX1_narrowByFeatures_5 (c_92 _) hx1 ?_
  refine R_cv (nI (dg D c)) (by show (σ.2.2.1 92 (Int32.toNatClampNeg (nI c))) = _; rw [nI_clamp (by omega)]; exact (hK.2.1 c hc).2.2) ?_
  refine st_6_2_i_i (pc := 6) dX1_narrowByFeatures_6 ?_
  refine R_iconst (pc := 7) (v := 0) dX1_narrowByFeatures_7 (by decide) ?_
  refine st_6_3_i_i (pc := 8) dX1_narrowByFeatures_8 ?_
  have HL9 : ∀ (q j9 : Nat) (σ9 : Sg) (g4_9 : Option Value) (g5_9 : Option Value), j9 + q = 8 → 0 ≤ j9 → Inv σ9 → Cor σ σ9 → (StC D σ σ9 ∧ BnX D (XC σ9) 1) → (∀ f, f < j9 → Rf D (XC σ) (XC σ9) c f) → R G l yX1_narrowByFeatures cX1_narrowByFeatures 6 none 1 0 0 (QV (fun w2 => ∃ σ2, w2 = WW σ2 ∧ Inv σ2 ∧ Cor σ σ2 ∧ StC D σ σ2 ∧ BnX D (XC σ2) 1 ∧ ∀ f, f < 8 → Rf D (XC σ) (XC σ2) c f)) 9 [(some (.ref 58)), (some (.int (nI c))), (some (.int (nI (dg D c)))), (some (.int (nI j9))), g4_9, g5_9] [] (WW σ9) 0 0 := by
    intro q
    induction q with
    | zero =>
      intro j9 σ9 g4_9 g5_9 hj hs9 hI9 hC9 hX9_0 hX9_1
      obtain rfl : j9 = 8 := by omega
      refine R_iload_n (pc := 9) dX1_narrowByFeatures_9 rfl rfl ?_
      refine R_bipush (pc := 10) (v := 8) dX1_narrowByFeatures_10 (by decide) ?_
      refine R_icge (pc := 12) 145 dX1_narrowByFeatures_12 (by decide) (fun _ => ?_) (fun h => absurd (by decide) h)
      exact R_vret (pc := 145) dX1_narrowByFeatures_145 rfl (Nat.zero_le _) (Nat.zero_le _) ⟨rfl, _, rfl, hI9, hC9, hX9_0.1, hX9_0.2, hX9_1⟩
    | succ q ih9 =>
      intro j9 σ9 g4_9 g5_9 hj hs9 hI9 hC9 hX9_0 hX9_1
      have hrg9 : inR (nI j9) 0 7 := inR_ix hs9 (show j9 < 8 by omega) (by decide) (by decide) (by decide)
      have hlt9 : j9 < 8 := by omega
      refine R_iload_n (pc := 9) dX1_narrowByFeatures_9 rfl rfl ?_
      refine R_bipush (pc := 10) (v := 8) dX1_narrowByFeatures_10 (by decide) ?_
      refine R_icge (pc := 12) 145 dX1_narrowByFeatures_12 (by decide) (fun h => False.elim (by have q1 := ti_le h; have q2 := ti_in (show inR (nI j9) 0 7 from hrg9); have q3 := ti_in (show inR 8 8 8 from (inR_self _)); have z0 : (0 : Int32).toInt = 0 := (by decide);  have z1 : (7 : Int32).toInt = 7 := (by decide);  have z2 : (8 : Int32).toInt = 8 := (by decide); omega)) (fun _ => ?_)
      have hf8 : j9 < 8 := by omega
      have hff := (lk_st hK hC9 hX9_0.1.2.2.2).2.2.2.1 j9 hf8
      have hsh := (lk_st hK hC9 hX9_0.1.2.2.2).2.2.1 c j9 hc hf8
      refine R_aload_n (pc := 15) dX1_narrowByFeatures_15 rfl rfl ?_
      refine g_X1_9 (pc := 16) (v := .ref 59) rfl dX1_narrowByFeatures_16 (c_58 _) rfl ?_
      refine R_iload_n (pc := 19) dX1_narrowByFeatures_19 rfl rfl ?_
      have hx4 : vp_in (nI j9) 8 := (vp_in_nI (by omega) (by decide))
      refine R_iaload (pc := 20) dX1_narrowByFeatures_20 (c_59 _) hx4 ?_
      refine R_cv (σ9.2.2.1 59 j9) (by rw [nI_clamp (by omega)]) ?_
      refine st_6_4_i_i (pc := 21) dX1_narrowByFeatures_21 ?_
      refine R_aload_n (pc := 23) dX1_narrowByFeatures_23 rfl rfl ?_
      refine g_X1_15 (pc := 24) (v := .ref 60) rfl dX1_narrowByFeatures_24 (c_58 _) rfl ?_
      refine R_iload_n (pc := 27) dX1_narrowByFeatures_27 rfl rfl ?_
      have hx5 : vp_in (nI j9) 8 := (vp_in_nI (by omega) (by decide))
      refine R_iaload (pc := 28) dX1_narrowByFeatures_28 (c_60 _) hx5 ?_
      refine R_cv (σ9.2.2.1 60 j9) (by rw [nI_clamp (by omega)]) ?_
      refine st_6_5_i_i (pc := 29) dX1_narrowByFeatures_29 ?_
      refine R_aload_n (pc := 31) dX1_narrowByFeatures_31 rfl rfl ?_
      refine g_X1_26 (pc := 32) (v := .ref 63) rfl dX1_narrowByFeatures_32 (c_58 _) rfl ?_
      refine R_iload_n (pc := 35) dX1_narrowByFeatures_35 rfl rfl ?_
      have hx6 : vp_in (nI c) 20 := (vp_of_inR (show inR (nI c) 0 19 from inR_nI (M := 19) (by omega) (by decide)) (by decide))
      refine R_aaload (pc := 36) (b := 64 + (Int32.toNatClampNeg (nI c))) dX1_narrowByFeatures_36 (c_63 _) hx6 (if_pos (lt_of_vp hx6)) ?_
      refine R_iload_n (pc := 37) dX1_narrowByFeatures_37 rfl rfl ?_
      have hx7 : vp_in (nI j9) 8 := (vp_in_nI (by omega) (by decide))
      refine R_iaload (pc := 38) dX1_narrowByFeatures_38 (r_63 _ _ (lt_of_vp hx6)) hx7 ?_
      refine R_cv (σ9.2.2.1 (64 + c) j9) (by show (σ9.2.2.1 (64 + (Int32.toNatClampNeg (nI c))) (Int32.toNatClampNeg (nI j9))) = _; rw [nI_clamp (by omega), nI_clamp (by omega)]) ?_
      refine R_iconst (pc := 39) (v := 1) dX1_narrowByFeatures_39 (by decide) ?_
      refine R_icne (pc := 40) 66 dX1_narrowByFeatures_40 (by decide) (fun b40_8 => ?_) (fun b40_8 => ?_)
      · skip
        have hsS0 : ¬ dS D c j9 := fun q => b40_8 (hsh.1.mp q)
        refine R_aload_n (pc := 66) dX1_narrowByFeatures_66 rfl rfl ?_
        refine g_X1_26 (pc := 67) (v := .ref 63) rfl dX1_narrowByFeatures_67 (c_58 _) rfl ?_
        refine R_iload_n (pc := 70) dX1_narrowByFeatures_70 rfl rfl ?_
        have hx9 : vp_in (nI c) 20 := (vp_of_inR (show inR (nI c) 0 19 from inR_nI (M := 19) (by omega) (by decide)) (by decide))
        refine R_aaload (pc := 71) (b := 64 + (Int32.toNatClampNeg (nI c))) dX1_narrowByFeatures_71 (c_63 _) hx9 (if_pos (lt_of_vp hx9)) ?_
        refine R_iload_n (pc := 72) dX1_narrowByFeatures_72 rfl rfl ?_
        have hx10 : vp_in (nI j9) 8 := (vp_in_nI (by omega) (by decide))
        refine R_iaload (pc := 73) dX1_narrowByFeatures_73 (r_63 _ _ (lt_of_vp hx9)) hx10 ?_
        refine R_cv (σ9.2.2.1 (64 + c) j9) (by show (σ9.2.2.1 (64 + (Int32.toNatClampNeg (nI c))) (Int32.toNatClampNeg (nI j9))) = _; rw [nI_clamp (by omega), nI_clamp (by omega)]) ?_
        refine R_ifne (pc := 74) 139 dX1_narrowByFeatures_74 (by decide) (fun b74_11 => ?_) (fun b74_11 => ?_)
        · skip
          refine inc_6_3_1_i (pc := 139) dX1_narrowByFeatures_139 ?_
          have r12 : inR ((nI j9) + 1) 1 8 := inR_add (show inR (nI j9) 0 7 from hrg9) (show inR 1 1 1 from (inR_self _)) (by decide) (by decide)
          have e13 := ti_add (l := 1) (h := 8) (show inR (nI j9) 0 7 from hrg9) (show inR 1 1 1 from (inR_self _)) (by decide) (by decide)
          refine R_goto (pc := 142) 9 dX1_narrowByFeatures_142 (by decide) ?_
          rw [nI_1]
          exact ih9 (j9 + 1) _ _ _ (by omega) (by omega) hI9 hC9 ⟨hX9_0.1, hX9_0.2⟩ (rf_s hX9_1 hc (LeX.rfl' D _) (rf_2 hsS0 (fun q => b74_11 (hsh.2.mp q))))
        · skip
          have hsH : dH D c j9 := hsh.2.mpr b74_11
          refine R_aload_n (pc := 77) dX1_narrowByFeatures_77 rfl rfl ?_
          refine g_X1_38 (pc := 78) (v := .ref 86) rfl dX1_narrowByFeatures_78 (c_58 _) rfl ?_
          refine g_X1_133 (pc := 81) (v := .ref 87) rfl dX1_narrowByFeatures_81 (c_86 _) rfl ?_
          refine R_iload_n (pc := 84) dX1_narrowByFeatures_84 rfl rfl ?_
          have hx14 : vp_in (nI (dg D c)) 20 := (vp_of_inR (show inR (nI (dg D c)) 0 19 from inR_nI (M := 19) (Nat.le_of_lt_succ (hK.2.1 c hc).2.1) (by decide)) (by decide))
          refine R_iaload (pc := 85) dX1_narrowByFeatures_85 (c_87 _) hx14 ?_
          have hr1 : σ9.2.2.1 87 (Int32.toNatClampNeg (nI (dg D c))) = σ9.2.2.1 87 (dg D c) := by rw [nI_clamp (by have q := (hK.2.1 c hc).2.1; omega)]
          refine R_cv (σ9.2.2.1 87 (dg D c)) hr1 ?_
          refine R_iload (pc := 86) dX1_narrowByFeatures_86 rfl ?_
          refine R_iload (pc := 88) dX1_narrowByFeatures_88 rfl ?_
          refine k_X1_142 (pc := 90) (sp_X8_isWithin _ _ _ _) rfl (by decide) (Nat.le_refl _) (Nat.le_refl _) (Nat.le_of_ble_eq_true rfl) dX1_narrowByFeatures_90 (fun x w2 h => ?_)
          rcases h with ⟨rfl, ⟨h15, rfl⟩ | ⟨h15, rfl⟩⟩
          · skip
            refine R_ifeq (pc := 93) 108 dX1_narrowByFeatures_93 (by decide) (fun h => absurd h (by decide)) (fun _ => ?_)
            refine R_aload_n (pc := 96) dX1_narrowByFeatures_96 rfl rfl ?_
            refine g_X1_38 (pc := 97) (v := .ref 86) rfl dX1_narrowByFeatures_97 (c_58 _) rfl ?_
            refine R_iload_n (pc := 100) dX1_narrowByFeatures_100 rfl rfl ?_
            refine R_iload (pc := 101) dX1_narrowByFeatures_101 rfl ?_
            refine R_iconst (pc := 103) (v := 1) dX1_narrowByFeatures_103 (by decide) ?_
            refine R_iadd (pc := 104) dX1_narrowByFeatures_104 ?_
            have r17 : inR ((σ9.2.2.1 60 j9) + 1) 1 20001 := inR_add (show inR (σ9.2.2.1 60 j9) 0 20000 from (show inR (σ9.2.2.1 60 j9) 0 20000 from of_ti (by have z : (0 : Int32).toInt = 0 := (by decide); rw [z, hff.2.1]; exact hff.2.2.2.2.1) (by have z : (20000 : Int32).toInt = 20000 := (by decide); rw [z, hff.2.1]; exact hff.2.2.2.2.2))) (show inR 1 1 1 from (inR_self _)) (by decide) (by decide)
            have e18 := ti_add (l := 1) (h := 20001) (show inR (σ9.2.2.1 60 j9) 0 20000 from (show inR (σ9.2.2.1 60 j9) 0 20000 from of_ti (by have z : (0 : Int32).toInt = 0 := (by decide); rw [z, hff.2.1]; exact hff.2.2.2.2.1) (by have z : (20000 : Int32).toInt = 20000 := (by decide); rw [z, hff.2.1]; exact hff.2.2.2.2.2))) (show inR 1 1 1 from (inR_self _)) (by decide) (by decide)
            have hft1 : ((σ9.2.2.1 60 j9) + 1).toInt = dft D j9 + 1 := by rw [ti_add (l := 1) (h := 20001) (show inR (σ9.2.2.1 60 j9) 0 20000 from of_ti (by have z : (0 : Int32).toInt = 0 := (by decide); rw [z, hff.2.1]; exact hff.2.2.2.2.1) (by have z : (20000 : Int32).toInt = 20000 := (by decide); rw [z, hff.2.1]; exact hff.2.2.2.2.2)) (inR_self 1) (by decide) (by decide), hff.2.1]; rfl
            have hin1 := in_ff (h15) hff.1 hff.2.1
            refine k_X1_120 (pc := 105) (ge_X7_notBefore_86 _ _ _ hI9 (show inR (nI (dg D c)) 0 19 from inR_nI (M := 19) (Nat.le_of_lt_succ (hK.2.1 c hc).2.1) (by decide))) rfl (c_86 _) (by decide) (Nat.le_refl _) (Nat.le_refl _) (Nat.le_of_ble_eq_true rfl) dX1_narrowByFeatures_105 (fun w2 h => ?_)
            obtain ⟨σx20, rfl, hV19, hW21, he22⟩ := h
            have hW24 := Cor.trans hC9 hW21
            have hS23 := stC_1 (D := D) (c := c) (m := 1) he22 (nI_clamp (by have q := (hK.2.1 c hc).2.1; omega)) hc (fun Z hZ hle => by rw [hft1]; exact hid_f hZ hc hf8 hsH hle hin1.1 hin1.2) (by rw [hft1]; have := hff.2.2.2.2.2; omega)
            have hT25 := StC.tr hX9_0.1 hS23.1
            have hB26 := hS23.2.2 hX9_0.2
            have hK27 := lk_st (lk_st hK hC9 hX9_0.1.2.2.2) hW21 hS23.1.2.2.2
            have hL1 := hS23.2.1
            have hL1e := hS23.1.1.1
            refine R_aload_n (pc := 108) dX1_narrowByFeatures_108 rfl rfl ?_
            refine g_X1_38 (pc := 109) (v := .ref 86) rfl dX1_narrowByFeatures_109 (c_58 _) rfl ?_
            refine g_X1_136 (pc := 112) (v := .ref 88) rfl dX1_narrowByFeatures_112 (c_86 _) rfl ?_
            refine R_iload_n (pc := 115) dX1_narrowByFeatures_115 rfl rfl ?_
            have hx28 : vp_in (nI (dg D c)) 20 := (vp_of_inR (show inR (nI (dg D c)) 0 19 from inR_nI (M := 19) (Nat.le_of_lt_succ (hK.2.1 c hc).2.1) (by decide)) (by decide))
            refine R_iaload (pc := 116) dX1_narrowByFeatures_116 (c_88 _) hx28 ?_
            have hr2 : σx20.2.2.1 88 (Int32.toNatClampNeg (nI (dg D c))) = σx20.2.2.1 88 (dg D c) := by rw [nI_clamp (by have q := (hK.2.1 c hc).2.1; omega)]
            refine R_cv (σx20.2.2.1 88 (dg D c)) hr2 ?_
            refine R_iload (pc := 117) dX1_narrowByFeatures_117 rfl ?_
            refine R_iload (pc := 119) dX1_narrowByFeatures_119 rfl ?_
            refine k_X1_142 (pc := 121) (sp_X8_isWithin _ _ _ _) rfl (by decide) (Nat.le_refl _) (Nat.le_refl _) (Nat.le_of_ble_eq_true rfl) dX1_narrowByFeatures_121 (fun x w2 h => ?_)
            rcases h with ⟨rfl, ⟨h29, rfl⟩ | ⟨h29, rfl⟩⟩
            · skip
              refine R_ifeq (pc := 124) 139 dX1_narrowByFeatures_124 (by decide) (fun h => absurd h (by decide)) (fun _ => ?_)
              refine R_aload_n (pc := 127) dX1_narrowByFeatures_127 rfl rfl ?_
              refine g_X1_38 (pc := 128) (v := .ref 86) rfl dX1_narrowByFeatures_128 (c_58 _) rfl ?_
              refine R_iload_n (pc := 131) dX1_narrowByFeatures_131 rfl rfl ?_
              refine R_iload (pc := 132) dX1_narrowByFeatures_132 rfl ?_
              refine R_iconst (pc := 134) (v := 1) dX1_narrowByFeatures_134 (by decide) ?_
              refine R_isub (pc := 135) dX1_narrowByFeatures_135 ?_
              have r31 : inR ((σ9.2.2.1 59 j9) - 1) (-1) 19999 := inR_sub (show inR (σ9.2.2.1 59 j9) 0 20000 from (show inR (σ9.2.2.1 59 j9) 0 20000 from of_ti (by have z : (0 : Int32).toInt = 0 := (by decide); rw [z, hff.1]; exact hff.2.2.1) (by have z : (20000 : Int32).toInt = 20000 := (by decide); rw [z, hff.1]; exact hff.2.2.2.1))) (show inR 1 1 1 from (inR_self _)) (by decide) (by decide)
              have e32 := ti_sub (l := (-1)) (h := 19999) (show inR (σ9.2.2.1 59 j9) 0 20000 from (show inR (σ9.2.2.1 59 j9) 0 20000 from of_ti (by have z : (0 : Int32).toInt = 0 := (by decide); rw [z, hff.1]; exact hff.2.2.1) (by have z : (20000 : Int32).toInt = 20000 := (by decide); rw [z, hff.1]; exact hff.2.2.2.1))) (show inR 1 1 1 from (inR_self _)) (by decide) (by decide)
              have hff1 : ((σ9.2.2.1 59 j9) - 1).toInt = dff D j9 - 1 := by rw [ti_sub (l := -1) (h := 19999) (show inR (σ9.2.2.1 59 j9) 0 20000 from of_ti (by have z : (0 : Int32).toInt = 0 := (by decide); rw [z, hff.1]; exact hff.2.2.1) (by have z : (20000 : Int32).toInt = 20000 := (by decide); rw [z, hff.1]; exact hff.2.2.2.1)) (inR_self 1) (by decide) (by decide), hff.1]; rfl
              have hin2 := in_ff (h29) hff.1 hff.2.1
              refine k_X1_93 (pc := 136) (ge_X7_notBehind_86 _ _ _ hV19 (show inR (nI (dg D c)) 0 19 from inR_nI (M := 19) (Nat.le_of_lt_succ (hK.2.1 c hc).2.1) (by decide))) rfl (c_86 _) (by decide) (Nat.le_refl _) (Nat.le_refl _) (Nat.le_of_ble_eq_true rfl) dX1_narrowByFeatures_136 (fun w2 h => ?_)
              obtain ⟨σx34, rfl, hV33, hW35, he36⟩ := h
              have hW38 := Cor.trans hW24 hW35
              have hS37 := stC_2 (D := D) (c := c) (m := 1) he36 (nI_clamp (by have q := (hK.2.1 c hc).2.1; omega)) hc (fun Z hZ hle => by rw [hff1]; exact hid_t hZ hc hf8 hsH hle hin2.1 hin2.2) (by rw [hff1]; have := hff.2.2.1; omega)
              have hT39 := StC.tr hT25 hS37.1
              have hB40 := hS37.2.2 hB26
              have hK41 := lk_st hK27 hW35 hS37.1.2.2.2
              have hL2 := hS37.2.1
              have hL2e := hS37.1.1.1
              refine inc_6_3_1_i (pc := 139) dX1_narrowByFeatures_139 ?_
              have r42 : inR ((nI j9) + 1) 1 8 := inR_add (show inR (nI j9) 0 7 from hrg9) (show inR 1 1 1 from (inR_self _)) (by decide) (by decide)
              have e43 := ti_add (l := 1) (h := 8) (show inR (nI j9) 0 7 from hrg9) (show inR 1 1 1 from (inR_self _)) (by decide) (by decide)
              refine R_goto (pc := 142) 9 dX1_narrowByFeatures_142 (by decide) ?_
              rw [nI_1]
              exact ih9 (j9 + 1) _ _ _ (by omega) (by omega) hV33 hW38 ⟨hT39, hB40⟩ (rf_s hX9_1 hc (LeX.tr hL1e hL2e) (rf_0 hsS0 (fun _ _ => by have q := hL1; rw [hft1] at q; have r := (hL2e c hc).1; omega) (fun _ _ => by have q := hL2; rw [hff1] at q; exact q)))
            · skip
              refine R_ifeq (pc := 124) 139 dX1_narrowByFeatures_124 (by decide) (fun _ => ?_) (fun h => absurd (by decide) h)
              refine inc_6_3_1_i (pc := 139) dX1_narrowByFeatures_139 ?_
              have r45 : inR ((nI j9) + 1) 1 8 := inR_add (show inR (nI j9) 0 7 from hrg9) (show inR 1 1 1 from (inR_self _)) (by decide) (by decide)
              have e46 := ti_add (l := 1) (h := 8) (show inR (nI j9) 0 7 from hrg9) (show inR 1 1 1 from (inR_self _)) (by decide) (by decide)
              refine R_goto (pc := 142) 9 dX1_narrowByFeatures_142 (by decide) ?_
              rw [nI_1]
              exact ih9 (j9 + 1) _ _ _ (by omega) (by omega) hV19 hW24 ⟨hT25, hB26⟩ (rf_s hX9_1 hc hL1e (rf_0 hsS0 (fun _ _ => by have q := hL1; rw [hft1] at q; exact q) (fun h1 h2 => rf_n2 (h29) hff.1 hff.2.1 (Int.le_trans (hL1e c hc).2.1 (hX9_0.1.1.1 c hc).2.1) h1 h2 (Int.le_refl _))))
          · skip
            refine R_ifeq (pc := 93) 108 dX1_narrowByFeatures_93 (by decide) (fun _ => ?_) (fun h => absurd (by decide) h)
            refine R_aload_n (pc := 108) dX1_narrowByFeatures_108 rfl rfl ?_
            refine g_X1_38 (pc := 109) (v := .ref 86) rfl dX1_narrowByFeatures_109 (c_58 _) rfl ?_
            refine g_X1_136 (pc := 112) (v := .ref 88) rfl dX1_narrowByFeatures_112 (c_86 _) rfl ?_
            refine R_iload_n (pc := 115) dX1_narrowByFeatures_115 rfl rfl ?_
            have hx48 : vp_in (nI (dg D c)) 20 := (vp_of_inR (show inR (nI (dg D c)) 0 19 from inR_nI (M := 19) (Nat.le_of_lt_succ (hK.2.1 c hc).2.1) (by decide)) (by decide))
            refine R_iaload (pc := 116) dX1_narrowByFeatures_116 (c_88 _) hx48 ?_
            have hr2 : σ9.2.2.1 88 (Int32.toNatClampNeg (nI (dg D c))) = σ9.2.2.1 88 (dg D c) := by rw [nI_clamp (by have q := (hK.2.1 c hc).2.1; omega)]
            refine R_cv (σ9.2.2.1 88 (dg D c)) hr2 ?_
            refine R_iload (pc := 117) dX1_narrowByFeatures_117 rfl ?_
            refine R_iload (pc := 119) dX1_narrowByFeatures_119 rfl ?_
            refine k_X1_142 (pc := 121) (sp_X8_isWithin _ _ _ _) rfl (by decide) (Nat.le_refl _) (Nat.le_refl _) (Nat.le_of_ble_eq_true rfl) dX1_narrowByFeatures_121 (fun x w2 h => ?_)
            rcases h with ⟨rfl, ⟨h49, rfl⟩ | ⟨h49, rfl⟩⟩
            · skip
              refine R_ifeq (pc := 124) 139 dX1_narrowByFeatures_124 (by decide) (fun h => absurd h (by decide)) (fun _ => ?_)
              refine R_aload_n (pc := 127) dX1_narrowByFeatures_127 rfl rfl ?_
              refine g_X1_38 (pc := 128) (v := .ref 86) rfl dX1_narrowByFeatures_128 (c_58 _) rfl ?_
              refine R_iload_n (pc := 131) dX1_narrowByFeatures_131 rfl rfl ?_
              refine R_iload (pc := 132) dX1_narrowByFeatures_132 rfl ?_
              refine R_iconst (pc := 134) (v := 1) dX1_narrowByFeatures_134 (by decide) ?_
              refine R_isub (pc := 135) dX1_narrowByFeatures_135 ?_
              have r51 : inR ((σ9.2.2.1 59 j9) - 1) (-1) 19999 := inR_sub (show inR (σ9.2.2.1 59 j9) 0 20000 from (show inR (σ9.2.2.1 59 j9) 0 20000 from of_ti (by have z : (0 : Int32).toInt = 0 := (by decide); rw [z, hff.1]; exact hff.2.2.1) (by have z : (20000 : Int32).toInt = 20000 := (by decide); rw [z, hff.1]; exact hff.2.2.2.1))) (show inR 1 1 1 from (inR_self _)) (by decide) (by decide)
              have e52 := ti_sub (l := (-1)) (h := 19999) (show inR (σ9.2.2.1 59 j9) 0 20000 from (show inR (σ9.2.2.1 59 j9) 0 20000 from of_ti (by have z : (0 : Int32).toInt = 0 := (by decide); rw [z, hff.1]; exact hff.2.2.1) (by have z : (20000 : Int32).toInt = 20000 := (by decide); rw [z, hff.1]; exact hff.2.2.2.1))) (show inR 1 1 1 from (inR_self _)) (by decide) (by decide)
              have hff1 : ((σ9.2.2.1 59 j9) - 1).toInt = dff D j9 - 1 := by rw [ti_sub (l := -1) (h := 19999) (show inR (σ9.2.2.1 59 j9) 0 20000 from of_ti (by have z : (0 : Int32).toInt = 0 := (by decide); rw [z, hff.1]; exact hff.2.2.1) (by have z : (20000 : Int32).toInt = 20000 := (by decide); rw [z, hff.1]; exact hff.2.2.2.1)) (inR_self 1) (by decide) (by decide), hff.1]; rfl
              have hin2 := in_ff (h49) hff.1 hff.2.1
              refine k_X1_93 (pc := 136) (ge_X7_notBehind_86 _ _ _ hI9 (show inR (nI (dg D c)) 0 19 from inR_nI (M := 19) (Nat.le_of_lt_succ (hK.2.1 c hc).2.1) (by decide))) rfl (c_86 _) (by decide) (Nat.le_refl _) (Nat.le_refl _) (Nat.le_of_ble_eq_true rfl) dX1_narrowByFeatures_136 (fun w2 h => ?_)
              obtain ⟨σx54, rfl, hV53, hW55, he56⟩ := h
              have hW58 := Cor.trans hC9 hW55
              have hS57 := stC_2 (D := D) (c := c) (m := 1) he56 (nI_clamp (by have q := (hK.2.1 c hc).2.1; omega)) hc (fun Z hZ hle => by rw [hff1]; exact hid_t hZ hc hf8 hsH hle hin2.1 hin2.2) (by rw [hff1]; have := hff.2.2.1; omega)
              have hT59 := StC.tr hX9_0.1 hS57.1
              have hB60 := hS57.2.2 hX9_0.2
              have hK61 := lk_st (lk_st hK hC9 hX9_0.1.2.2.2) hW55 hS57.1.2.2.2
              have hL2 := hS57.2.1
              have hL2e := hS57.1.1.1
              refine inc_6_3_1_i (pc := 139) dX1_narrowByFeatures_139 ?_
              have r62 : inR ((nI j9) + 1) 1 8 := inR_add (show inR (nI j9) 0 7 from hrg9) (show inR 1 1 1 from (inR_self _)) (by decide) (by decide)
              have e63 := ti_add (l := 1) (h := 8) (show inR (nI j9) 0 7 from hrg9) (show inR 1 1 1 from (inR_self _)) (by decide) (by decide)
              refine R_goto (pc := 142) 9 dX1_narrowByFeatures_142 (by decide) ?_
              rw [nI_1]
              exact ih9 (j9 + 1) _ _ _ (by omega) (by omega) hV53 hW58 ⟨hT59, hB60⟩ (rf_s hX9_1 hc hL2e (rf_0 hsS0 (fun h1 h2 => rf_n1 (h15) hff.1 hff.2.1 (hX9_0.1.1.1 c hc).1 h1 h2 (hL2e c hc).1) (fun _ _ => by have q := hL2; rw [hff1] at q; exact q)))
            · skip
              refine R_ifeq (pc := 124) 139 dX1_narrowByFeatures_124 (by decide) (fun _ => ?_) (fun h => absurd (by decide) h)
              refine inc_6_3_1_i (pc := 139) dX1_narrowByFeatures_139 ?_
              have r65 : inR ((nI j9) + 1) 1 8 := inR_add (show inR (nI j9) 0 7 from hrg9) (show inR 1 1 1 from (inR_self _)) (by decide) (by decide)
              have e66 := ti_add (l := 1) (h := 8) (show inR (nI j9) 0 7 from hrg9) (show inR 1 1 1 from (inR_self _)) (by decide) (by decide)
              refine R_goto (pc := 142) 9 dX1_narrowByFeatures_142 (by decide) ?_
              rw [nI_1]
              exact ih9 (j9 + 1) _ _ _ (by omega) (by omega) hI9 hC9 ⟨hX9_0.1, hX9_0.2⟩ (rf_s hX9_1 hc (LeX.rfl' D _) (rf_0 hsS0 (fun h1 h2 => rf_n1 (h15) hff.1 hff.2.1 (hX9_0.1.1.1 c hc).1 h1 h2 (Int.le_refl _)) (fun h1 h2 => rf_n2 (h49) hff.1 hff.2.1 (Int.le_trans ((LeX.rfl' D _) c hc).2.1 (hX9_0.1.1.1 c hc).2.1) h1 h2 (Int.le_refl _))))
      · skip
        have hsS : dS D c j9 := hsh.1.mpr b40_8
        have hsH0 : ¬ dH D c j9 := fun q => absurd (b40_8.symm.trans (hsh.2.mp q)) (by decide)
        refine R_aload_n (pc := 43) dX1_narrowByFeatures_43 rfl rfl ?_
        refine g_X1_38 (pc := 44) (v := .ref 86) rfl dX1_narrowByFeatures_44 (c_58 _) rfl ?_
        refine R_iload_n (pc := 47) dX1_narrowByFeatures_47 rfl rfl ?_
        refine R_iload (pc := 48) dX1_narrowByFeatures_48 rfl ?_
        refine k_X1_120 (pc := 50) (ge_X7_notBefore_86 _ _ _ hI9 (show inR (nI (dg D c)) 0 19 from inR_nI (M := 19) (Nat.le_of_lt_succ (hK.2.1 c hc).2.1) (by decide))) rfl (c_86 _) (by decide) (Nat.le_refl _) (Nat.le_refl _) (Nat.le_of_ble_eq_true rfl) dX1_narrowByFeatures_50 (fun w2 h => ?_)
        obtain ⟨σx68, rfl, hV67, hW69, he70⟩ := h
        have hW72 := Cor.trans hC9 hW69
        have hS71 := stC_1 (D := D) (c := c) (m := 1) he70 (nI_clamp (by have q := (hK.2.1 c hc).2.1; omega)) hc (fun Z hZ _ => by rw [hff.1]; exact ((((hZ.2 c hc).2.2.1 j9 hf8).1 hsS).1)) (by rw [hff.1]; have := hff.2.2.2.1; omega)
        have hT73 := StC.tr hX9_0.1 hS71.1
        have hB74 := hS71.2.2 hX9_0.2
        have hK75 := lk_st (lk_st hK hC9 hX9_0.1.2.2.2) hW69 hS71.1.2.2.2
        have hL1 := hS71.2.1
        have hL1e := hS71.1.1.1
        refine R_aload_n (pc := 53) dX1_narrowByFeatures_53 rfl rfl ?_
        refine g_X1_38 (pc := 54) (v := .ref 86) rfl dX1_narrowByFeatures_54 (c_58 _) rfl ?_
        refine R_iload_n (pc := 57) dX1_narrowByFeatures_57 rfl rfl ?_
        refine R_iload (pc := 58) dX1_narrowByFeatures_58 rfl ?_
        refine k_X1_93 (pc := 60) (ge_X7_notBehind_86 _ _ _ hV67 (show inR (nI (dg D c)) 0 19 from inR_nI (M := 19) (Nat.le_of_lt_succ (hK.2.1 c hc).2.1) (by decide))) rfl (c_86 _) (by decide) (Nat.le_refl _) (Nat.le_refl _) (Nat.le_of_ble_eq_true rfl) dX1_narrowByFeatures_60 (fun w2 h => ?_)
        obtain ⟨σx77, rfl, hV76, hW78, he79⟩ := h
        have hW81 := Cor.trans hW72 hW78
        have hS80 := stC_2 (D := D) (c := c) (m := 1) he79 (nI_clamp (by have q := (hK.2.1 c hc).2.1; omega)) hc (fun Z hZ _ => by rw [hff.2.1]; exact ((((hZ.2 c hc).2.2.1 j9 hf8).1 hsS).2)) (by rw [hff.2.1]; have := hff.2.2.2.2.1; omega)
        have hT82 := StC.tr hT73 hS80.1
        have hB83 := hS80.2.2 hB74
        have hK84 := lk_st hK75 hW78 hS80.1.2.2.2
        have hL2 := hS80.2.1
        have hL2e := hS80.1.1.1
        refine R_goto (pc := 63) 139 dX1_narrowByFeatures_63 (by decide) ?_
        refine inc_6_3_1_i (pc := 139) dX1_narrowByFeatures_139 ?_
        have r85 : inR ((nI j9) + 1) 1 8 := inR_add (show inR (nI j9) 0 7 from hrg9) (show inR 1 1 1 from (inR_self _)) (by decide) (by decide)
        have e86 := ti_add (l := 1) (h := 8) (show inR (nI j9) 0 7 from hrg9) (show inR 1 1 1 from (inR_self _)) (by decide) (by decide)
        refine R_goto (pc := 142) 9 dX1_narrowByFeatures_142 (by decide) ?_
        rw [nI_1]
        exact ih9 (j9 + 1) _ _ _ (by omega) (by omega) hV76 hW81 ⟨hT82, hB83⟩ (rf_s hX9_1 hc (LeX.tr hL1e hL2e) (rf_1 hsH0 (by rw [← hff.1]; have a := hL1; have b := (hL2e c hc).1; omega) (by rw [← hff.2.1]; exact hL2)))
  exact HL9 8 0 _ _ _ (by omega) (by omega) hI (show Cor σ σ from Cor.rfl' σ) ⟨StC.rfl' D σ, hB⟩ (fun f hf => absurd hf (by omega))
