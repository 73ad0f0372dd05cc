/-! methods on any state that keeps the invariant -/
theorem dX0_isThere_0 : decode cX0_isThere 0 = .ok (.iload_n 1, 1) := by decide +kernel
theorem dX0_isThere_1 : decode cX0_isThere 1 = .ok (.ifCond .lt 28, 3) := by decide +kernel
theorem dX0_isThere_4 : decode cX0_isThere 4 = .ok (.iload_n 1, 1) := by decide +kernel
theorem dX0_isThere_5 : decode cX0_isThere 5 = .ok (.aload_n 0, 1) := by decide +kernel
theorem dX0_isThere_6 : decode cX0_isThere 6 = .ok (.getfield 47, 3) := by decide +kernel
theorem dX0_isThere_9 : decode cX0_isThere 9 = .ok (.if_icmp .ge 20, 3) := by decide +kernel
theorem dX0_isThere_12 : decode cX0_isThere 12 = .ok (.aload_n 0, 1) := by decide +kernel
theorem dX0_isThere_13 : decode cX0_isThere 13 = .ok (.getfield 34, 3) := by decide +kernel
theorem dX0_isThere_16 : decode cX0_isThere 16 = .ok (.iload_n 1, 1) := by decide +kernel
theorem dX0_isThere_17 : decode cX0_isThere 17 = .ok (.iaload, 1) := by decide +kernel
theorem dX0_isThere_18 : decode cX0_isThere 18 = .ok (.aload_n 0, 1) := by decide +kernel
theorem dX0_isThere_19 : decode cX0_isThere 19 = .ok (.getfield 43, 3) := by decide +kernel
theorem dX0_isThere_22 : decode cX0_isThere 22 = .ok (.if_icmp .gt 7, 3) := by decide +kernel
theorem dX0_isThere_25 : decode cX0_isThere 25 = .ok (.iconst 1, 1) := by decide +kernel
theorem dX0_isThere_26 : decode cX0_isThere 26 = .ok (.goto 4, 3) := by decide +kernel
theorem dX0_isThere_29 : decode cX0_isThere 29 = .ok (.iconst 0, 1) := by decide +kernel
theorem dX0_isThere_30 : decode cX0_isThere 30 = .ok (.ireturn, 1) := by decide +kernel
set_option maxRecDepth 100000 in
set_option maxHeartbeats 40000000 in
theorem gx_X0_isThere {G : vG} {l : Launch} (σ : Sg) (c : Int32) (hI : Inv σ) : Sp G l yX0_isThere cX0_isThere 2 (some .boolean) 0 0 0 [.ref 1, .int c] (WW σ) (QI (fun x w2 => w2 = WW σ ∧ (inR c 0 19 ∧ x = 1 ∨ x = 0))) := by
  refine Sp_of_R [(some (.ref 1)), (some (.int c))] [] rfl (by simp) rfl (Nat.le_of_ble_eq_true rfl) ?_
  refine R_iload_n (pc := 0) dX0_isThere_0 rfl rfl ?_
  refine R_iflt (pc := 1) 29 dX0_isThere_1 (by decide) (fun b1_1 => ?_) (fun b1_1 => ?_)
  · skip
    refine R_iconst (pc := 29) (v := 0) dX0_isThere_29 (by decide) ?_
    exact R_iret (pc := 30) dX0_isThere_30 rfl rfl (Nat.zero_le _) (Nat.zero_le _) ⟨_, rfl, rfl, Or.inr rfl⟩
  · skip
    refine R_iload_n (pc := 4) dX0_isThere_4 rfl rfl ?_
    refine R_aload_n (pc := 5) dX0_isThere_5 rfl rfl ?_
    refine g_X0_47 (pc := 6) (v := .int (σ.1 110)) rfl dX0_isThere_6 (c_1 _) rfl ?_
    refine R_icge (pc := 9) 29 dX0_isThere_9 (by decide) (fun b9_2 => ?_) (fun b9_2 => ?_)
    · skip
      refine R_iconst (pc := 29) (v := 0) dX0_isThere_29 (by decide) ?_
      exact R_iret (pc := 30) dX0_isThere_30 rfl rfl (Nat.zero_le _) (Nat.zero_le _) ⟨_, rfl, rfl, Or.inr rfl⟩
    · skip
      refine R_aload_n (pc := 12) dX0_isThere_12 rfl rfl ?_
      refine g_X0_34 (pc := 13) (v := .ref 9) rfl dX0_isThere_13 (c_1 _) rfl ?_
      refine R_iload_n (pc := 16) dX0_isThere_16 rfl rfl ?_
      have hx3 : vp_in c 20 := (vp_ti (by have q0 := ti_nlt b1_1; have q1 := ti_nle b9_2; have q2 := ti_in (iv_110 hI); have z0 : (0 : Int32).toInt = 0 := (by decide); have z1 : (1 : Int32).toInt = 1 := (by decide); have z2 : (110 : Int32).toInt = 110 := (by decide); have z3 : (20 : Int32).toInt = 20 := (by decide); omega) (by have q0 := ti_nlt b1_1; have q1 := ti_nle b9_2; have q2 := ti_in (iv_110 hI); have z0 : (0 : Int32).toInt = 0 := (by decide); have z1 : (1 : Int32).toInt = 1 := (by decide); have z2 : (110 : Int32).toInt = 110 := (by decide); have z3 : (20 : Int32).toInt = 20 := (by decide); omega))
      refine R_iaload (pc := 17) dX0_isThere_17 (c_9 _) hx3 ?_
      refine R_aload_n (pc := 18) dX0_isThere_18 rfl rfl ?_
      refine g_X0_43 (pc := 19) (v := .int (σ.1 112)) rfl dX0_isThere_19 (c_1 _) rfl ?_
      refine R_icgt (pc := 22) 29 dX0_isThere_22 (by decide) (fun b22_4 => ?_) (fun b22_4 => ?_)
      · skip
        refine R_iconst (pc := 29) (v := 0) dX0_isThere_29 (by decide) ?_
        exact R_iret (pc := 30) dX0_isThere_30 rfl rfl (Nat.zero_le _) (Nat.zero_le _) ⟨_, rfl, rfl, Or.inr rfl⟩
      · skip
        refine R_iconst (pc := 25) (v := 1) dX0_isThere_25 (by decide) ?_
        refine R_goto (pc := 26) 30 dX0_isThere_26 (by decide) ?_
        exact R_iret (pc := 30) dX0_isThere_30 rfl rfl (Nat.zero_le _) (Nat.zero_le _) ⟨_, rfl, rfl, Or.inl ⟨(show inR c 0 19 from of_ti (by have q0 := ti_nlt b1_1; have q1 := ti_nle b9_2; have q2 := ti_nlt b22_4; have q3 := ti_in (iv_110 hI); have z0 : (0 : Int32).toInt = 0 := (by decide); have z1 : (1 : Int32).toInt = 1 := (by decide); have z2 : (110 : Int32).toInt = 110 := (by decide); have z3 : (112 : Int32).toInt = 112 := (by decide); have z4 : (20 : Int32).toInt = 20 := (by decide); have z5 : (9 : Int32).toInt = 9 := (by decide); omega) (by have q0 := ti_nlt b1_1; have q1 := ti_nle b9_2; have q2 := ti_nlt b22_4; have q3 := ti_in (iv_110 hI); have z0 : (0 : Int32).toInt = 0 := (by decide); have z1 : (1 : Int32).toInt = 1 := (by decide); have z2 : (110 : Int32).toInt = 110 := (by decide); have z3 : (112 : Int32).toInt = 112 := (by decide); have z4 : (19 : Int32).toInt = 19 := (by decide); have z5 : (20 : Int32).toInt = 20 := (by decide); have z6 : (9 : Int32).toInt = 9 := (by decide); omega)), rfl⟩⟩
theorem dX7_notBefore_0 : decode cX7_notBefore 0 = .ok (.aload_n 0, 1) := by decide +kernel
theorem dX7_notBefore_1 : decode cX7_notBefore 1 = .ok (.getfield 9, 3) := by decide +kernel
theorem dX7_notBefore_4 : decode cX7_notBefore 4 = .ok (.iload_n 1, 1) := by decide +kernel
theorem dX7_notBefore_5 : decode cX7_notBefore 5 = .ok (.iaload, 1) := by decide +kernel
theorem dX7_notBefore_6 : decode cX7_notBefore 6 = .ok (.iload_n 2, 1) := by decide +kernel
theorem dX7_notBefore_7 : decode cX7_notBefore 7 = .ok (.if_icmp .ge 15, 3) := by decide +kernel
theorem dX7_notBefore_10 : decode cX7_notBefore 10 = .ok (.aload_n 0, 1) := by decide +kernel
theorem dX7_notBefore_11 : decode cX7_notBefore 11 = .ok (.getfield 9, 3) := by decide +kernel
theorem dX7_notBefore_14 : decode cX7_notBefore 14 = .ok (.iload_n 1, 1) := by decide +kernel
theorem dX7_notBefore_15 : decode cX7_notBefore 15 = .ok (.iload_n 2, 1) := by decide +kernel
theorem dX7_notBefore_16 : decode cX7_notBefore 16 = .ok (.iastore, 1) := by decide +kernel
theorem dX7_notBefore_17 : decode cX7_notBefore 17 = .ok (.aload_n 0, 1) := by decide +kernel
theorem dX7_notBefore_18 : decode cX7_notBefore 18 = .ok (.iconst 1, 1) := by decide +kernel
theorem dX7_notBefore_19 : decode cX7_notBefore 19 = .ok (.putfield 18, 3) := by decide +kernel
theorem dX7_notBefore_22 : decode cX7_notBefore 22 = .ok (.return_, 1) := by decide +kernel
set_option maxRecDepth 100000 in
set_option maxHeartbeats 40000000 in
theorem gx_X7_notBefore_86 {G : vG} {l : Launch} (σ : Sg) (i d : Int32) (hI : Inv σ) (hi : inR i 0 19) : Sp G l yX7_notBefore cX7_notBefore 3 none 0 0 0 [.ref 86, .int i, .int d] (WW σ) (QV (fun w2 => ∃ σ2, w2 = WW σ2 ∧ Inv σ2 ∧ Cor σ σ2)) := by
  refine Sp_of_R [(some (.ref 86)), (some (.int i)), (some (.int d))] [] rfl (by simp) rfl (Nat.le_of_ble_eq_true rfl) ?_
  refine R_aload_n (pc := 0) dX7_notBefore_0 rfl rfl ?_
  refine g_X7_9 (pc := 1) (v := .ref 87) rfl dX7_notBefore_1 (c_86 _) rfl ?_
  refine R_iload_n (pc := 4) dX7_notBefore_4 rfl rfl ?_
  have hx1 : vp_in i 20 := (vp_of_inR hi (by decide))
  refine R_iaload (pc := 5) dX7_notBefore_5 (c_87 _) hx1 ?_
  refine R_iload_n (pc := 6) dX7_notBefore_6 rfl rfl ?_
  refine R_icge (pc := 7) 22 dX7_notBefore_7 (by decide) (fun b7_2 => ?_) (fun b7_2 => ?_)
  · skip
    exact R_vret (pc := 22) dX7_notBefore_22 rfl (Nat.zero_le _) (Nat.zero_le _) ⟨rfl, _, rfl, hI, (show Cor σ σ from Cor.rfl' σ)⟩
  · skip
    refine R_aload_n (pc := 10) dX7_notBefore_10 rfl rfl ?_
    refine g_X7_9 (pc := 11) (v := .ref 87) rfl dX7_notBefore_11 (c_86 _) rfl ?_
    refine R_iload_n (pc := 14) dX7_notBefore_14 rfl rfl ?_
    refine R_iload_n (pc := 15) dX7_notBefore_15 rfl rfl ?_
    have hx3 : vp_in i 20 := (vp_of_inR hi (by decide))
    refine W_iastore (pc := 16) dX7_notBefore_16 (c_87 _) hx3 (a_87 _ _) ?_
    have hW4 := cor_sa 87 (upd (σ.2.2.1 87) (Int32.toNatClampNeg i) d) (show Cor σ σ from Cor.rfl' σ) rfl
    refine R_aload_n (pc := 17) dX7_notBefore_17 rfl rfl ?_
    refine R_iconst (pc := 18) (v := 1) dX7_notBefore_18 (by decide) ?_
    refine p_X7_18 (pc := 19) rfl dX7_notBefore_19 (c_86 _) (Nat.le_of_ble_eq_true rfl) rfl rfl (s_86_2 _ _) ?_
    have hW5 := cor_si 8602 1 hW4 rfl
    exact R_vret (pc := 22) dX7_notBefore_22 rfl (Nat.zero_le _) (Nat.zero_le _) ⟨rfl, _, rfl, hI, hW5⟩
theorem dX7_notBehind_0 : decode cX7_notBehind 0 = .ok (.aload_n 0, 1) := by decide +kernel
theorem dX7_notBehind_1 : decode cX7_notBehind 1 = .ok (.getfield 15, 3) := by decide +kernel
theorem dX7_notBehind_4 : decode cX7_notBehind 4 = .ok (.iload_n 1, 1) := by decide +kernel
theorem dX7_notBehind_5 : decode cX7_notBehind 5 = .ok (.iaload, 1) := by decide +kernel
theorem dX7_notBehind_6 : decode cX7_notBehind 6 = .ok (.iload_n 2, 1) := by decide +kernel
theorem dX7_notBehind_7 : decode cX7_notBehind 7 = .ok (.if_icmp .le 15, 3) := by decide +kernel
theorem dX7_notBehind_10 : decode cX7_notBehind 10 = .ok (.aload_n 0, 1) := by decide +kernel
theorem dX7_notBehind_11 : decode cX7_notBehind 11 = .ok (.getfield 15, 3) := by decide +kernel
theorem dX7_notBehind_14 : decode cX7_notBehind 14 = .ok (.iload_n 1, 1) := by decide +kernel
theorem dX7_notBehind_15 : decode cX7_notBehind 15 = .ok (.iload_n 2, 1) := by decide +kernel
theorem dX7_notBehind_16 : decode cX7_notBehind 16 = .ok (.iastore, 1) := by decide +kernel
theorem dX7_notBehind_17 : decode cX7_notBehind 17 = .ok (.aload_n 0, 1) := by decide +kernel
theorem dX7_notBehind_18 : decode cX7_notBehind 18 = .ok (.iconst 1, 1) := by decide +kernel
theorem dX7_notBehind_19 : decode cX7_notBehind 19 = .ok (.putfield 18, 3) := by decide +kernel
theorem dX7_notBehind_22 : decode cX7_notBehind 22 = .ok (.return_, 1) := by decide +kernel
set_option maxRecDepth 100000 in
set_option maxHeartbeats 40000000 in
theorem gx_X7_notBehind_86 {G : vG} {l : Launch} (σ : Sg) (i d : Int32) (hI : Inv σ) (hi : inR i 0 19) : Sp G l yX7_notBehind cX7_notBehind 3 none 0 0 0 [.ref 86, .int i, .int d] (WW σ) (QV (fun w2 => ∃ σ2, w2 = WW σ2 ∧ Inv σ2 ∧ Cor σ σ2)) := by
  refine Sp_of_R [(some (.ref 86)), (some (.int i)), (some (.int d))] [] rfl (by simp) rfl (Nat.le_of_ble_eq_true rfl) ?_
  refine R_aload_n (pc := 0) dX7_notBehind_0 rfl rfl ?_
  refine g_X7_15 (pc := 1) (v := .ref 88) rfl dX7_notBehind_1 (c_86 _) rfl ?_
  refine R_iload_n (pc := 4) dX7_notBehind_4 rfl rfl ?_
  have hx1 : vp_in i 20 := (vp_of_inR hi (by decide))
  refine R_iaload (pc := 5) dX7_notBehind_5 (c_88 _) hx1 ?_
  refine R_iload_n (pc := 6) dX7_notBehind_6 rfl rfl ?_
  refine R_icle (pc := 7) 22 dX7_notBehind_7 (by decide) (fun b7_2 => ?_) (fun b7_2 => ?_)
  · skip
    exact R_vret (pc := 22) dX7_notBehind_22 rfl (Nat.zero_le _) (Nat.zero_le _) ⟨rfl, _, rfl, hI, (show Cor σ σ from Cor.rfl' σ)⟩
  · skip
    refine R_aload_n (pc := 10) dX7_notBehind_10 rfl rfl ?_
    refine g_X7_15 (pc := 11) (v := .ref 88) rfl dX7_notBehind_11 (c_86 _) rfl ?_
    refine R_iload_n (pc := 14) dX7_notBehind_14 rfl rfl ?_
    refine R_iload_n (pc := 15) dX7_notBehind_15 rfl rfl ?_
    have hx3 : vp_in i 20 := (vp_of_inR hi (by decide))
    refine W_iastore (pc := 16) dX7_notBehind_16 (c_88 _) hx3 (a_88 _ _) ?_
    have hW4 := cor_sa 88 (upd (σ.2.2.1 88) (Int32.toNatClampNeg i) d) (show Cor σ σ from Cor.rfl' σ) rfl
    refine R_aload_n (pc := 17) dX7_notBehind_17 rfl rfl ?_
    refine R_iconst (pc := 18) (v := 1) dX7_notBehind_18 (by decide) ?_
    refine p_X7_18 (pc := 19) rfl dX7_notBehind_19 (c_86 _) (Nat.le_of_ble_eq_true rfl) rfl rfl (s_86_2 _ _) ?_
    have hW5 := cor_si 8602 1 hW4 rfl
    exact R_vret (pc := 22) dX7_notBehind_22 rfl (Nat.zero_le _) (Nat.zero_le _) ⟨rfl, _, rfl, hI, hW5⟩
theorem dX7_open_0 : decode cX7_open 0 = .ok (.aload_n 0, 1) := by decide +kernel
theorem dX7_open_1 : decode cX7_open 1 = .ok (.getfield 9, 3) := by decide +kernel
theorem dX7_open_4 : decode cX7_open 4 = .ok (.iload_n 1, 1) := by decide +kernel
theorem dX7_open_5 : decode cX7_open 5 = .ok (.iload_n 2, 1) := by decide +kernel
theorem dX7_open_6 : decode cX7_open 6 = .ok (.iastore, 1) := by decide +kernel
theorem dX7_open_7 : decode cX7_open 7 = .ok (.aload_n 0, 1) := by decide +kernel
theorem dX7_open_8 : decode cX7_open 8 = .ok (.getfield 15, 3) := by decide +kernel
theorem dX7_open_11 : decode cX7_open 11 = .ok (.iload_n 1, 1) := by decide +kernel
theorem dX7_open_12 : decode cX7_open 12 = .ok (.iload_n 3, 1) := by decide +kernel
theorem dX7_open_13 : decode cX7_open 13 = .ok (.iastore, 1) := by decide +kernel
theorem dX7_open_14 : decode cX7_open 14 = .ok (.return_, 1) := by decide +kernel
set_option maxRecDepth 100000 in
set_option maxHeartbeats 40000000 in
theorem gx_X7_open_86 {G : vG} {l : Launch} (σ : Sg) (i d f : Int32) (hI : Inv σ) (hi : inR i 0 19) : Sp G l yX7_open cX7_open 4 none 0 0 0 [.ref 86, .int i, .int d, .int f] (WW σ) (QV (fun w2 => ∃ σ2, w2 = WW σ2 ∧ Inv σ2 ∧ Cor σ σ2)) := by
  refine Sp_of_R [(some (.ref 86)), (some (.int i)), (some (.int d)), (some (.int f))] [] rfl (by simp) rfl (Nat.le_of_ble_eq_true rfl) ?_
  refine R_aload_n (pc := 0) dX7_open_0 rfl rfl ?_
  refine g_X7_9 (pc := 1) (v := .ref 87) rfl dX7_open_1 (c_86 _) rfl ?_
  refine R_iload_n (pc := 4) dX7_open_4 rfl rfl ?_
  refine R_iload_n (pc := 5) dX7_open_5 rfl rfl ?_
  have hx1 : vp_in i 20 := (vp_of_inR hi (by decide))
  refine W_iastore (pc := 6) dX7_open_6 (c_87 _) hx1 (a_87 _ _) ?_
  have hW2 := cor_sa 87 (upd (σ.2.2.1 87) (Int32.toNatClampNeg i) d) (show Cor σ σ from Cor.rfl' σ) rfl
  refine R_aload_n (pc := 7) dX7_open_7 rfl rfl ?_
  refine g_X7_15 (pc := 8) (v := .ref 88) rfl dX7_open_8 (c_86 _) rfl ?_
  refine R_iload_n (pc := 11) dX7_open_11 rfl rfl ?_
  refine R_iload_n (pc := 12) dX7_open_12 rfl rfl ?_
  have hx3 : vp_in i 20 := (vp_of_inR hi (by decide))
  refine W_iastore (pc := 13) dX7_open_13 (c_88 _) hx3 (a_88 _ _) ?_
  have hW4 := cor_sa 88 (upd ((uA σ 87 (upd (σ.2.2.1 87) (Int32.toNatClampNeg i) d)).2.2.1 88) (Int32.toNatClampNeg i) f) hW2 rfl
  exact R_vret (pc := 14) dX7_open_14 rfl (Nat.zero_le _) (Nat.zero_le _) ⟨rfl, _, rfl, hI, hW4⟩
set_option maxRecDepth 100000 in
set_option maxHeartbeats 40000000 in
theorem gx_X7_notBefore_89 {G : vG} {l : Launch} (σ : Sg) (i d : Int32) (hI : Inv σ) (hi : inR i 0 19) : Sp G l yX7_notBefore cX7_notBefore 3 none 0 0 0 [.ref 89, .int i, .int d] (WW σ) (QV (fun w2 => ∃ σ2, w2 = WW σ2 ∧ Inv σ2 ∧ Cor σ σ2)) := by
  refine Sp_of_R [(some (.ref 89)), (some (.int i)), (some (.int d))] [] rfl (by simp) rfl (Nat.le_of_ble_eq_true rfl) ?_
  refine R_aload_n (pc := 0) dX7_notBefore_0 rfl rfl ?_
  refine g_X7_9 (pc := 1) (v := .ref 90) rfl dX7_notBefore_1 (c_89 _) rfl ?_
  refine R_iload_n (pc := 4) dX7_notBefore_4 rfl rfl ?_
  have hx1 : vp_in i 20 := (vp_of_inR hi (by decide))
  refine R_iaload (pc := 5) dX7_notBefore_5 (c_90 _) hx1 ?_
  refine R_iload_n (pc := 6) dX7_notBefore_6 rfl rfl ?_
  refine R_icge (pc := 7) 22 dX7_notBefore_7 (by decide) (fun b7_2 => ?_) (fun b7_2 => ?_)
  · skip
    exact R_vret (pc := 22) dX7_notBefore_22 rfl (Nat.zero_le _) (Nat.zero_le _) ⟨rfl, _, rfl, hI, (show Cor σ σ from Cor.rfl' σ)⟩
  · skip
    refine R_aload_n (pc := 10) dX7_notBefore_10 rfl rfl ?_
    refine g_X7_9 (pc := 11) (v := .ref 90) rfl dX7_notBefore_11 (c_89 _) rfl ?_
    refine R_iload_n (pc := 14) dX7_notBefore_14 rfl rfl ?_
    refine R_iload_n (pc := 15) dX7_notBefore_15 rfl rfl ?_
    have hx3 : vp_in i 20 := (vp_of_inR hi (by decide))
    refine W_iastore (pc := 16) dX7_notBefore_16 (c_90 _) hx3 (a_90 _ _) ?_
    have hW4 := cor_sa 90 (upd (σ.2.2.1 90) (Int32.toNatClampNeg i) d) (show Cor σ σ from Cor.rfl' σ) rfl
    refine R_aload_n (pc := 17) dX7_notBefore_17 rfl rfl ?_
    refine R_iconst (pc := 18) (v := 1) dX7_notBefore_18 (by decide) ?_
    refine p_X7_18 (pc := 19) rfl dX7_notBefore_19 (c_89 _) (Nat.le_of_ble_eq_true rfl) rfl rfl (s_89_2 _ _) ?_
    have hW5 := cor_si 8902 1 hW4 rfl
    exact R_vret (pc := 22) dX7_notBefore_22 rfl (Nat.zero_le _) (Nat.zero_le _) ⟨rfl, _, rfl, hI, hW5⟩
set_option maxRecDepth 100000 in
set_option maxHeartbeats 40000000 in
theorem gx_X7_notBehind_89 {G : vG} {l : Launch} (σ : Sg) (i d : Int32) (hI : Inv σ) (hi : inR i 0 19) : Sp G l yX7_notBehind cX7_notBehind 3 none 0 0 0 [.ref 89, .int i, .int d] (WW σ) (QV (fun w2 => ∃ σ2, w2 = WW σ2 ∧ Inv σ2 ∧ Cor σ σ2)) := by
  refine Sp_of_R [(some (.ref 89)), (some (.int i)), (some (.int d))] [] rfl (by simp) rfl (Nat.le_of_ble_eq_true rfl) ?_
  refine R_aload_n (pc := 0) dX7_notBehind_0 rfl rfl ?_
  refine g_X7_15 (pc := 1) (v := .ref 91) rfl dX7_notBehind_1 (c_89 _) rfl ?_
  refine R_iload_n (pc := 4) dX7_notBehind_4 rfl rfl ?_
  have hx1 : vp_in i 20 := (vp_of_inR hi (by decide))
  refine R_iaload (pc := 5) dX7_notBehind_5 (c_91 _) hx1 ?_
  refine R_iload_n (pc := 6) dX7_notBehind_6 rfl rfl ?_
  refine R_icle (pc := 7) 22 dX7_notBehind_7 (by decide) (fun b7_2 => ?_) (fun b7_2 => ?_)
  · skip
    exact R_vret (pc := 22) dX7_notBehind_22 rfl (Nat.zero_le _) (Nat.zero_le _) ⟨rfl, _, rfl, hI, (show Cor σ σ from Cor.rfl' σ)⟩
  · skip
    refine R_aload_n (pc := 10) dX7_notBehind_10 rfl rfl ?_
    refine g_X7_15 (pc := 11) (v := .ref 91) rfl dX7_notBehind_11 (c_89 _) rfl ?_
    refine R_iload_n (pc := 14) dX7_notBehind_14 rfl rfl ?_
    refine R_iload_n (pc := 15) dX7_notBehind_15 rfl rfl ?_
    have hx3 : vp_in i 20 := (vp_of_inR hi (by decide))
    refine W_iastore (pc := 16) dX7_notBehind_16 (c_91 _) hx3 (a_91 _ _) ?_
    have hW4 := cor_sa 91 (upd (σ.2.2.1 91) (Int32.toNatClampNeg i) d) (show Cor σ σ from Cor.rfl' σ) rfl
    refine R_aload_n (pc := 17) dX7_notBehind_17 rfl rfl ?_
    refine R_iconst (pc := 18) (v := 1) dX7_notBehind_18 (by decide) ?_
    refine p_X7_18 (pc := 19) rfl dX7_notBehind_19 (c_89 _) (Nat.le_of_ble_eq_true rfl) rfl rfl (s_89_2 _ _) ?_
    have hW5 := cor_si 8902 1 hW4 rfl
    exact R_vret (pc := 22) dX7_notBehind_22 rfl (Nat.zero_le _) (Nat.zero_le _) ⟨rfl, _, rfl, hI, hW5⟩
set_option maxRecDepth 100000 in
set_option maxHeartbeats 40000000 in
theorem gx_X7_open_89 {G : vG} {l : Launch} (σ : Sg) (i d f : Int32) (hI : Inv σ) (hi : inR i 0 19) : Sp G l yX7_open cX7_open 4 none 0 0 0 [.ref 89, .int i, .int d, .int f] (WW σ) (QV (fun w2 => ∃ σ2, w2 = WW σ2 ∧ Inv σ2 ∧ Cor σ σ2)) := by
  refine Sp_of_R [(some (.ref 89)), (some (.int i)), (some (.int d)), (some (.int f))] [] rfl (by simp) rfl (Nat.le_of_ble_eq_true rfl) ?_
  refine R_aload_n (pc := 0) dX7_open_0 rfl rfl ?_
  refine g_X7_9 (pc := 1) (v := .ref 90) rfl dX7_open_1 (c_89 _) rfl ?_
  refine R_iload_n (pc := 4) dX7_open_4 rfl rfl ?_
  refine R_iload_n (pc := 5) dX7_open_5 rfl rfl ?_
  have hx1 : vp_in i 20 := (vp_of_inR hi (by decide))
  refine W_iastore (pc := 6) dX7_open_6 (c_90 _) hx1 (a_90 _ _) ?_
  have hW2 := cor_sa 90 (upd (σ.2.2.1 90) (Int32.toNatClampNeg i) d) (show Cor σ σ from Cor.rfl' σ) rfl
  refine R_aload_n (pc := 7) dX7_open_7 rfl rfl ?_
  refine g_X7_15 (pc := 8) (v := .ref 91) rfl dX7_open_8 (c_89 _) rfl ?_
  refine R_iload_n (pc := 11) dX7_open_11 rfl rfl ?_
  refine R_iload_n (pc := 12) dX7_open_12 rfl rfl ?_
  have hx3 : vp_in i 20 := (vp_of_inR hi (by decide))
  refine W_iastore (pc := 13) dX7_open_13 (c_91 _) hx3 (a_91 _ _) ?_
  have hW4 := cor_sa 91 (upd ((uA σ 90 (upd (σ.2.2.1 90) (Int32.toNatClampNeg i) d)).2.2.1 91) (Int32.toNatClampNeg i) f) hW2 rfl
  exact R_vret (pc := 14) dX7_open_14 rfl (Nat.zero_le _) (Nat.zero_le _) ⟨rfl, _, rfl, hI, hW4⟩
theorem dX4_isFor_0 : decode cX4_isFor 0 = .ok (.aload_n 0, 1) := by decide +kernel
theorem dX4_isFor_1 : decode cX4_isFor 1 = .ok (.getfield 9, 3) := by decide +kernel
theorem dX4_isFor_4 : decode cX4_isFor 4 = .ok (.iload_n 1, 1) := by decide +kernel
theorem dX4_isFor_5 : decode cX4_isFor 5 = .ok (.iaload, 1) := by decide +kernel
theorem dX4_isFor_6 : decode cX4_isFor 6 = .ok (.iload_n 2, 1) := by decide +kernel
theorem dX4_isFor_7 : decode cX4_isFor 7 = .ok (.if_icmp .ne 26, 3) := by decide +kernel
theorem dX4_isFor_10 : decode cX4_isFor 10 = .ok (.iload_n 3, 1) := by decide +kernel
theorem dX4_isFor_11 : decode cX4_isFor 11 = .ok (.aload_n 0, 1) := by decide +kernel
theorem dX4_isFor_12 : decode cX4_isFor 12 = .ok (.getfield 15, 3) := by decide +kernel
theorem dX4_isFor_15 : decode cX4_isFor 15 = .ok (.iload_n 1, 1) := by decide +kernel
theorem dX4_isFor_16 : decode cX4_isFor 16 = .ok (.iaload, 1) := by decide +kernel
theorem dX4_isFor_17 : decode cX4_isFor 17 = .ok (.aload_n 0, 1) := by decide +kernel
theorem dX4_isFor_18 : decode cX4_isFor 18 = .ok (.getfield 18, 3) := by decide +kernel
theorem dX4_isFor_21 : decode cX4_isFor 21 = .ok (.iload_n 1, 1) := by decide +kernel
theorem dX4_isFor_22 : decode cX4_isFor 22 = .ok (.iaload, 1) := by decide +kernel
theorem dX4_isFor_23 : decode cX4_isFor 23 = .ok (.invokestatic 31, 3) := by decide +kernel
theorem dX4_isFor_26 : decode cX4_isFor 26 = .ok (.ifCond .eq 7, 3) := by decide +kernel
theorem dX4_isFor_29 : decode cX4_isFor 29 = .ok (.iconst 1, 1) := by decide +kernel
theorem dX4_isFor_30 : decode cX4_isFor 30 = .ok (.goto 4, 3) := by decide +kernel
theorem dX4_isFor_33 : decode cX4_isFor 33 = .ok (.iconst 0, 1) := by decide +kernel
theorem dX4_isFor_34 : decode cX4_isFor 34 = .ok (.ireturn, 1) := by decide +kernel
set_option maxRecDepth 100000 in
set_option maxHeartbeats 40000000 in
theorem gx_X4_isFor_119 {G : vG} {l : Launch} (σ : Sg) (i a b : Int32) (hI : Inv σ) (hi : inR i 0 7) : Sp G l yX4_isFor cX4_isFor 4 (some .boolean) 1 0 0 [.ref 119, .int i, .int a, .int b] (WW σ) (QI (fun x w2 => w2 = WW σ ∧ (x = 1 ∨ x = 0))) := by
  refine Sp_of_R [(some (.ref 119)), (some (.int i)), (some (.int a)), (some (.int b))] [] rfl (by simp) rfl (Nat.le_of_ble_eq_true rfl) ?_
  refine R_aload_n (pc := 0) dX4_isFor_0 rfl rfl ?_
  refine g_X4_9 (pc := 1) (v := .ref 120) rfl dX4_isFor_1 (c_119 _) rfl ?_
  refine R_iload_n (pc := 4) dX4_isFor_4 rfl rfl ?_
  have hx1 : vp_in i 8 := (vp_of_inR hi (by decide))
  refine R_iaload (pc := 5) dX4_isFor_5 (c_120 _) hx1 ?_
  refine R_iload_n (pc := 6) dX4_isFor_6 rfl rfl ?_
  refine R_icne (pc := 7) 33 dX4_isFor_7 (by decide) (fun b7_2 => ?_) (fun b7_2 => ?_)
  · skip
    refine R_iconst (pc := 33) (v := 0) dX4_isFor_33 (by decide) ?_
    exact R_iret (pc := 34) dX4_isFor_34 rfl rfl (Nat.zero_le _) (Nat.zero_le _) ⟨_, rfl, rfl, Or.inr rfl⟩
  · skip
    refine R_iload_n (pc := 10) dX4_isFor_10 rfl rfl ?_
    refine R_aload_n (pc := 11) dX4_isFor_11 rfl rfl ?_
    refine g_X4_15 (pc := 12) (v := .ref 121) rfl dX4_isFor_12 (c_119 _) rfl ?_
    refine R_iload_n (pc := 15) dX4_isFor_15 rfl rfl ?_
    have hx3 : vp_in i 8 := (vp_of_inR hi (by decide))
    refine R_iaload (pc := 16) dX4_isFor_16 (c_121 _) hx3 ?_
    refine R_aload_n (pc := 17) dX4_isFor_17 rfl rfl ?_
    refine g_X4_18 (pc := 18) (v := .ref 122) rfl dX4_isFor_18 (c_119 _) rfl ?_
    refine R_iload_n (pc := 21) dX4_isFor_21 rfl rfl ?_
    have hx4 : vp_in i 8 := (vp_of_inR hi (by decide))
    refine R_iaload (pc := 22) dX4_isFor_22 (c_122 _) hx4 ?_
    refine k_X4_31 (pc := 23) (sp_X8_isWithin _ _ _ _) rfl (by decide) (Nat.le_refl _) (Nat.le_refl _) (Nat.le_of_ble_eq_true rfl) dX4_isFor_23 (fun x w2 h => ?_)
    rcases h with ⟨rfl, ⟨h5, rfl⟩ | ⟨h5, rfl⟩⟩
    · skip
      refine R_ifeq (pc := 26) 33 dX4_isFor_26 (by decide) (fun h => absurd h (by decide)) (fun _ => ?_)
      refine R_iconst (pc := 29) (v := 1) dX4_isFor_29 (by decide) ?_
      refine R_goto (pc := 30) 34 dX4_isFor_30 (by decide) ?_
      exact R_iret (pc := 34) dX4_isFor_34 rfl rfl (Nat.zero_le _) (Nat.zero_le _) ⟨_, rfl, rfl, Or.inl rfl⟩
    · skip
      refine R_ifeq (pc := 26) 33 dX4_isFor_26 (by decide) (fun _ => ?_) (fun h => absurd (by decide) h)
      refine R_iconst (pc := 33) (v := 0) dX4_isFor_33 (by decide) ?_
      exact R_iret (pc := 34) dX4_isFor_34 rfl rfl (Nat.zero_le _) (Nat.zero_le _) ⟨_, rfl, rfl, Or.inr rfl⟩
set_option maxRecDepth 100000 in
set_option maxHeartbeats 40000000 in
theorem gx_X4_isFor_126 {G : vG} {l : Launch} (σ : Sg) (i a b : Int32) (hI : Inv σ) (hi : inR i 0 7) : Sp G l yX4_isFor cX4_isFor 4 (some .boolean) 1 0 0 [.ref 126, .int i, .int a, .int b] (WW σ) (QI (fun x w2 => w2 = WW σ ∧ (x = 1 ∨ x = 0))) := by
  refine Sp_of_R [(some (.ref 126)), (some (.int i)), (some (.int a)), (some (.int b))] [] rfl (by simp) rfl (Nat.le_of_ble_eq_true rfl) ?_
  refine R_aload_n (pc := 0) dX4_isFor_0 rfl rfl ?_
  refine g_X4_9 (pc := 1) (v := .ref 127) rfl dX4_isFor_1 (c_126 _) rfl ?_
  refine R_iload_n (pc := 4) dX4_isFor_4 rfl rfl ?_
  have hx1 : vp_in i 8 := (vp_of_inR hi (by decide))
  refine R_iaload (pc := 5) dX4_isFor_5 (c_127 _) hx1 ?_
  refine R_iload_n (pc := 6) dX4_isFor_6 rfl rfl ?_
  refine R_icne (pc := 7) 33 dX4_isFor_7 (by decide) (fun b7_2 => ?_) (fun b7_2 => ?_)
  · skip
    refine R_iconst (pc := 33) (v := 0) dX4_isFor_33 (by decide) ?_
    exact R_iret (pc := 34) dX4_isFor_34 rfl rfl (Nat.zero_le _) (Nat.zero_le _) ⟨_, rfl, rfl, Or.inr rfl⟩
  · skip
    refine R_iload_n (pc := 10) dX4_isFor_10 rfl rfl ?_
    refine R_aload_n (pc := 11) dX4_isFor_11 rfl rfl ?_
    refine g_X4_15 (pc := 12) (v := .ref 128) rfl dX4_isFor_12 (c_126 _) rfl ?_
    refine R_iload_n (pc := 15) dX4_isFor_15 rfl rfl ?_
    have hx3 : vp_in i 8 := (vp_of_inR hi (by decide))
    refine R_iaload (pc := 16) dX4_isFor_16 (c_128 _) hx3 ?_
    refine R_aload_n (pc := 17) dX4_isFor_17 rfl rfl ?_
    refine g_X4_18 (pc := 18) (v := .ref 129) rfl dX4_isFor_18 (c_126 _) rfl ?_
    refine R_iload_n (pc := 21) dX4_isFor_21 rfl rfl ?_
    have hx4 : vp_in i 8 := (vp_of_inR hi (by decide))
    refine R_iaload (pc := 22) dX4_isFor_22 (c_129 _) hx4 ?_
    refine k_X4_31 (pc := 23) (sp_X8_isWithin _ _ _ _) rfl (by decide) (Nat.le_refl _) (Nat.le_refl _) (Nat.le_of_ble_eq_true rfl) dX4_isFor_23 (fun x w2 h => ?_)
    rcases h with ⟨rfl, ⟨h5, rfl⟩ | ⟨h5, rfl⟩⟩
    · skip
      refine R_ifeq (pc := 26) 33 dX4_isFor_26 (by decide) (fun h => absurd h (by decide)) (fun _ => ?_)
      refine R_iconst (pc := 29) (v := 1) dX4_isFor_29 (by decide) ?_
      refine R_goto (pc := 30) 34 dX4_isFor_30 (by decide) ?_
      exact R_iret (pc := 34) dX4_isFor_34 rfl rfl (Nat.zero_le _) (Nat.zero_le _) ⟨_, rfl, rfl, Or.inl rfl⟩
    · skip
      refine R_ifeq (pc := 26) 33 dX4_isFor_26 (by decide) (fun _ => ?_) (fun h => absurd (by decide) h)
      refine R_iconst (pc := 33) (v := 0) dX4_isFor_33 (by decide) ?_
      exact R_iret (pc := 34) dX4_isFor_34 rfl rfl (Nat.zero_le _) (Nat.zero_le _) ⟨_, rfl, rfl, Or.inr rfl⟩
set_option maxRecDepth 100000 in
set_option maxHeartbeats 40000000 in
theorem gx_X4_isFor_133 {G : vG} {l : Launch} (σ : Sg) (i a b : Int32) (hI : Inv σ) (hi : inR i 0 7) : Sp G l yX4_isFor cX4_isFor 4 (some .boolean) 1 0 0 [.ref 133, .int i, .int a, .int b] (WW σ) (QI (fun x w2 => w2 = WW σ ∧ (x = 1 ∨ x = 0))) := by
  refine Sp_of_R [(some (.ref 133)), (some (.int i)), (some (.int a)), (some (.int b))] [] rfl (by simp) rfl (Nat.le_of_ble_eq_true rfl) ?_
  refine R_aload_n (pc := 0) dX4_isFor_0 rfl rfl ?_
  refine g_X4_9 (pc := 1) (v := .ref 134) rfl dX4_isFor_1 (c_133 _) rfl ?_
  refine R_iload_n (pc := 4) dX4_isFor_4 rfl rfl ?_
  have hx1 : vp_in i 8 := (vp_of_inR hi (by decide))
  refine R_iaload (pc := 5) dX4_isFor_5 (c_134 _) hx1 ?_
  refine R_iload_n (pc := 6) dX4_isFor_6 rfl rfl ?_
  refine R_icne (pc := 7) 33 dX4_isFor_7 (by decide) (fun b7_2 => ?_) (fun b7_2 => ?_)
  · skip
    refine R_iconst (pc := 33) (v := 0) dX4_isFor_33 (by decide) ?_
    exact R_iret (pc := 34) dX4_isFor_34 rfl rfl (Nat.zero_le _) (Nat.zero_le _) ⟨_, rfl, rfl, Or.inr rfl⟩
  · skip
    refine R_iload_n (pc := 10) dX4_isFor_10 rfl rfl ?_
    refine R_aload_n (pc := 11) dX4_isFor_11 rfl rfl ?_
    refine g_X4_15 (pc := 12) (v := .ref 135) rfl dX4_isFor_12 (c_133 _) rfl ?_
    refine R_iload_n (pc := 15) dX4_isFor_15 rfl rfl ?_
    have hx3 : vp_in i 8 := (vp_of_inR hi (by decide))
    refine R_iaload (pc := 16) dX4_isFor_16 (c_135 _) hx3 ?_
    refine R_aload_n (pc := 17) dX4_isFor_17 rfl rfl ?_
    refine g_X4_18 (pc := 18) (v := .ref 136) rfl dX4_isFor_18 (c_133 _) rfl ?_
    refine R_iload_n (pc := 21) dX4_isFor_21 rfl rfl ?_
    have hx4 : vp_in i 8 := (vp_of_inR hi (by decide))
    refine R_iaload (pc := 22) dX4_isFor_22 (c_136 _) hx4 ?_
    refine k_X4_31 (pc := 23) (sp_X8_isWithin _ _ _ _) rfl (by decide) (Nat.le_refl _) (Nat.le_refl _) (Nat.le_of_ble_eq_true rfl) dX4_isFor_23 (fun x w2 h => ?_)
    rcases h with ⟨rfl, ⟨h5, rfl⟩ | ⟨h5, rfl⟩⟩
    · skip
      refine R_ifeq (pc := 26) 33 dX4_isFor_26 (by decide) (fun h => absurd h (by decide)) (fun _ => ?_)
      refine R_iconst (pc := 29) (v := 1) dX4_isFor_29 (by decide) ?_
      refine R_goto (pc := 30) 34 dX4_isFor_30 (by decide) ?_
      exact R_iret (pc := 34) dX4_isFor_34 rfl rfl (Nat.zero_le _) (Nat.zero_le _) ⟨_, rfl, rfl, Or.inl rfl⟩
    · skip
      refine R_ifeq (pc := 26) 33 dX4_isFor_26 (by decide) (fun _ => ?_) (fun h => absurd (by decide) h)
      refine R_iconst (pc := 33) (v := 0) dX4_isFor_33 (by decide) ?_
      exact R_iret (pc := 34) dX4_isFor_34 rfl rfl (Nat.zero_le _) (Nat.zero_le _) ⟨_, rfl, rfl, Or.inr rfl⟩
theorem dX1_canBePublished_0 : decode cX1_canBePublished 0 = .ok (.aload_n 0, 1) := by decide +kernel
theorem dX1_canBePublished_1 : decode cX1_canBePublished 1 = .ok (.getfield 42, 3) := by decide +kernel
theorem dX1_canBePublished_4 : decode cX1_canBePublished 4 = .ok (.getfield 133, 3) := by decide +kernel
theorem dX1_canBePublished_7 : decode cX1_canBePublished 7 = .ok (.iload_n 1, 1) := by decide +kernel
theorem dX1_canBePublished_8 : decode cX1_canBePublished 8 = .ok (.iaload, 1) := by decide +kernel
theorem dX1_canBePublished_9 : decode cX1_canBePublished 9 = .ok (.iload_n 3, 1) := by decide +kernel
theorem dX1_canBePublished_10 : decode cX1_canBePublished 10 = .ok (.if_icmp .gt 20, 3) := by decide +kernel
theorem dX1_canBePublished_13 : decode cX1_canBePublished 13 = .ok (.aload_n 0, 1) := by decide +kernel
theorem dX1_canBePublished_14 : decode cX1_canBePublished 14 = .ok (.getfield 42, 3) := by decide +kernel
theorem dX1_canBePublished_17 : decode cX1_canBePublished 17 = .ok (.getfield 136, 3) := by decide +kernel
theorem dX1_canBePublished_20 : decode cX1_canBePublished 20 = .ok (.iload_n 1, 1) := by decide +kernel
theorem dX1_canBePublished_21 : decode cX1_canBePublished 21 = .ok (.iaload, 1) := by decide +kernel
theorem dX1_canBePublished_22 : decode cX1_canBePublished 22 = .ok (.iload_n 2, 1) := by decide +kernel
theorem dX1_canBePublished_23 : decode cX1_canBePublished 23 = .ok (.if_icmp .lt 7, 3) := by decide +kernel
theorem dX1_canBePublished_26 : decode cX1_canBePublished 26 = .ok (.iconst 1, 1) := by decide +kernel
theorem dX1_canBePublished_27 : decode cX1_canBePublished 27 = .ok (.goto 4, 3) := by decide +kernel
theorem dX1_canBePublished_30 : decode cX1_canBePublished 30 = .ok (.iconst 0, 1) := by decide +kernel
theorem dX1_canBePublished_31 : decode cX1_canBePublished 31 = .ok (.ireturn, 1) := by decide +kernel
set_option maxRecDepth 100000 in
set_option maxHeartbeats 40000000 in
theorem gx_X1_canBePublished {G : vG} {l : Launch} (σ : Sg) (c a b : Int32) (hi : inR c 0 19) : Sp G l yX1_canBePublished cX1_canBePublished 4 (some .boolean) 0 0 0 [.ref 58, .int c, .int a, .int b] (WW σ) (QI (fun x w2 => w2 = WW σ ∧ (x = 1 ∨ x = 0))) := by
  refine Sp_of_R [(some (.ref 58)), (some (.int c)), (some (.int a)), (some (.int b))] [] rfl (by simp) rfl (Nat.le_of_ble_eq_true rfl) ?_
  refine R_aload_n (pc := 0) dX1_canBePublished_0 rfl rfl ?_
  refine g_X1_42 (pc := 1) (v := .ref 89) rfl dX1_canBePublished_1 (c_58 _) rfl ?_
  refine g_X1_133 (pc := 4) (v := .ref 90) rfl dX1_canBePublished_4 (c_89 _) rfl ?_
  refine R_iload_n (pc := 7) dX1_canBePublished_7 rfl rfl ?_
  have hx1 : vp_in c 20 := (vp_of_inR hi (by decide))
  refine R_iaload (pc := 8) dX1_canBePublished_8 (c_90 _) hx1 ?_
  refine R_iload_n (pc := 9) dX1_canBePublished_9 rfl rfl ?_
  refine R_icgt (pc := 10) 30 dX1_canBePublished_10 (by decide) (fun b10_2 => ?_) (fun b10_2 => ?_)
  · skip
    refine R_iconst (pc := 30) (v := 0) dX1_canBePublished_30 (by decide) ?_
    exact R_iret (pc := 31) dX1_canBePublished_31 rfl rfl (Nat.zero_le _) (Nat.zero_le _) ⟨_, rfl, rfl, Or.inr rfl⟩
  · skip
    refine R_aload_n (pc := 13) dX1_canBePublished_13 rfl rfl ?_
    refine g_X1_42 (pc := 14) (v := .ref 89) rfl dX1_canBePublished_14 (c_58 _) rfl ?_
    refine g_X1_136 (pc := 17) (v := .ref 91) rfl dX1_canBePublished_17 (c_89 _) rfl ?_
    refine R_iload_n (pc := 20) dX1_canBePublished_20 rfl rfl ?_
    have hx3 : vp_in c 20 := (vp_of_inR hi (by decide))
    refine R_iaload (pc := 21) dX1_canBePublished_21 (c_91 _) hx3 ?_
    refine R_iload_n (pc := 22) dX1_canBePublished_22 rfl rfl ?_
    refine R_iclt (pc := 23) 30 dX1_canBePublished_23 (by decide) (fun b23_4 => ?_) (fun b23_4 => ?_)
    · skip
      refine R_iconst (pc := 30) (v := 0) dX1_canBePublished_30 (by decide) ?_
      exact R_iret (pc := 31) dX1_canBePublished_31 rfl rfl (Nat.zero_le _) (Nat.zero_le _) ⟨_, rfl, rfl, Or.inr rfl⟩
    · skip
      refine R_iconst (pc := 26) (v := 1) dX1_canBePublished_26 (by decide) ?_
      refine R_goto (pc := 27) 31 dX1_canBePublished_27 (by decide) ?_
      exact R_iret (pc := 31) dX1_canBePublished_31 rfl rfl (Nat.zero_le _) (Nat.zero_le _) ⟨_, rfl, rfl, Or.inl rfl⟩
theorem dX5_isMissing_0 : decode cX5_isMissing 0 = .ok (.iload_n 1, 1) := by decide +kernel
theorem dX5_isMissing_1 : decode cX5_isMissing 1 = .ok (.aload_n 0, 1) := by decide +kernel
theorem dX5_isMissing_2 : decode cX5_isMissing 2 = .ok (.getfield 37, 3) := by decide +kernel
theorem dX5_isMissing_5 : decode cX5_isMissing 5 = .ok (.if_icmp .le 24, 3) := by decide +kernel
theorem dX5_isMissing_8 : decode cX5_isMissing 8 = .ok (.iload_n 1, 1) := by decide +kernel
theorem dX5_isMissing_9 : decode cX5_isMissing 9 = .ok (.aload_n 0, 1) := by decide +kernel
theorem dX5_isMissing_10 : decode cX5_isMissing 10 = .ok (.getfield 40, 3) := by decide +kernel
theorem dX5_isMissing_13 : decode cX5_isMissing 13 = .ok (.if_icmp .ge 16, 3) := by decide +kernel
theorem dX5_isMissing_16 : decode cX5_isMissing 16 = .ok (.aload_n 0, 1) := by decide +kernel
theorem dX5_isMissing_17 : decode cX5_isMissing 17 = .ok (.getfield 9, 3) := by decide +kernel
theorem dX5_isMissing_20 : decode cX5_isMissing 20 = .ok (.iload_n 1, 1) := by decide +kernel
theorem dX5_isMissing_21 : decode cX5_isMissing 21 = .ok (.baload, 1) := by decide +kernel
theorem dX5_isMissing_22 : decode cX5_isMissing 22 = .ok (.ifCond .ne 7, 3) := by decide +kernel
theorem dX5_isMissing_25 : decode cX5_isMissing 25 = .ok (.iconst 1, 1) := by decide +kernel
theorem dX5_isMissing_26 : decode cX5_isMissing 26 = .ok (.goto 4, 3) := by decide +kernel
theorem dX5_isMissing_29 : decode cX5_isMissing 29 = .ok (.iconst 0, 1) := by decide +kernel
theorem dX5_isMissing_30 : decode cX5_isMissing 30 = .ok (.ireturn, 1) := by decide +kernel
set_option maxRecDepth 100000 in
set_option maxHeartbeats 40000000 in
theorem gx_X5_isMissing {G : vG} {l : Launch} (σ : Sg) (n : Int32) (hI : Inv σ) : Sp G l yX5_isMissing cX5_isMissing 2 (some .boolean) 0 0 0 [.ref 56, .int n] (WW σ) (QI (fun x w2 => w2 = WW σ ∧ (x = 1 ∨ x = 0))) := by
  refine Sp_of_R [(some (.ref 56)), (some (.int n))] [] rfl (by simp) rfl (Nat.le_of_ble_eq_true rfl) ?_
  refine R_iload_n (pc := 0) dX5_isMissing_0 rfl rfl ?_
  refine R_aload_n (pc := 1) dX5_isMissing_1 rfl rfl ?_
  refine g_X5_37 (pc := 2) (v := .int (σ.1 5603)) rfl dX5_isMissing_2 (c_56 _) rfl ?_
  refine R_icle (pc := 5) 29 dX5_isMissing_5 (by decide) (fun b5_1 => ?_) (fun b5_1 => ?_)
  · skip
    refine R_iconst (pc := 29) (v := 0) dX5_isMissing_29 (by decide) ?_
    exact R_iret (pc := 30) dX5_isMissing_30 rfl rfl (Nat.zero_le _) (Nat.zero_le _) ⟨_, rfl, rfl, Or.inr rfl⟩
  · skip
    refine R_iload_n (pc := 8) dX5_isMissing_8 rfl rfl ?_
    refine R_aload_n (pc := 9) dX5_isMissing_9 rfl rfl ?_
    refine g_X5_40 (pc := 10) (v := .int (σ.1 5604)) rfl dX5_isMissing_10 (c_56 _) rfl ?_
    refine R_icge (pc := 13) 29 dX5_isMissing_13 (by decide) (fun b13_2 => ?_) (fun b13_2 => ?_)
    · skip
      refine R_iconst (pc := 29) (v := 0) dX5_isMissing_29 (by decide) ?_
      exact R_iret (pc := 30) dX5_isMissing_30 rfl rfl (Nat.zero_le _) (Nat.zero_le _) ⟨_, rfl, rfl, Or.inr rfl⟩
    · skip
      refine R_aload_n (pc := 16) dX5_isMissing_16 rfl rfl ?_
      refine g_X5_9 (pc := 17) (v := .ref 57) rfl dX5_isMissing_17 (c_56 _) rfl ?_
      refine R_iload_n (pc := 20) dX5_isMissing_20 rfl rfl ?_
      have hx3 : vp_in n 100 := (vp_ti (by have q0 := ti_nle b5_1; have q1 := ti_nle b13_2; have q2 := ti_in (iv_5603 hI); have q3 := ti_in (iv_5604 hI); have z0 : (-1 : Int32).toInt = -1 := (by decide); have z1 : (0 : Int32).toInt = 0 := (by decide); have z2 : (1 : Int32).toInt = 1 := (by decide); have z3 : (5603 : Int32).toInt = 5603 := (by decide); have z4 : (5604 : Int32).toInt = 5604 := (by decide); have z5 : (99 : Int32).toInt = 99 := (by decide); omega) (by have q0 := ti_nle b5_1; have q1 := ti_nle b13_2; have q2 := ti_in (iv_5603 hI); have q3 := ti_in (iv_5604 hI); have z0 : (-1 : Int32).toInt = -1 := (by decide); have z1 : (0 : Int32).toInt = 0 := (by decide); have z2 : (1 : Int32).toInt = 1 := (by decide); have z3 : (5603 : Int32).toInt = 5603 := (by decide); have z4 : (5604 : Int32).toInt = 5604 := (by decide); have z5 : (99 : Int32).toInt = 99 := (by decide); omega))
      refine R_baload (pc := 21) dX5_isMissing_21 (c_57 _) hx3 ?_
      refine R_ifne (pc := 22) 29 dX5_isMissing_22 (by decide) (fun b22_4 => ?_) (fun b22_4 => ?_)
      · skip
        refine R_iconst (pc := 29) (v := 0) dX5_isMissing_29 (by decide) ?_
        exact R_iret (pc := 30) dX5_isMissing_30 rfl rfl (Nat.zero_le _) (Nat.zero_le _) ⟨_, rfl, rfl, Or.inr rfl⟩
      · skip
        refine R_iconst (pc := 25) (v := 1) dX5_isMissing_25 (by decide) ?_
        refine R_goto (pc := 26) 30 dX5_isMissing_26 (by decide) ?_
        exact R_iret (pc := 30) dX5_isMissing_30 rfl rfl (Nat.zero_le _) (Nat.zero_le _) ⟨_, rfl, rfl, Or.inl rfl⟩
theorem dX5_isByGap_0 : decode cX5_isByGap 0 = .ok (.iload_n 1, 1) := by decide +kernel
theorem dX5_isByGap_1 : decode cX5_isByGap 1 = .ok (.ifCond .le 27, 3) := by decide +kernel
theorem dX5_isByGap_4 : decode cX5_isByGap 4 = .ok (.aload_n 0, 1) := by decide +kernel
theorem dX5_isByGap_5 : decode cX5_isByGap 5 = .ok (.iload_n 1, 1) := by decide +kernel
theorem dX5_isByGap_6 : decode cX5_isByGap 6 = .ok (.iconst 1, 1) := by decide +kernel
theorem dX5_isByGap_7 : decode cX5_isByGap 7 = .ok (.isub, 1) := by decide +kernel
theorem dX5_isByGap_8 : decode cX5_isByGap 8 = .ok (.invokevirtual 43, 3) := by decide +kernel
theorem dX5_isByGap_11 : decode cX5_isByGap 11 = .ok (.ifCond .ne 13, 3) := by decide +kernel
theorem dX5_isByGap_14 : decode cX5_isByGap 14 = .ok (.aload_n 0, 1) := by decide +kernel
theorem dX5_isByGap_15 : decode cX5_isByGap 15 = .ok (.iload_n 1, 1) := by decide +kernel
theorem dX5_isByGap_16 : decode cX5_isByGap 16 = .ok (.iconst 1, 1) := by decide +kernel
theorem dX5_isByGap_17 : decode cX5_isByGap 17 = .ok (.iadd, 1) := by decide +kernel
theorem dX5_isByGap_18 : decode cX5_isByGap 18 = .ok (.invokevirtual 43, 3) := by decide +kernel
theorem dX5_isByGap_21 : decode cX5_isByGap 21 = .ok (.ifCond .eq 7, 3) := by decide +kernel
theorem dX5_isByGap_24 : decode cX5_isByGap 24 = .ok (.iconst 1, 1) := by decide +kernel
theorem dX5_isByGap_25 : decode cX5_isByGap 25 = .ok (.goto 4, 3) := by decide +kernel
theorem dX5_isByGap_28 : decode cX5_isByGap 28 = .ok (.iconst 0, 1) := by decide +kernel
theorem dX5_isByGap_29 : decode cX5_isByGap 29 = .ok (.ireturn, 1) := by decide +kernel
theorem dX5_missing_0 : decode cX5_missing 0 = .ok (.aload_n 0, 1) := by decide +kernel
theorem dX5_missing_1 : decode cX5_missing 1 = .ok (.getfield 36, 3) := by decide +kernel
theorem dX5_missing_4 : decode cX5_missing 4 = .ok (.ifCond .ne 7, 3) := by decide +kernel
theorem dX5_missing_7 : decode cX5_missing 7 = .ok (.iconst 0, 1) := by decide +kernel
theorem dX5_missing_8 : decode cX5_missing 8 = .ok (.goto 19, 3) := by decide +kernel
theorem dX5_missing_11 : decode cX5_missing 11 = .ok (.aload_n 0, 1) := by decide +kernel
theorem dX5_missing_12 : decode cX5_missing 12 = .ok (.getfield 40, 3) := by decide +kernel
theorem dX5_missing_15 : decode cX5_missing 15 = .ok (.aload_n 0, 1) := by decide +kernel
theorem dX5_missing_16 : decode cX5_missing 16 = .ok (.getfield 37, 3) := by decide +kernel
theorem dX5_missing_19 : decode cX5_missing 19 = .ok (.isub, 1) := by decide +kernel
theorem dX5_missing_20 : decode cX5_missing 20 = .ok (.iconst 1, 1) := by decide +kernel
theorem dX5_missing_21 : decode cX5_missing 21 = .ok (.iadd, 1) := by decide +kernel
theorem dX5_missing_22 : decode cX5_missing 22 = .ok (.aload_n 0, 1) := by decide +kernel
theorem dX5_missing_23 : decode cX5_missing 23 = .ok (.getfield 36, 3) := by decide +kernel
theorem dX5_missing_26 : decode cX5_missing 26 = .ok (.isub, 1) := by decide +kernel
theorem dX5_missing_27 : decode cX5_missing 27 = .ok (.ireturn, 1) := by decide +kernel
set_option maxRecDepth 100000 in
set_option maxHeartbeats 40000000 in
theorem gx_X5_missing {G : vG} {l : Launch} (σ : Sg)  (hI : Inv σ) : Sp G l yX5_missing cX5_missing 1 (some .int) 0 0 0 [.ref 56] (WW σ) (QI (fun x w2 => w2 = WW σ)) := by
  refine Sp_of_R [(some (.ref 56))] [] rfl (by simp) rfl (Nat.le_of_ble_eq_true rfl) ?_
  refine R_aload_n (pc := 0) dX5_missing_0 rfl rfl ?_
  refine g_X5_36 (pc := 1) (v := .int (σ.1 5602)) rfl dX5_missing_1 (c_56 _) rfl ?_
  refine R_ifne (pc := 4) 11 dX5_missing_4 (by decide) (fun b4_1 => ?_) (fun b4_1 => ?_)
  · skip
    refine R_aload_n (pc := 11) dX5_missing_11 rfl rfl ?_
    refine g_X5_40 (pc := 12) (v := .int (σ.1 5604)) rfl dX5_missing_12 (c_56 _) rfl ?_
    refine R_aload_n (pc := 15) dX5_missing_15 rfl rfl ?_
    refine g_X5_37 (pc := 16) (v := .int (σ.1 5603)) rfl dX5_missing_16 (c_56 _) rfl ?_
    refine R_isub (pc := 19) dX5_missing_19 ?_
    have r2 : inR ((σ.1 5604) - (σ.1 5603)) (-100) 100 := inR_sub (show inR (σ.1 5604) (-1) 99 from (iv_5604 hI)) (show inR (σ.1 5603) (-1) 99 from (iv_5603 hI)) (by decide) (by decide)
    have e3 := ti_sub (l := (-100)) (h := 100) (show inR (σ.1 5604) (-1) 99 from (iv_5604 hI)) (show inR (σ.1 5603) (-1) 99 from (iv_5603 hI)) (by decide) (by decide)
    refine R_iconst (pc := 20) (v := 1) dX5_missing_20 (by decide) ?_
    refine R_iadd (pc := 21) dX5_missing_21 ?_
    have r4 : inR (((σ.1 5604) - (σ.1 5603)) + 1) (-99) 101 := inR_add (show inR ((σ.1 5604) - (σ.1 5603)) (-100) 100 from r2) (show inR 1 1 1 from (inR_self _)) (by decide) (by decide)
    have e5 := ti_add (l := (-99)) (h := 101) (show inR ((σ.1 5604) - (σ.1 5603)) (-100) 100 from r2) (show inR 1 1 1 from (inR_self _)) (by decide) (by decide)
    refine R_aload_n (pc := 22) dX5_missing_22 rfl rfl ?_
    refine g_X5_36 (pc := 23) (v := .int (σ.1 5602)) rfl dX5_missing_23 (c_56 _) rfl ?_
    refine R_isub (pc := 26) dX5_missing_26 ?_
    exact R_iret (pc := 27) dX5_missing_27 rfl rfl (Nat.zero_le _) (Nat.zero_le _) ⟨_, rfl, rfl⟩
  · skip
    refine R_iconst (pc := 7) (v := 0) dX5_missing_7 (by decide) ?_
    refine R_goto (pc := 8) 27 dX5_missing_8 (by decide) ?_
    exact R_iret (pc := 27) dX5_missing_27 rfl rfl (Nat.zero_le _) (Nat.zero_le _) ⟨_, rfl, rfl⟩
theorem dX5_gaps_0 : decode cX5_gaps 0 = .ok (.iconst 0, 1) := by decide +kernel
theorem dX5_gaps_1 : decode cX5_gaps 1 = .ok (.istore_n 1, 1) := by decide +kernel
theorem dX5_gaps_2 : decode cX5_gaps 2 = .ok (.iconst 1, 1) := by decide +kernel
theorem dX5_gaps_3 : decode cX5_gaps 3 = .ok (.istore_n 2, 1) := by decide +kernel
theorem dX5_gaps_4 : decode cX5_gaps 4 = .ok (.iload_n 2, 1) := by decide +kernel
theorem dX5_gaps_5 : decode cX5_gaps 5 = .ok (.bipush 99, 2) := by decide +kernel
theorem dX5_gaps_7 : decode cX5_gaps 7 = .ok (.if_icmp .gt 30, 3) := by decide +kernel
theorem dX5_gaps_10 : decode cX5_gaps 10 = .ok (.aload_n 0, 1) := by decide +kernel
theorem dX5_gaps_11 : decode cX5_gaps 11 = .ok (.iload_n 2, 1) := by decide +kernel
theorem dX5_gaps_12 : decode cX5_gaps 12 = .ok (.invokevirtual 43, 3) := by decide +kernel
theorem dX5_gaps_15 : decode cX5_gaps 15 = .ok (.ifCond .eq 16, 3) := by decide +kernel
theorem dX5_gaps_18 : decode cX5_gaps 18 = .ok (.aload_n 0, 1) := by decide +kernel
theorem dX5_gaps_19 : decode cX5_gaps 19 = .ok (.iload_n 2, 1) := by decide +kernel
theorem dX5_gaps_20 : decode cX5_gaps 20 = .ok (.iconst 1, 1) := by decide +kernel
theorem dX5_gaps_21 : decode cX5_gaps 21 = .ok (.isub, 1) := by decide +kernel
theorem dX5_gaps_22 : decode cX5_gaps 22 = .ok (.invokevirtual 43, 3) := by decide +kernel
theorem dX5_gaps_25 : decode cX5_gaps 25 = .ok (.ifCond .ne 6, 3) := by decide +kernel
theorem dX5_gaps_28 : decode cX5_gaps 28 = .ok (.iinc 1 1, 3) := by decide +kernel
theorem dX5_gaps_31 : decode cX5_gaps 31 = .ok (.iinc 2 1, 3) := by decide +kernel
theorem dX5_gaps_34 : decode cX5_gaps 34 = .ok (.goto (-30), 3) := by decide +kernel
theorem dX5_gaps_37 : decode cX5_gaps 37 = .ok (.iload_n 1, 1) := by decide +kernel
theorem dX5_gaps_38 : decode cX5_gaps 38 = .ok (.ireturn, 1) := by decide +kernel
set_option maxRecDepth 100000 in
set_option maxHeartbeats 40000000 in
theorem gx_X5_gaps {G : vG} {l : Launch} (σ : Sg)  (hI : Inv σ) : Sp G l yX5_gaps cX5_gaps 3 (some .int) 1 0 0 [.ref 56] (WW σ) (QI (fun x w2 => w2 = WW σ)) := by
  refine Sp_of_R [(some (.ref 56)), none, none] [none, none] rfl (by simp) rfl (Nat.le_of_ble_eq_true rfl) ?_
  refine R_iconst (pc := 0) (v := 0) dX5_gaps_0 (by decide) ?_
  refine st_3_1_i_a (pc := 1) dX5_gaps_1 ?_
  refine R_iconst (pc := 2) (v := 1) dX5_gaps_2 (by decide) ?_
  refine st_3_2_i_i (pc := 3) dX5_gaps_3 ?_
  have HL4 : ∀ (q j4 : Nat) (g1_4 : Int32), j4 + q = 100 → 1 ≤ j4 → R G l yX5_gaps cX5_gaps 3 (some .int) 1 0 0 (QI (fun x w2 => w2 = WW σ)) 4 [(some (.ref 56)), (some (.int g1_4)), (some (.int (nI j4)))] [] (WW σ) 0 0 := by
    intro q
    induction q with
    | zero =>
      intro j4 g1_4 hj hs4
      obtain rfl : j4 = 100 := by omega
      refine R_iload_n (pc := 4) dX5_gaps_4 rfl rfl ?_
      refine R_bipush (pc := 5) (v := 99) dX5_gaps_5 (by decide) ?_
      refine R_icgt (pc := 7) 37 dX5_gaps_7 (by decide) (fun _ => ?_) (fun h => absurd (by decide) h)
      refine R_iload_n (pc := 37) dX5_gaps_37 rfl rfl ?_
      exact R_iret (pc := 38) dX5_gaps_38 rfl rfl (Nat.zero_le _) (Nat.zero_le _) ⟨_, rfl, rfl⟩
    | succ q ih4 =>
      intro j4 g1_4 hj hs4
      have hrg4 : inR (nI j4) 1 99 := inR_ix hs4 (show j4 < 100 by omega) (by decide) (by decide) (by decide)
      have hlt4 : j4 < 100 := by omega
      refine R_iload_n (pc := 4) dX5_gaps_4 rfl rfl ?_
      refine R_bipush (pc := 5) (v := 99) dX5_gaps_5 (by decide) ?_
      refine R_icgt (pc := 7) 37 dX5_gaps_7 (by decide) (fun h => False.elim (by have q1 := ti_lt h; have q2 := ti_in (show inR (nI j4) 1 99 from hrg4); have q3 := ti_in (show inR 99 99 99 from (inR_self _)); have z0 : (1 : Int32).toInt = 1 := (by decide);  have z1 : (99 : Int32).toInt = 99 := (by decide); omega)) (fun _ => ?_)
      refine R_aload_n (pc := 10) dX5_gaps_10 rfl rfl ?_
      refine R_iload_n (pc := 11) dX5_gaps_11 rfl rfl ?_
      refine k_X5_43 (pc := 12) (gx_X5_isMissing _ _ hI) rfl (c_56 _) (by decide) (Nat.le_refl _) (Nat.le_refl _) (Nat.le_of_ble_eq_true rfl) dX5_gaps_12 (fun x w2 h => ?_)
      rcases h with ⟨rfl, rfl | rfl⟩
      · skip
        refine R_ifeq (pc := 15) 31 dX5_gaps_15 (by decide) (fun h => absurd h (by decide)) (fun _ => ?_)
        refine R_aload_n (pc := 18) dX5_gaps_18 rfl rfl ?_
        refine R_iload_n (pc := 19) dX5_gaps_19 rfl rfl ?_
        refine R_iconst (pc := 20) (v := 1) dX5_gaps_20 (by decide) ?_
        refine R_isub (pc := 21) dX5_gaps_21 ?_
        have r5 : inR ((nI j4) - 1) 0 98 := inR_sub (show inR (nI j4) 1 99 from hrg4) (show inR 1 1 1 from (inR_self _)) (by decide) (by decide)
        have e6 := ti_sub (l := 0) (h := 98) (show inR (nI j4) 1 99 from hrg4) (show inR 1 1 1 from (inR_self _)) (by decide) (by decide)
        refine k_X5_43 (pc := 22) (gx_X5_isMissing _ _ hI) rfl (c_56 _) (by decide) (Nat.le_refl _) (Nat.le_refl _) (Nat.le_of_ble_eq_true rfl) dX5_gaps_22 (fun x w2 h => ?_)
        rcases h with ⟨rfl, rfl | rfl⟩
        · skip
          refine R_ifne (pc := 25) 31 dX5_gaps_25 (by decide) (fun _ => ?_) (fun h => absurd h (by decide))
          refine inc_3_2_1_i (pc := 31) dX5_gaps_31 ?_
          have r9 : inR ((nI j4) + 1) 2 100 := inR_add (show inR (nI j4) 1 99 from hrg4) (show inR 1 1 1 from (inR_self _)) (by decide) (by decide)
          have e10 := ti_add (l := 2) (h := 100) (show inR (nI j4) 1 99 from hrg4) (show inR 1 1 1 from (inR_self _)) (by decide) (by decide)
          refine R_goto (pc := 34) 4 dX5_gaps_34 (by decide) ?_
          rw [nI_1]
          exact ih4 (j4 + 1) _ (by omega) (by omega)
        · skip
          refine R_ifne (pc := 25) 31 dX5_gaps_25 (by decide) (fun h => absurd (by decide) h) (fun _ => ?_)
          refine inc_3_1_1_a (pc := 28) dX5_gaps_28 ?_
          refine inc_3_2_1_i (pc := 31) dX5_gaps_31 ?_
          have r12 : inR ((nI j4) + 1) 2 100 := inR_add (show inR (nI j4) 1 99 from hrg4) (show inR 1 1 1 from (inR_self _)) (by decide) (by decide)
          have e13 := ti_add (l := 2) (h := 100) (show inR (nI j4) 1 99 from hrg4) (show inR 1 1 1 from (inR_self _)) (by decide) (by decide)
          refine R_goto (pc := 34) 4 dX5_gaps_34 (by decide) ?_
          rw [nI_1]
          exact ih4 (j4 + 1) _ (by omega) (by omega)
      · skip
        refine R_ifeq (pc := 15) 31 dX5_gaps_15 (by decide) (fun _ => ?_) (fun h => absurd (by decide) h)
        refine inc_3_2_1_i (pc := 31) dX5_gaps_31 ?_
        have r15 : inR ((nI j4) + 1) 2 100 := inR_add (show inR (nI j4) 1 99 from hrg4) (show inR 1 1 1 from (inR_self _)) (by decide) (by decide)
        have e16 := ti_add (l := 2) (h := 100) (show inR (nI j4) 1 99 from hrg4) (show inR 1 1 1 from (inR_self _)) (by decide) (by decide)
        refine R_goto (pc := 34) 4 dX5_gaps_34 (by decide) ?_
        rw [nI_1]
        exact ih4 (j4 + 1) _ (by omega) (by omega)
  exact HL4 99 1 _ (by omega) (by omega)
theorem dX2_isInView_0 : decode cX2_isInView 0 = .ok (.iconst 0, 1) := by decide +kernel
theorem dX2_isInView_1 : decode cX2_isInView 1 = .ok (.istore_n 3, 1) := by decide +kernel
theorem dX2_isInView_2 : decode cX2_isInView 2 = .ok (.iload_n 3, 1) := by decide +kernel
theorem dX2_isInView_3 : decode cX2_isInView 3 = .ok (.aload_n 0, 1) := by decide +kernel
theorem dX2_isInView_4 : decode cX2_isInView 4 = .ok (.getfield 20, 3) := by decide +kernel
theorem dX2_isInView_7 : decode cX2_isInView 7 = .ok (.iload_n 1, 1) := by decide +kernel
theorem dX2_isInView_8 : decode cX2_isInView 8 = .ok (.iaload, 1) := by decide +kernel
theorem dX2_isInView_9 : decode cX2_isInView 9 = .ok (.if_icmp .ge 23, 3) := by decide +kernel
theorem dX2_isInView_12 : decode cX2_isInView 12 = .ok (.aload_n 0, 1) := by decide +kernel
theorem dX2_isInView_13 : decode cX2_isInView 13 = .ok (.getfield 17, 3) := by decide +kernel
theorem dX2_isInView_16 : decode cX2_isInView 16 = .ok (.iload_n 1, 1) := by decide +kernel
theorem dX2_isInView_17 : decode cX2_isInView 17 = .ok (.aaload, 1) := by decide +kernel
theorem dX2_isInView_18 : decode cX2_isInView 18 = .ok (.iload_n 3, 1) := by decide +kernel
theorem dX2_isInView_19 : decode cX2_isInView 19 = .ok (.iaload, 1) := by decide +kernel
theorem dX2_isInView_20 : decode cX2_isInView 20 = .ok (.iload_n 2, 1) := by decide +kernel
theorem dX2_isInView_21 : decode cX2_isInView 21 = .ok (.if_icmp .ne 5, 3) := by decide +kernel
theorem dX2_isInView_24 : decode cX2_isInView 24 = .ok (.iconst 1, 1) := by decide +kernel
theorem dX2_isInView_25 : decode cX2_isInView 25 = .ok (.ireturn, 1) := by decide +kernel
theorem dX2_isInView_26 : decode cX2_isInView 26 = .ok (.iinc 3 1, 3) := by decide +kernel
theorem dX2_isInView_29 : decode cX2_isInView 29 = .ok (.goto (-27), 3) := by decide +kernel
theorem dX2_isInView_32 : decode cX2_isInView 32 = .ok (.iconst 0, 1) := by decide +kernel
theorem dX2_isInView_33 : decode cX2_isInView 33 = .ok (.ireturn, 1) := by decide +kernel
