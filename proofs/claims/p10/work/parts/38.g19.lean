/-! methods on any state that keeps the invariant -/
theorem min_rng {a b s : Int32} (h1 : s.toInt ≤ a.toInt) (h2 : s.toInt ≤ b.toInt) : s.toInt ≤ (if b < a then b else a).toInt ∧ (if b < a then b else a).toInt ≤ b.toInt := by
  split
  · exact ⟨h2, Int.le_refl _⟩
  · rename_i h
    exact ⟨h1, ti_nlt h⟩
/-- the reader: start, end, size -/
def Rd (σ : Sg) : Prop := 0 ≤ (σ.1 11702).toInt ∧ (σ.1 11702).toInt ≤ (σ.1 11703).toInt ∧ (σ.1 11703).toInt ≤ (σ.1 11701).toInt
theorem rd_s {σ : Sg} (h : Inv σ) (r : Rd σ) : inR (σ.1 11702) 0 160 := by
  have q := ti_in (iv_11701 h)
  have z : (160 : Int32).toInt = 160 := by decide
  have z0 : (0 : Int32).toInt = 0 := by decide
  obtain ⟨r1, r2, r3⟩ := r
  exact of_ti (by omega) (by omega)
theorem rd_e {σ : Sg} (h : Inv σ) (r : Rd σ) : inR (σ.1 11703) 0 160 := by
  have q := ti_in (iv_11701 h)
  have z : (160 : Int32).toInt = 160 := by decide
  have z0 : (0 : Int32).toInt = 0 := by decide
  obtain ⟨r1, r2, r3⟩ := r
  exact of_ti (by omega) (by omega)

theorem dX6_isOneRow_0 : decode cX6_isOneRow 0 = .ok (.iload_n 0, 1) := by decide +kernel
theorem dX6_isOneRow_1 : decode cX6_isOneRow 1 = .ok (.invokestatic 114, 3) := by decide +kernel
theorem dX6_isOneRow_4 : decode cX6_isOneRow 4 = .ok (.ifCond .eq 10, 3) := by decide +kernel
theorem dX6_isOneRow_7 : decode cX6_isOneRow 7 = .ok (.iload_n 1, 1) := by decide +kernel
theorem dX6_isOneRow_8 : decode cX6_isOneRow 8 = .ok (.invokestatic 114, 3) := by decide +kernel
theorem dX6_isOneRow_11 : decode cX6_isOneRow 11 = .ok (.ifCond .ne 17, 3) := by decide +kernel
theorem dX6_isOneRow_14 : decode cX6_isOneRow 14 = .ok (.iload_n 0, 1) := by decide +kernel
theorem dX6_isOneRow_15 : decode cX6_isOneRow 15 = .ok (.invokestatic 101, 3) := by decide +kernel
theorem dX6_isOneRow_18 : decode cX6_isOneRow 18 = .ok (.ifCond .eq 14, 3) := by decide +kernel
theorem dX6_isOneRow_21 : decode cX6_isOneRow 21 = .ok (.iload_n 1, 1) := by decide +kernel
theorem dX6_isOneRow_22 : decode cX6_isOneRow 22 = .ok (.invokestatic 101, 3) := by decide +kernel
theorem dX6_isOneRow_25 : decode cX6_isOneRow 25 = .ok (.ifCond .eq 7, 3) := by decide +kernel
theorem dX6_isOneRow_28 : decode cX6_isOneRow 28 = .ok (.iconst 1, 1) := by decide +kernel
theorem dX6_isOneRow_29 : decode cX6_isOneRow 29 = .ok (.goto 4, 3) := by decide +kernel
theorem dX6_isOneRow_32 : decode cX6_isOneRow 32 = .ok (.iconst 0, 1) := by decide +kernel
theorem dX6_isOneRow_33 : decode cX6_isOneRow 33 = .ok (.ireturn, 1) := by decide +kernel
set_option maxRecDepth 100000 in
set_option maxHeartbeats 40000000 in
theorem gx_X6_isOneRow {G : vG} {l : Launch} (w : VW) (a b : Int32) : Sp G l yX6_isOneRow cX6_isOneRow 2 (some .boolean) 1 0 0 [.int a, .int b] (w) (QI (fun x w2 => w2 = w ∧ (x = 1 ∨ x = 0))) := by
  refine Sp_of_R [(some (.int a)), (some (.int b))] [] rfl (by simp) rfl (Nat.le_of_ble_eq_true rfl) ?_
  refine R_iload_n (pc := 0) dX6_isOneRow_0 rfl rfl ?_
  refine k_X6_114 (pc := 1) (sp_X8_isLetter _ _) rfl (by decide) (Nat.le_refl _) (Nat.le_refl _) (Nat.le_of_ble_eq_true rfl) dX6_isOneRow_1 (fun x w2 h => ?_)
  rcases h with ⟨rfl, ⟨-, rfl⟩ | ⟨-, rfl⟩⟩
  · skip
    refine R_ifeq (pc := 4) 14 dX6_isOneRow_4 (by decide) (fun h => absurd h (by decide)) (fun _ => ?_)
    refine R_iload_n (pc := 7) dX6_isOneRow_7 rfl rfl ?_
    refine k_X6_114 (pc := 8) (sp_X8_isLetter _ _) rfl (by decide) (Nat.le_refl _) (Nat.le_refl _) (Nat.le_of_ble_eq_true rfl) dX6_isOneRow_8 (fun x w2 h => ?_)
    rcases h with ⟨rfl, ⟨-, rfl⟩ | ⟨-, rfl⟩⟩
    · skip
      refine R_ifne (pc := 11) 28 dX6_isOneRow_11 (by decide) (fun _ => ?_) (fun h => absurd h (by decide))
      refine R_iconst (pc := 28) (v := 1) dX6_isOneRow_28 (by decide) ?_
      refine R_goto (pc := 29) 33 dX6_isOneRow_29 (by decide) ?_
      exact R_iret (pc := 33) dX6_isOneRow_33 rfl rfl (Nat.zero_le _) (Nat.zero_le _) ⟨_, rfl, rfl, Or.inl rfl⟩
    · skip
      refine R_ifne (pc := 11) 28 dX6_isOneRow_11 (by decide) (fun h => absurd (by decide) h) (fun _ => ?_)
      refine R_iload_n (pc := 14) dX6_isOneRow_14 rfl rfl ?_
      refine k_X6_101 (pc := 15) (sp_X8_isDigit _ _) rfl (by decide) (Nat.le_refl _) (Nat.le_refl _) (Nat.le_of_ble_eq_true rfl) dX6_isOneRow_15 (fun x w2 h => ?_)
      rcases h with ⟨rfl, ⟨-, rfl⟩ | ⟨-, rfl⟩⟩
      · skip
        refine R_ifeq (pc := 18) 32 dX6_isOneRow_18 (by decide) (fun h => absurd h (by decide)) (fun _ => ?_)
        refine R_iload_n (pc := 21) dX6_isOneRow_21 rfl rfl ?_
        refine k_X6_101 (pc := 22) (sp_X8_isDigit _ _) rfl (by decide) (Nat.le_refl _) (Nat.le_refl _) (Nat.le_of_ble_eq_true rfl) dX6_isOneRow_22 (fun x w2 h => ?_)
        rcases h with ⟨rfl, ⟨-, rfl⟩ | ⟨-, rfl⟩⟩
        · skip
          refine R_ifeq (pc := 25) 32 dX6_isOneRow_25 (by decide) (fun h => absurd h (by decide)) (fun _ => ?_)
          refine R_iconst (pc := 28) (v := 1) dX6_isOneRow_28 (by decide) ?_
          refine R_goto (pc := 29) 33 dX6_isOneRow_29 (by decide) ?_
          exact R_iret (pc := 33) dX6_isOneRow_33 rfl rfl (Nat.zero_le _) (Nat.zero_le _) ⟨_, rfl, rfl, Or.inl rfl⟩
        · skip
          refine R_ifeq (pc := 25) 32 dX6_isOneRow_25 (by decide) (fun _ => ?_) (fun h => absurd (by decide) h)
          refine R_iconst (pc := 32) (v := 0) dX6_isOneRow_32 (by decide) ?_
          exact R_iret (pc := 33) dX6_isOneRow_33 rfl rfl (Nat.zero_le _) (Nat.zero_le _) ⟨_, rfl, rfl, Or.inr rfl⟩
      · skip
        refine R_ifeq (pc := 18) 32 dX6_isOneRow_18 (by decide) (fun _ => ?_) (fun h => absurd (by decide) h)
        refine R_iconst (pc := 32) (v := 0) dX6_isOneRow_32 (by decide) ?_
        exact R_iret (pc := 33) dX6_isOneRow_33 rfl rfl (Nat.zero_le _) (Nat.zero_le _) ⟨_, rfl, rfl, Or.inr rfl⟩
  · skip
    refine R_ifeq (pc := 4) 14 dX6_isOneRow_4 (by decide) (fun _ => ?_) (fun h => absurd (by decide) h)
    refine R_iload_n (pc := 14) dX6_isOneRow_14 rfl rfl ?_
    refine k_X6_101 (pc := 15) (sp_X8_isDigit _ _) rfl (by decide) (Nat.le_refl _) (Nat.le_refl _) (Nat.le_of_ble_eq_true rfl) dX6_isOneRow_15 (fun x w2 h => ?_)
    rcases h with ⟨rfl, ⟨-, rfl⟩ | ⟨-, rfl⟩⟩
    · skip
      refine R_ifeq (pc := 18) 32 dX6_isOneRow_18 (by decide) (fun h => absurd h (by decide)) (fun _ => ?_)
      refine R_iload_n (pc := 21) dX6_isOneRow_21 rfl rfl ?_
      refine k_X6_101 (pc := 22) (sp_X8_isDigit _ _) rfl (by decide) (Nat.le_refl _) (Nat.le_refl _) (Nat.le_of_ble_eq_true rfl) dX6_isOneRow_22 (fun x w2 h => ?_)
      rcases h with ⟨rfl, ⟨-, rfl⟩ | ⟨-, rfl⟩⟩
      · skip
        refine R_ifeq (pc := 25) 32 dX6_isOneRow_25 (by decide) (fun h => absurd h (by decide)) (fun _ => ?_)
        refine R_iconst (pc := 28) (v := 1) dX6_isOneRow_28 (by decide) ?_
        refine R_goto (pc := 29) 33 dX6_isOneRow_29 (by decide) ?_
        exact R_iret (pc := 33) dX6_isOneRow_33 rfl rfl (Nat.zero_le _) (Nat.zero_le _) ⟨_, rfl, rfl, Or.inl rfl⟩
      · skip
        refine R_ifeq (pc := 25) 32 dX6_isOneRow_25 (by decide) (fun _ => ?_) (fun h => absurd (by decide) h)
        refine R_iconst (pc := 32) (v := 0) dX6_isOneRow_32 (by decide) ?_
        exact R_iret (pc := 33) dX6_isOneRow_33 rfl rfl (Nat.zero_le _) (Nat.zero_le _) ⟨_, rfl, rfl, Or.inr rfl⟩
    · skip
      refine R_ifeq (pc := 18) 32 dX6_isOneRow_18 (by decide) (fun _ => ?_) (fun h => absurd (by decide) h)
      refine R_iconst (pc := 32) (v := 0) dX6_isOneRow_32 (by decide) ?_
      exact R_iret (pc := 33) dX6_isOneRow_33 rfl rfl (Nat.zero_le _) (Nat.zero_le _) ⟨_, rfl, rfl, Or.inr rfl⟩
theorem dX6_isAt_0 : decode cX6_isAt 0 = .ok (.aload_n 0, 1) := by decide +kernel
theorem dX6_isAt_1 : decode cX6_isAt 1 = .ok (.getfield 21, 3) := by decide +kernel
theorem dX6_isAt_4 : decode cX6_isAt 4 = .ok (.aload_n 0, 1) := by decide +kernel
theorem dX6_isAt_5 : decode cX6_isAt 5 = .ok (.getfield 40, 3) := by decide +kernel
theorem dX6_isAt_8 : decode cX6_isAt 8 = .ok (.isub, 1) := by decide +kernel
theorem dX6_isAt_9 : decode cX6_isAt 9 = .ok (.aload_n 1, 1) := by decide +kernel
theorem dX6_isAt_10 : decode cX6_isAt 10 = .ok (.invokevirtual 92, 3) := by decide +kernel
theorem dX6_isAt_13 : decode cX6_isAt 13 = .ok (.if_icmp .eq 5, 3) := by decide +kernel
theorem dX6_isAt_16 : decode cX6_isAt 16 = .ok (.iconst 0, 1) := by decide +kernel
theorem dX6_isAt_17 : decode cX6_isAt 17 = .ok (.ireturn, 1) := by decide +kernel
theorem dX6_isAt_18 : decode cX6_isAt 18 = .ok (.iconst 0, 1) := by decide +kernel
theorem dX6_isAt_19 : decode cX6_isAt 19 = .ok (.istore_n 2, 1) := by decide +kernel
theorem dX6_isAt_20 : decode cX6_isAt 20 = .ok (.iload_n 2, 1) := by decide +kernel
theorem dX6_isAt_21 : decode cX6_isAt 21 = .ok (.aload_n 1, 1) := by decide +kernel
theorem dX6_isAt_22 : decode cX6_isAt 22 = .ok (.invokevirtual 92, 3) := by decide +kernel
theorem dX6_isAt_25 : decode cX6_isAt 25 = .ok (.if_icmp .ge 30, 3) := by decide +kernel
theorem dX6_isAt_28 : decode cX6_isAt 28 = .ok (.aload_n 0, 1) := by decide +kernel
theorem dX6_isAt_29 : decode cX6_isAt 29 = .ok (.getfield 9, 3) := by decide +kernel
theorem dX6_isAt_32 : decode cX6_isAt 32 = .ok (.aload_n 0, 1) := by decide +kernel
theorem dX6_isAt_33 : decode cX6_isAt 33 = .ok (.getfield 40, 3) := by decide +kernel
theorem dX6_isAt_36 : decode cX6_isAt 36 = .ok (.iload_n 2, 1) := by decide +kernel
theorem dX6_isAt_37 : decode cX6_isAt 37 = .ok (.iadd, 1) := by decide +kernel
theorem dX6_isAt_38 : decode cX6_isAt 38 = .ok (.iaload, 1) := by decide +kernel
theorem dX6_isAt_39 : decode cX6_isAt 39 = .ok (.aload_n 1, 1) := by decide +kernel
theorem dX6_isAt_40 : decode cX6_isAt 40 = .ok (.iload_n 2, 1) := by decide +kernel
theorem dX6_isAt_41 : decode cX6_isAt 41 = .ok (.invokevirtual 97, 3) := by decide +kernel
theorem dX6_isAt_44 : decode cX6_isAt 44 = .ok (.if_icmp .eq 5, 3) := by decide +kernel
theorem dX6_isAt_47 : decode cX6_isAt 47 = .ok (.iconst 0, 1) := by decide +kernel
theorem dX6_isAt_48 : decode cX6_isAt 48 = .ok (.ireturn, 1) := by decide +kernel
theorem dX6_isAt_49 : decode cX6_isAt 49 = .ok (.iinc 2 1, 3) := by decide +kernel
theorem dX6_isAt_52 : decode cX6_isAt 52 = .ok (.goto (-32), 3) := by decide +kernel
theorem dX6_isAt_55 : decode cX6_isAt 55 = .ok (.iconst 1, 1) := by decide +kernel
theorem dX6_isAt_56 : decode cX6_isAt 56 = .ok (.ireturn, 1) := by decide +kernel
set_option maxRecDepth 100000 in
set_option maxHeartbeats 40000000 in
theorem gx_X6_isAt_0 {G : vG} {l : Launch} (σ : Sg)  (hI : Inv σ) (hR : Rd σ) : Sp G l yX6_isAt cX6_isAt 3 (some .boolean) 5 0 0 [.ref 117, .ref 1000000] (WW σ) (QI (fun x w2 => w2 = WW σ ∧ (x = 1 ∨ x = 0))) := by
  refine Sp_of_R [(some (.ref 117)), (some (.ref 1000000)), none] [none] rfl (by simp) rfl (Nat.le_of_ble_eq_true rfl) ?_
  refine R_aload_n (pc := 0) dX6_isAt_0 rfl rfl ?_
  refine g_X6_21 (pc := 1) (v := .int (σ.1 11703)) rfl dX6_isAt_1 (c_117 _) rfl ?_
  refine R_aload_n (pc := 4) dX6_isAt_4 rfl rfl ?_
  refine g_X6_40 (pc := 5) (v := .int (σ.1 11702)) rfl dX6_isAt_5 (c_117 _) rfl ?_
  refine R_isub (pc := 8) dX6_isAt_8 ?_
  have r1 : inR ((σ.1 11703) - (σ.1 11702)) (-160) 160 := inR_sub (show inR (σ.1 11703) 0 160 from (rd_e hI hR)) (show inR (σ.1 11702) 0 160 from (rd_s hI hR)) (by decide) (by decide)
  have e2 := ti_sub (l := (-160)) (h := 160) (show inR (σ.1 11703) 0 160 from (rd_e hI hR)) (show inR (σ.1 11702) 0 160 from (rd_s hI hR)) (by decide) (by decide)
  refine R_aload_n (pc := 9) dX6_isAt_9 rfl rfl ?_
  refine k_len (pc := 10) (i := 0) 2 (by decide) (by decide) rfl (by decide) (Nat.zero_le _) (Nat.zero_le _) (Nat.le_of_ble_eq_true rfl) dX6_isAt_10 ?_
  refine R_iceq (pc := 13) 18 dX6_isAt_13 (by decide) (fun b13_3 => ?_) (fun b13_3 => ?_)
  · skip
    refine R_iconst (pc := 18) (v := 0) dX6_isAt_18 (by decide) ?_
    refine st_3_2_i_a (pc := 19) dX6_isAt_19 ?_
    refine R_iload_n (pc := 20) dX6_isAt_20 rfl rfl ?_
    refine R_aload_n (pc := 21) dX6_isAt_21 rfl rfl ?_
    refine k_len (pc := 22) (i := 0) 2 (by decide) (by decide) rfl (by decide) (Nat.zero_le _) (Nat.zero_le _) (Nat.le_of_ble_eq_true rfl) dX6_isAt_22 ?_
    refine R_icge (pc := 25) 55 dX6_isAt_25 (by decide) (fun h => absurd h (by decide)) (fun _ => ?_)
    refine R_aload_n (pc := 28) dX6_isAt_28 rfl rfl ?_
    refine g_X6_9 (pc := 29) (v := .ref 118) rfl dX6_isAt_29 (c_117 _) rfl ?_
    refine R_aload_n (pc := 32) dX6_isAt_32 rfl rfl ?_
    refine g_X6_40 (pc := 33) (v := .int (σ.1 11702)) rfl dX6_isAt_33 (c_117 _) rfl ?_
    refine R_iload_n (pc := 36) dX6_isAt_36 rfl rfl ?_
    refine R_iadd (pc := 37) dX6_isAt_37 ?_
    have r5 : inR ((σ.1 11702) + 0) 0 160 := inR_add (show inR (σ.1 11702) 0 160 from (rd_s hI hR)) (show inR 0 0 0 from (inR_self _)) (by decide) (by decide)
    have e6 := ti_add (l := 0) (h := 160) (show inR (σ.1 11702) 0 160 from (rd_s hI hR)) (show inR 0 0 0 from (inR_self _)) (by decide) (by decide)
    have hx7 : vp_in ((σ.1 11702) + 0) 160 := (vp_ti (by have q0 := hR.1; have q1 := hR.2.1; have q2 := hR.2.2; have q3 := e2; have q4 := e6; have q5 := ti_eq b13_3; have q6 := ti_in (rd_s hI hR); have q7 := ti_in (rd_e hI hR); have q8 := ti_in (iv_11701 hI); have q9 := ti_in r1; have q10 := ti_in r5; have z0 : (-160 : Int32).toInt = -160 := (by decide); have z1 : (0 : Int32).toInt = 0 := (by decide); have z2 : (1 : Int32).toInt = 1 := (by decide); have z3 : (11702 : Int32).toInt = 11702 := (by decide); have z4 : (11703 : Int32).toInt = 11703 := (by decide); have z5 : (160 : Int32).toInt = 160 := (by decide); have z6 : (2 : Int32).toInt = 2 := (by decide); omega) (by have q0 := hR.1; have q1 := hR.2.1; have q2 := hR.2.2; have q3 := e2; have q4 := e6; have q5 := ti_eq b13_3; have q6 := ti_in (rd_s hI hR); have q7 := ti_in (rd_e hI hR); have q8 := ti_in (iv_11701 hI); have q9 := ti_in r1; have q10 := ti_in r5; have z0 : (-160 : Int32).toInt = -160 := (by decide); have z1 : (0 : Int32).toInt = 0 := (by decide); have z2 : (1 : Int32).toInt = 1 := (by decide); have z3 : (11702 : Int32).toInt = 11702 := (by decide); have z4 : (11703 : Int32).toInt = 11703 := (by decide); have z5 : (160 : Int32).toInt = 160 := (by decide); have z6 : (2 : Int32).toInt = 2 := (by decide); omega))
    refine R_iaload (pc := 38) dX6_isAt_38 (c_118 _) hx7 ?_
    refine R_aload_n (pc := 39) dX6_isAt_39 rfl rfl ?_
    refine R_iload_n (pc := 40) dX6_isAt_40 rfl rfl ?_
    refine k_chr (pc := 41) (i := 0) (j := 0) 2 111 111 (by decide) (by decide) (by decide) (by decide) (by unfold vp_in; decide) (by decide) (by decide) rfl rfl (by decide) (Nat.zero_le _) (Nat.zero_le _) (Nat.le_of_ble_eq_true rfl) dX6_isAt_41 ?_
    refine R_iceq (pc := 44) 49 dX6_isAt_44 (by decide) (fun b44_8 => ?_) (fun b44_8 => ?_)
    · skip
      refine inc_3_2_1_a (pc := 49) dX6_isAt_49 ?_
      refine R_goto (pc := 52) 20 dX6_isAt_52 (by decide) ?_
      refine R_iload_n (pc := 20) dX6_isAt_20 rfl rfl ?_
      refine R_aload_n (pc := 21) dX6_isAt_21 rfl rfl ?_
      refine k_len (pc := 22) (i := 0) 2 (by decide) (by decide) rfl (by decide) (Nat.zero_le _) (Nat.zero_le _) (Nat.le_of_ble_eq_true rfl) dX6_isAt_22 ?_
      refine R_icge (pc := 25) 55 dX6_isAt_25 (by decide) (fun h => absurd h (by decide)) (fun _ => ?_)
      refine R_aload_n (pc := 28) dX6_isAt_28 rfl rfl ?_
      refine g_X6_9 (pc := 29) (v := .ref 118) rfl dX6_isAt_29 (c_117 _) rfl ?_
      refine R_aload_n (pc := 32) dX6_isAt_32 rfl rfl ?_
      refine g_X6_40 (pc := 33) (v := .int (σ.1 11702)) rfl dX6_isAt_33 (c_117 _) rfl ?_
      refine R_iload_n (pc := 36) dX6_isAt_36 rfl rfl ?_
      refine R_iadd (pc := 37) dX6_isAt_37 ?_
      have r10 : inR ((σ.1 11702) + 1) 1 161 := inR_add (show inR (σ.1 11702) 0 160 from (rd_s hI hR)) (show inR 1 1 1 from (inR_self _)) (by decide) (by decide)
      have e11 := ti_add (l := 1) (h := 161) (show inR (σ.1 11702) 0 160 from (rd_s hI hR)) (show inR 1 1 1 from (inR_self _)) (by decide) (by decide)
      have hx12 : vp_in ((σ.1 11702) + 1) 160 := (vp_ti (by have q0 := hR.1; have q1 := hR.2.1; have q2 := hR.2.2; have q3 := e2; have q4 := e6; have q5 := e11; have q6 := ti_eq b13_3; have q7 := ti_eq b44_8; have q8 := ti_in (rd_s hI hR); have q9 := ti_in (rd_e hI hR); have q10 := ti_in (iv_11701 hI); have q11 := ti_in r1; have q12 := ti_in r5; have q13 := ti_in r10; have z0 : (-160 : Int32).toInt = -160 := (by decide); have z1 : (0 : Int32).toInt = 0 := (by decide); have z2 : (1 : Int32).toInt = 1 := (by decide); have z3 : (111 : Int32).toInt = 111 := (by decide); have z4 : (11702 : Int32).toInt = 11702 := (by decide); have z5 : (11703 : Int32).toInt = 11703 := (by decide); have z6 : (118 : Int32).toInt = 118 := (by decide); have z7 : (160 : Int32).toInt = 160 := (by decide); have z8 : (161 : Int32).toInt = 161 := (by decide); have z9 : (2 : Int32).toInt = 2 := (by decide); omega) (by have q0 := hR.1; have q1 := hR.2.1; have q2 := hR.2.2; have q3 := e2; have q4 := e6; have q5 := e11; have q6 := ti_eq b13_3; have q7 := ti_eq b44_8; have q8 := ti_in (rd_s hI hR); have q9 := ti_in (rd_e hI hR); have q10 := ti_in (iv_11701 hI); have q11 := ti_in r1; have q12 := ti_in r5; have q13 := ti_in r10; have z0 : (-160 : Int32).toInt = -160 := (by decide); have z1 : (0 : Int32).toInt = 0 := (by decide); have z2 : (1 : Int32).toInt = 1 := (by decide); have z3 : (111 : Int32).toInt = 111 := (by decide); have z4 : (11702 : Int32).toInt = 11702 := (by decide); have z5 : (11703 : Int32).toInt = 11703 := (by decide); have z6 : (118 : Int32).toInt = 118 := (by decide); have z7 : (160 : Int32).toInt = 160 := (by decide); have z8 : (161 : Int32).toInt = 161 := (by decide); have z9 : (2 : Int32).toInt = 2 := (by decide); omega))
      refine R_iaload (pc := 38) dX6_isAt_38 (c_118 _) hx12 ?_
      refine R_aload_n (pc := 39) dX6_isAt_39 rfl rfl ?_
      refine R_iload_n (pc := 40) dX6_isAt_40 rfl rfl ?_
      refine k_chr (pc := 41) (i := 0) (j := 1) 2 102 102 (by decide) (by decide) (by decide) (by decide) (by unfold vp_in; decide) (by decide) (by decide) rfl rfl (by decide) (Nat.zero_le _) (Nat.zero_le _) (Nat.le_of_ble_eq_true rfl) dX6_isAt_41 ?_
      refine R_iceq (pc := 44) 49 dX6_isAt_44 (by decide) (fun b44_13 => ?_) (fun b44_13 => ?_)
      · skip
        refine inc_3_2_1_a (pc := 49) dX6_isAt_49 ?_
        refine R_goto (pc := 52) 20 dX6_isAt_52 (by decide) ?_
        refine R_iload_n (pc := 20) dX6_isAt_20 rfl rfl ?_
        refine R_aload_n (pc := 21) dX6_isAt_21 rfl rfl ?_
        refine k_len (pc := 22) (i := 0) 2 (by decide) (by decide) rfl (by decide) (Nat.zero_le _) (Nat.zero_le _) (Nat.le_of_ble_eq_true rfl) dX6_isAt_22 ?_
        refine R_icge (pc := 25) 55 dX6_isAt_25 (by decide) (fun _ => ?_) (fun h => absurd (by decide) h)
        refine R_iconst (pc := 55) (v := 1) dX6_isAt_55 (by decide) ?_
        exact R_iret (pc := 56) dX6_isAt_56 rfl rfl (Nat.zero_le _) (Nat.zero_le _) ⟨_, rfl, rfl, Or.inl rfl⟩
      · skip
        refine R_iconst (pc := 47) (v := 0) dX6_isAt_47 (by decide) ?_
        exact R_iret (pc := 48) dX6_isAt_48 rfl rfl (Nat.zero_le _) (Nat.zero_le _) ⟨_, rfl, rfl, Or.inr rfl⟩
    · skip
      refine R_iconst (pc := 47) (v := 0) dX6_isAt_47 (by decide) ?_
      exact R_iret (pc := 48) dX6_isAt_48 rfl rfl (Nat.zero_le _) (Nat.zero_le _) ⟨_, rfl, rfl, Or.inr rfl⟩
  · skip
    refine R_iconst (pc := 16) (v := 0) dX6_isAt_16 (by decide) ?_
    exact R_iret (pc := 17) dX6_isAt_17 rfl rfl (Nat.zero_le _) (Nat.zero_le _) ⟨_, rfl, rfl, Or.inr rfl⟩
set_option maxRecDepth 100000 in
set_option maxHeartbeats 40000000 in
theorem gx_X6_isAt_1 {G : vG} {l : Launch} (σ : Sg)  (hI : Inv σ) (hR : Rd σ) : Sp G l yX6_isAt cX6_isAt 3 (some .boolean) 5 0 0 [.ref 117, .ref 1000001] (WW σ) (QI (fun x w2 => w2 = WW σ ∧ (x = 1 ∨ x = 0))) := by
  refine Sp_of_R [(some (.ref 117)), (some (.ref 1000001)), none] [none] rfl (by simp) rfl (Nat.le_of_ble_eq_true rfl) ?_
  refine R_aload_n (pc := 0) dX6_isAt_0 rfl rfl ?_
  refine g_X6_21 (pc := 1) (v := .int (σ.1 11703)) rfl dX6_isAt_1 (c_117 _) rfl ?_
  refine R_aload_n (pc := 4) dX6_isAt_4 rfl rfl ?_
  refine g_X6_40 (pc := 5) (v := .int (σ.1 11702)) rfl dX6_isAt_5 (c_117 _) rfl ?_
  refine R_isub (pc := 8) dX6_isAt_8 ?_
  have r1 : inR ((σ.1 11703) - (σ.1 11702)) (-160) 160 := inR_sub (show inR (σ.1 11703) 0 160 from (rd_e hI hR)) (show inR (σ.1 11702) 0 160 from (rd_s hI hR)) (by decide) (by decide)
  have e2 := ti_sub (l := (-160)) (h := 160) (show inR (σ.1 11703) 0 160 from (rd_e hI hR)) (show inR (σ.1 11702) 0 160 from (rd_s hI hR)) (by decide) (by decide)
  refine R_aload_n (pc := 9) dX6_isAt_9 rfl rfl ?_
  refine k_len (pc := 10) (i := 1) 4 (by decide) (by decide) rfl (by decide) (Nat.zero_le _) (Nat.zero_le _) (Nat.le_of_ble_eq_true rfl) dX6_isAt_10 ?_
  refine R_iceq (pc := 13) 18 dX6_isAt_13 (by decide) (fun b13_3 => ?_) (fun b13_3 => ?_)
  · skip
    refine R_iconst (pc := 18) (v := 0) dX6_isAt_18 (by decide) ?_
    refine st_3_2_i_a (pc := 19) dX6_isAt_19 ?_
    refine R_iload_n (pc := 20) dX6_isAt_20 rfl rfl ?_
    refine R_aload_n (pc := 21) dX6_isAt_21 rfl rfl ?_
    refine k_len (pc := 22) (i := 1) 4 (by decide) (by decide) rfl (by decide) (Nat.zero_le _) (Nat.zero_le _) (Nat.le_of_ble_eq_true rfl) dX6_isAt_22 ?_
    refine R_icge (pc := 25) 55 dX6_isAt_25 (by decide) (fun h => absurd h (by decide)) (fun _ => ?_)
    refine R_aload_n (pc := 28) dX6_isAt_28 rfl rfl ?_
    refine g_X6_9 (pc := 29) (v := .ref 118) rfl dX6_isAt_29 (c_117 _) rfl ?_
    refine R_aload_n (pc := 32) dX6_isAt_32 rfl rfl ?_
    refine g_X6_40 (pc := 33) (v := .int (σ.1 11702)) rfl dX6_isAt_33 (c_117 _) rfl ?_
    refine R_iload_n (pc := 36) dX6_isAt_36 rfl rfl ?_
    refine R_iadd (pc := 37) dX6_isAt_37 ?_
    have r5 : inR ((σ.1 11702) + 0) 0 160 := inR_add (show inR (σ.1 11702) 0 160 from (rd_s hI hR)) (show inR 0 0 0 from (inR_self _)) (by decide) (by decide)
    have e6 := ti_add (l := 0) (h := 160) (show inR (σ.1 11702) 0 160 from (rd_s hI hR)) (show inR 0 0 0 from (inR_self _)) (by decide) (by decide)
    have hx7 : vp_in ((σ.1 11702) + 0) 160 := (vp_ti (by have q0 := hR.1; have q1 := hR.2.1; have q2 := hR.2.2; have q3 := e2; have q4 := e6; have q5 := ti_eq b13_3; have q6 := ti_in (rd_s hI hR); have q7 := ti_in (rd_e hI hR); have q8 := ti_in (iv_11701 hI); have q9 := ti_in r1; have q10 := ti_in r5; have z0 : (-160 : Int32).toInt = -160 := (by decide); have z1 : (0 : Int32).toInt = 0 := (by decide); have z2 : (1 : Int32).toInt = 1 := (by decide); have z3 : (11702 : Int32).toInt = 11702 := (by decide); have z4 : (11703 : Int32).toInt = 11703 := (by decide); have z5 : (160 : Int32).toInt = 160 := (by decide); have z6 : (4 : Int32).toInt = 4 := (by decide); omega) (by have q0 := hR.1; have q1 := hR.2.1; have q2 := hR.2.2; have q3 := e2; have q4 := e6; have q5 := ti_eq b13_3; have q6 := ti_in (rd_s hI hR); have q7 := ti_in (rd_e hI hR); have q8 := ti_in (iv_11701 hI); have q9 := ti_in r1; have q10 := ti_in r5; have z0 : (-160 : Int32).toInt = -160 := (by decide); have z1 : (0 : Int32).toInt = 0 := (by decide); have z2 : (1 : Int32).toInt = 1 := (by decide); have z3 : (11702 : Int32).toInt = 11702 := (by decide); have z4 : (11703 : Int32).toInt = 11703 := (by decide); have z5 : (160 : Int32).toInt = 160 := (by decide); have z6 : (4 : Int32).toInt = 4 := (by decide); omega))
    refine R_iaload (pc := 38) dX6_isAt_38 (c_118 _) hx7 ?_
    refine R_aload_n (pc := 39) dX6_isAt_39 rfl rfl ?_
    refine R_iload_n (pc := 40) dX6_isAt_40 rfl rfl ?_
    refine k_chr (pc := 41) (i := 1) (j := 0) 4 102 102 (by decide) (by decide) (by decide) (by decide) (by unfold vp_in; decide) (by decide) (by decide) rfl rfl (by decide) (Nat.zero_le _) (Nat.zero_le _) (Nat.le_of_ble_eq_true rfl) dX6_isAt_41 ?_
    refine R_iceq (pc := 44) 49 dX6_isAt_44 (by decide) (fun b44_8 => ?_) (fun b44_8 => ?_)
    · skip
      refine inc_3_2_1_a (pc := 49) dX6_isAt_49 ?_
      refine R_goto (pc := 52) 20 dX6_isAt_52 (by decide) ?_
      refine R_iload_n (pc := 20) dX6_isAt_20 rfl rfl ?_
      refine R_aload_n (pc := 21) dX6_isAt_21 rfl rfl ?_
      refine k_len (pc := 22) (i := 1) 4 (by decide) (by decide) rfl (by decide) (Nat.zero_le _) (Nat.zero_le _) (Nat.le_of_ble_eq_true rfl) dX6_isAt_22 ?_
      refine R_icge (pc := 25) 55 dX6_isAt_25 (by decide) (fun h => absurd h (by decide)) (fun _ => ?_)
      refine R_aload_n (pc := 28) dX6_isAt_28 rfl rfl ?_
      refine g_X6_9 (pc := 29) (v := .ref 118) rfl dX6_isAt_29 (c_117 _) rfl ?_
      refine R_aload_n (pc := 32) dX6_isAt_32 rfl rfl ?_
      refine g_X6_40 (pc := 33) (v := .int (σ.1 11702)) rfl dX6_isAt_33 (c_117 _) rfl ?_
      refine R_iload_n (pc := 36) dX6_isAt_36 rfl rfl ?_
      refine R_iadd (pc := 37) dX6_isAt_37 ?_
      have r10 : inR ((σ.1 11702) + 1) 1 161 := inR_add (show inR (σ.1 11702) 0 160 from (rd_s hI hR)) (show inR 1 1 1 from (inR_self _)) (by decide) (by decide)
      have e11 := ti_add (l := 1) (h := 161) (show inR (σ.1 11702) 0 160 from (rd_s hI hR)) (show inR 1 1 1 from (inR_self _)) (by decide) (by decide)
      have hx12 : vp_in ((σ.1 11702) + 1) 160 := (vp_ti (by have q0 := hR.1; have q1 := hR.2.1; have q2 := hR.2.2; have q3 := e2; have q4 := e6; have q5 := e11; have q6 := ti_eq b13_3; have q7 := ti_eq b44_8; have q8 := ti_in (rd_s hI hR); have q9 := ti_in (rd_e hI hR); have q10 := ti_in (iv_11701 hI); have q11 := ti_in r1; have q12 := ti_in r5; have q13 := ti_in r10; have z0 : (-160 : Int32).toInt = -160 := (by decide); have z1 : (0 : Int32).toInt = 0 := (by decide); have z2 : (1 : Int32).toInt = 1 := (by decide); have z3 : (102 : Int32).toInt = 102 := (by decide); have z4 : (11702 : Int32).toInt = 11702 := (by decide); have z5 : (11703 : Int32).toInt = 11703 := (by decide); have z6 : (118 : Int32).toInt = 118 := (by decide); have z7 : (160 : Int32).toInt = 160 := (by decide); have z8 : (161 : Int32).toInt = 161 := (by decide); have z9 : (4 : Int32).toInt = 4 := (by decide); omega) (by have q0 := hR.1; have q1 := hR.2.1; have q2 := hR.2.2; have q3 := e2; have q4 := e6; have q5 := e11; have q6 := ti_eq b13_3; have q7 := ti_eq b44_8; have q8 := ti_in (rd_s hI hR); have q9 := ti_in (rd_e hI hR); have q10 := ti_in (iv_11701 hI); have q11 := ti_in r1; have q12 := ti_in r5; have q13 := ti_in r10; have z0 : (-160 : Int32).toInt = -160 := (by decide); have z1 : (0 : Int32).toInt = 0 := (by decide); have z2 : (1 : Int32).toInt = 1 := (by decide); have z3 : (102 : Int32).toInt = 102 := (by decide); have z4 : (11702 : Int32).toInt = 11702 := (by decide); have z5 : (11703 : Int32).toInt = 11703 := (by decide); have z6 : (118 : Int32).toInt = 118 := (by decide); have z7 : (160 : Int32).toInt = 160 := (by decide); have z8 : (161 : Int32).toInt = 161 := (by decide); have z9 : (4 : Int32).toInt = 4 := (by decide); omega))
      refine R_iaload (pc := 38) dX6_isAt_38 (c_118 _) hx12 ?_
      refine R_aload_n (pc := 39) dX6_isAt_39 rfl rfl ?_
      refine R_iload_n (pc := 40) dX6_isAt_40 rfl rfl ?_
      refine k_chr (pc := 41) (i := 1) (j := 1) 4 114 114 (by decide) (by decide) (by decide) (by decide) (by unfold vp_in; decide) (by decide) (by decide) rfl rfl (by decide) (Nat.zero_le _) (Nat.zero_le _) (Nat.le_of_ble_eq_true rfl) dX6_isAt_41 ?_
      refine R_iceq (pc := 44) 49 dX6_isAt_44 (by decide) (fun b44_13 => ?_) (fun b44_13 => ?_)
      · skip
        refine inc_3_2_1_a (pc := 49) dX6_isAt_49 ?_
        refine R_goto (pc := 52) 20 dX6_isAt_52 (by decide) ?_
        refine R_iload_n (pc := 20) dX6_isAt_20 rfl rfl ?_
        refine R_aload_n (pc := 21) dX6_isAt_21 rfl rfl ?_
        refine k_len (pc := 22) (i := 1) 4 (by decide) (by decide) rfl (by decide) (Nat.zero_le _) (Nat.zero_le _) (Nat.le_of_ble_eq_true rfl) dX6_isAt_22 ?_
        refine R_icge (pc := 25) 55 dX6_isAt_25 (by decide) (fun h => absurd h (by decide)) (fun _ => ?_)
        refine R_aload_n (pc := 28) dX6_isAt_28 rfl rfl ?_
        refine g_X6_9 (pc := 29) (v := .ref 118) rfl dX6_isAt_29 (c_117 _) rfl ?_
        refine R_aload_n (pc := 32) dX6_isAt_32 rfl rfl ?_
        refine g_X6_40 (pc := 33) (v := .int (σ.1 11702)) rfl dX6_isAt_33 (c_117 _) rfl ?_
        refine R_iload_n (pc := 36) dX6_isAt_36 rfl rfl ?_
        refine R_iadd (pc := 37) dX6_isAt_37 ?_
        have r15 : inR ((σ.1 11702) + 2) 2 162 := inR_add (show inR (σ.1 11702) 0 160 from (rd_s hI hR)) (show inR 2 2 2 from (inR_self _)) (by decide) (by decide)
        have e16 := ti_add (l := 2) (h := 162) (show inR (σ.1 11702) 0 160 from (rd_s hI hR)) (show inR 2 2 2 from (inR_self _)) (by decide) (by decide)
        have hx17 : vp_in ((σ.1 11702) + 2) 160 := (vp_ti (by have q0 := hR.1; have q1 := hR.2.1; have q2 := hR.2.2; have q3 := e2; have q4 := e6; have q5 := e11; have q6 := e16; have q7 := ti_eq b13_3; have q8 := ti_eq b44_8; have q9 := ti_eq b44_13; have q10 := ti_in (rd_s hI hR); have q11 := ti_in (rd_e hI hR); have q12 := ti_in (iv_11701 hI); have q13 := ti_in r1; have q14 := ti_in r5; have q15 := ti_in r10; have q16 := ti_in r15; have z0 : (-160 : Int32).toInt = -160 := (by decide); have z1 : (0 : Int32).toInt = 0 := (by decide); have z2 : (1 : Int32).toInt = 1 := (by decide); have z3 : (102 : Int32).toInt = 102 := (by decide); have z4 : (114 : Int32).toInt = 114 := (by decide); have z5 : (11702 : Int32).toInt = 11702 := (by decide); have z6 : (11703 : Int32).toInt = 11703 := (by decide); have z7 : (118 : Int32).toInt = 118 := (by decide); have z8 : (160 : Int32).toInt = 160 := (by decide); have z9 : (161 : Int32).toInt = 161 := (by decide); have z10 : (162 : Int32).toInt = 162 := (by decide); have z11 : (2 : Int32).toInt = 2 := (by decide); have z12 : (4 : Int32).toInt = 4 := (by decide); omega) (by have q0 := hR.1; have q1 := hR.2.1; have q2 := hR.2.2; have q3 := e2; have q4 := e6; have q5 := e11; have q6 := e16; have q7 := ti_eq b13_3; have q8 := ti_eq b44_8; have q9 := ti_eq b44_13; have q10 := ti_in (rd_s hI hR); have q11 := ti_in (rd_e hI hR); have q12 := ti_in (iv_11701 hI); have q13 := ti_in r1; have q14 := ti_in r5; have q15 := ti_in r10; have q16 := ti_in r15; have z0 : (-160 : Int32).toInt = -160 := (by decide); have z1 : (0 : Int32).toInt = 0 := (by decide); have z2 : (1 : Int32).toInt = 1 := (by decide); have z3 : (102 : Int32).toInt = 102 := (by decide); have z4 : (114 : Int32).toInt = 114 := (by decide); have z5 : (11702 : Int32).toInt = 11702 := (by decide); have z6 : (11703 : Int32).toInt = 11703 := (by decide); have z7 : (118 : Int32).toInt = 118 := (by decide); have z8 : (160 : Int32).toInt = 160 := (by decide); have z9 : (161 : Int32).toInt = 161 := (by decide); have z10 : (162 : Int32).toInt = 162 := (by decide); have z11 : (2 : Int32).toInt = 2 := (by decide); have z12 : (4 : Int32).toInt = 4 := (by decide); omega))
        refine R_iaload (pc := 38) dX6_isAt_38 (c_118 _) hx17 ?_
        refine R_aload_n (pc := 39) dX6_isAt_39 rfl rfl ?_
        refine R_iload_n (pc := 40) dX6_isAt_40 rfl rfl ?_
        refine k_chr (pc := 41) (i := 1) (j := 2) 4 111 111 (by decide) (by decide) (by decide) (by decide) (by unfold vp_in; decide) (by decide) (by decide) rfl rfl (by decide) (Nat.zero_le _) (Nat.zero_le _) (Nat.le_of_ble_eq_true rfl) dX6_isAt_41 ?_
        refine R_iceq (pc := 44) 49 dX6_isAt_44 (by decide) (fun b44_18 => ?_) (fun b44_18 => ?_)
        · skip
          refine inc_3_2_1_a (pc := 49) dX6_isAt_49 ?_
          refine R_goto (pc := 52) 20 dX6_isAt_52 (by decide) ?_
          refine R_iload_n (pc := 20) dX6_isAt_20 rfl rfl ?_
          refine R_aload_n (pc := 21) dX6_isAt_21 rfl rfl ?_
          refine k_len (pc := 22) (i := 1) 4 (by decide) (by decide) rfl (by decide) (Nat.zero_le _) (Nat.zero_le _) (Nat.le_of_ble_eq_true rfl) dX6_isAt_22 ?_
          refine R_icge (pc := 25) 55 dX6_isAt_25 (by decide) (fun h => absurd h (by decide)) (fun _ => ?_)
          refine R_aload_n (pc := 28) dX6_isAt_28 rfl rfl ?_
          refine g_X6_9 (pc := 29) (v := .ref 118) rfl dX6_isAt_29 (c_117 _) rfl ?_
          refine R_aload_n (pc := 32) dX6_isAt_32 rfl rfl ?_
          refine g_X6_40 (pc := 33) (v := .int (σ.1 11702)) rfl dX6_isAt_33 (c_117 _) rfl ?_
          refine R_iload_n (pc := 36) dX6_isAt_36 rfl rfl ?_
          refine R_iadd (pc := 37) dX6_isAt_37 ?_
          have r20 : inR ((σ.1 11702) + 3) 3 163 := inR_add (show inR (σ.1 11702) 0 160 from (rd_s hI hR)) (show inR 3 3 3 from (inR_self _)) (by decide) (by decide)
          have e21 := ti_add (l := 3) (h := 163) (show inR (σ.1 11702) 0 160 from (rd_s hI hR)) (show inR 3 3 3 from (inR_self _)) (by decide) (by decide)
          have hx22 : vp_in ((σ.1 11702) + 3) 160 := (vp_ti (by have q0 := hR.1; have q1 := hR.2.1; have q2 := hR.2.2; have q3 := e2; have q4 := e6; have q5 := e11; have q6 := e16; have q7 := e21; have q8 := ti_eq b13_3; have q9 := ti_eq b44_8; have q10 := ti_eq b44_13; have q11 := ti_eq b44_18; have q12 := ti_in (rd_s hI hR); have q13 := ti_in (rd_e hI hR); have q14 := ti_in (iv_11701 hI); have q15 := ti_in r1; have q16 := ti_in r5; have q17 := ti_in r10; have q18 := ti_in r15; have q19 := ti_in r20; have z0 : (-160 : Int32).toInt = -160 := (by decide); have z1 : (0 : Int32).toInt = 0 := (by decide); have z2 : (1 : Int32).toInt = 1 := (by decide); have z3 : (102 : Int32).toInt = 102 := (by decide); have z4 : (111 : Int32).toInt = 111 := (by decide); have z5 : (114 : Int32).toInt = 114 := (by decide); have z6 : (11702 : Int32).toInt = 11702 := (by decide); have z7 : (11703 : Int32).toInt = 11703 := (by decide); have z8 : (118 : Int32).toInt = 118 := (by decide); have z9 : (160 : Int32).toInt = 160 := (by decide); have z10 : (161 : Int32).toInt = 161 := (by decide); have z11 : (162 : Int32).toInt = 162 := (by decide); have z12 : (163 : Int32).toInt = 163 := (by decide); have z13 : (2 : Int32).toInt = 2 := (by decide); have z14 : (3 : Int32).toInt = 3 := (by decide); have z15 : (4 : Int32).toInt = 4 := (by decide); omega) (by have q0 := hR.1; have q1 := hR.2.1; have q2 := hR.2.2; have q3 := e2; have q4 := e6; have q5 := e11; have q6 := e16; have q7 := e21; have q8 := ti_eq b13_3; have q9 := ti_eq b44_8; have q10 := ti_eq b44_13; have q11 := ti_eq b44_18; have q12 := ti_in (rd_s hI hR); have q13 := ti_in (rd_e hI hR); have q14 := ti_in (iv_11701 hI); have q15 := ti_in r1; have q16 := ti_in r5; have q17 := ti_in r10; have q18 := ti_in r15; have q19 := ti_in r20; have z0 : (-160 : Int32).toInt = -160 := (by decide); have z1 : (0 : Int32).toInt = 0 := (by decide); have z2 : (1 : Int32).toInt = 1 := (by decide); have z3 : (102 : Int32).toInt = 102 := (by decide); have z4 : (111 : Int32).toInt = 111 := (by decide); have z5 : (114 : Int32).toInt = 114 := (by decide); have z6 : (11702 : Int32).toInt = 11702 := (by decide); have z7 : (11703 : Int32).toInt = 11703 := (by decide); have z8 : (118 : Int32).toInt = 118 := (by decide); have z9 : (160 : Int32).toInt = 160 := (by decide); have z10 : (161 : Int32).toInt = 161 := (by decide); have z11 : (162 : Int32).toInt = 162 := (by decide); have z12 : (163 : Int32).toInt = 163 := (by decide); have z13 : (2 : Int32).toInt = 2 := (by decide); have z14 : (3 : Int32).toInt = 3 := (by decide); have z15 : (4 : Int32).toInt = 4 := (by decide); omega))
          refine R_iaload (pc := 38) dX6_isAt_38 (c_118 _) hx22 ?_
          refine R_aload_n (pc := 39) dX6_isAt_39 rfl rfl ?_
          refine R_iload_n (pc := 40) dX6_isAt_40 rfl rfl ?_
          refine k_chr (pc := 41) (i := 1) (j := 3) 4 109 109 (by decide) (by decide) (by decide) (by decide) (by unfold vp_in; decide) (by decide) (by decide) rfl rfl (by decide) (Nat.zero_le _) (Nat.zero_le _) (Nat.le_of_ble_eq_true rfl) dX6_isAt_41 ?_
          refine R_iceq (pc := 44) 49 dX6_isAt_44 (by decide) (fun b44_23 => ?_) (fun b44_23 => ?_)
          · skip
            refine inc_3_2_1_a (pc := 49) dX6_isAt_49 ?_
            refine R_goto (pc := 52) 20 dX6_isAt_52 (by decide) ?_
            refine R_iload_n (pc := 20) dX6_isAt_20 rfl rfl ?_
            refine R_aload_n (pc := 21) dX6_isAt_21 rfl rfl ?_
            refine k_len (pc := 22) (i := 1) 4 (by decide) (by decide) rfl (by decide) (Nat.zero_le _) (Nat.zero_le _) (Nat.le_of_ble_eq_true rfl) dX6_isAt_22 ?_
            refine R_icge (pc := 25) 55 dX6_isAt_25 (by decide) (fun _ => ?_) (fun h => absurd (by decide) h)
            refine R_iconst (pc := 55) (v := 1) dX6_isAt_55 (by decide) ?_
            exact R_iret (pc := 56) dX6_isAt_56 rfl rfl (Nat.zero_le _) (Nat.zero_le _) ⟨_, rfl, rfl, Or.inl rfl⟩
          · skip
            refine R_iconst (pc := 47) (v := 0) dX6_isAt_47 (by decide) ?_
            exact R_iret (pc := 48) dX6_isAt_48 rfl rfl (Nat.zero_le _) (Nat.zero_le _) ⟨_, rfl, rfl, Or.inr rfl⟩
        · skip
          refine R_iconst (pc := 47) (v := 0) dX6_isAt_47 (by decide) ?_
          exact R_iret (pc := 48) dX6_isAt_48 rfl rfl (Nat.zero_le _) (Nat.zero_le _) ⟨_, rfl, rfl, Or.inr rfl⟩
      · skip
        refine R_iconst (pc := 47) (v := 0) dX6_isAt_47 (by decide) ?_
        exact R_iret (pc := 48) dX6_isAt_48 rfl rfl (Nat.zero_le _) (Nat.zero_le _) ⟨_, rfl, rfl, Or.inr rfl⟩
    · skip
      refine R_iconst (pc := 47) (v := 0) dX6_isAt_47 (by decide) ?_
      exact R_iret (pc := 48) dX6_isAt_48 rfl rfl (Nat.zero_le _) (Nat.zero_le _) ⟨_, rfl, rfl, Or.inr rfl⟩
  · skip
    refine R_iconst (pc := 16) (v := 0) dX6_isAt_16 (by decide) ?_
    exact R_iret (pc := 17) dX6_isAt_17 rfl rfl (Nat.zero_le _) (Nat.zero_le _) ⟨_, rfl, rfl, Or.inr rfl⟩
set_option maxRecDepth 100000 in
set_option maxHeartbeats 40000000 in
theorem gx_X6_isAt_2 {G : vG} {l : Launch} (σ : Sg)  (hI : Inv σ) (hR : Rd σ) : Sp G l yX6_isAt cX6_isAt 3 (some .boolean) 5 0 0 [.ref 117, .ref 1000002] (WW σ) (QI (fun x w2 => w2 = WW σ ∧ (x = 1 ∨ x = 0))) := by
  refine Sp_of_R [(some (.ref 117)), (some (.ref 1000002)), none] [none] rfl (by simp) rfl (Nat.le_of_ble_eq_true rfl) ?_
  refine R_aload_n (pc := 0) dX6_isAt_0 rfl rfl ?_
  refine g_X6_21 (pc := 1) (v := .int (σ.1 11703)) rfl dX6_isAt_1 (c_117 _) rfl ?_
  refine R_aload_n (pc := 4) dX6_isAt_4 rfl rfl ?_
  refine g_X6_40 (pc := 5) (v := .int (σ.1 11702)) rfl dX6_isAt_5 (c_117 _) rfl ?_
  refine R_isub (pc := 8) dX6_isAt_8 ?_
  have r1 : inR ((σ.1 11703) - (σ.1 11702)) (-160) 160 := inR_sub (show inR (σ.1 11703) 0 160 from (rd_e hI hR)) (show inR (σ.1 11702) 0 160 from (rd_s hI hR)) (by decide) (by decide)
  have e2 := ti_sub (l := (-160)) (h := 160) (show inR (σ.1 11703) 0 160 from (rd_e hI hR)) (show inR (σ.1 11702) 0 160 from (rd_s hI hR)) (by decide) (by decide)
  refine R_aload_n (pc := 9) dX6_isAt_9 rfl rfl ?_
  refine k_len (pc := 10) (i := 2) 2 (by decide) (by decide) rfl (by decide) (Nat.zero_le _) (Nat.zero_le _) (Nat.le_of_ble_eq_true rfl) dX6_isAt_10 ?_
  refine R_iceq (pc := 13) 18 dX6_isAt_13 (by decide) (fun b13_3 => ?_) (fun b13_3 => ?_)
  · skip
    refine R_iconst (pc := 18) (v := 0) dX6_isAt_18 (by decide) ?_
    refine st_3_2_i_a (pc := 19) dX6_isAt_19 ?_
    refine R_iload_n (pc := 20) dX6_isAt_20 rfl rfl ?_
    refine R_aload_n (pc := 21) dX6_isAt_21 rfl rfl ?_
    refine k_len (pc := 22) (i := 2) 2 (by decide) (by decide) rfl (by decide) (Nat.zero_le _) (Nat.zero_le _) (Nat.le_of_ble_eq_true rfl) dX6_isAt_22 ?_
    refine R_icge (pc := 25) 55 dX6_isAt_25 (by decide) (fun h => absurd h (by decide)) (fun _ => ?_)
    refine R_aload_n (pc := 28) dX6_isAt_28 rfl rfl ?_
    refine g_X6_9 (pc := 29) (v := .ref 118) rfl dX6_isAt_29 (c_117 _) rfl ?_
    refine R_aload_n (pc := 32) dX6_isAt_32 rfl rfl ?_
    refine g_X6_40 (pc := 33) (v := .int (σ.1 11702)) rfl dX6_isAt_33 (c_117 _) rfl ?_
    refine R_iload_n (pc := 36) dX6_isAt_36 rfl rfl ?_
    refine R_iadd (pc := 37) dX6_isAt_37 ?_
    have r5 : inR ((σ.1 11702) + 0) 0 160 := inR_add (show inR (σ.1 11702) 0 160 from (rd_s hI hR)) (show inR 0 0 0 from (inR_self _)) (by decide) (by decide)
    have e6 := ti_add (l := 0) (h := 160) (show inR (σ.1 11702) 0 160 from (rd_s hI hR)) (show inR 0 0 0 from (inR_self _)) (by decide) (by decide)
    have hx7 : vp_in ((σ.1 11702) + 0) 160 := (vp_ti (by have q0 := hR.1; have q1 := hR.2.1; have q2 := hR.2.2; have q3 := e2; have q4 := e6; have q5 := ti_eq b13_3; have q6 := ti_in (rd_s hI hR); have q7 := ti_in (rd_e hI hR); have q8 := ti_in (iv_11701 hI); have q9 := ti_in r1; have q10 := ti_in r5; have z0 : (-160 : Int32).toInt = -160 := (by decide); have z1 : (0 : Int32).toInt = 0 := (by decide); have z2 : (1 : Int32).toInt = 1 := (by decide); have z3 : (11702 : Int32).toInt = 11702 := (by decide); have z4 : (11703 : Int32).toInt = 11703 := (by decide); have z5 : (160 : Int32).toInt = 160 := (by decide); have z6 : (2 : Int32).toInt = 2 := (by decide); omega) (by have q0 := hR.1; have q1 := hR.2.1; have q2 := hR.2.2; have q3 := e2; have q4 := e6; have q5 := ti_eq b13_3; have q6 := ti_in (rd_s hI hR); have q7 := ti_in (rd_e hI hR); have q8 := ti_in (iv_11701 hI); have q9 := ti_in r1; have q10 := ti_in r5; have z0 : (-160 : Int32).toInt = -160 := (by decide); have z1 : (0 : Int32).toInt = 0 := (by decide); have z2 : (1 : Int32).toInt = 1 := (by decide); have z3 : (11702 : Int32).toInt = 11702 := (by decide); have z4 : (11703 : Int32).toInt = 11703 := (by decide); have z5 : (160 : Int32).toInt = 160 := (by decide); have z6 : (2 : Int32).toInt = 2 := (by decide); omega))
    refine R_iaload (pc := 38) dX6_isAt_38 (c_118 _) hx7 ?_
    refine R_aload_n (pc := 39) dX6_isAt_39 rfl rfl ?_
    refine R_iload_n (pc := 40) dX6_isAt_40 rfl rfl ?_
    refine k_chr (pc := 41) (i := 2) (j := 0) 2 116 116 (by decide) (by decide) (by decide) (by decide) (by unfold vp_in; decide) (by decide) (by decide) rfl rfl (by decide) (Nat.zero_le _) (Nat.zero_le _) (Nat.le_of_ble_eq_true rfl) dX6_isAt_41 ?_
    refine R_iceq (pc := 44) 49 dX6_isAt_44 (by decide) (fun b44_8 => ?_) (fun b44_8 => ?_)
    · skip
      refine inc_3_2_1_a (pc := 49) dX6_isAt_49 ?_
      refine R_goto (pc := 52) 20 dX6_isAt_52 (by decide) ?_
      refine R_iload_n (pc := 20) dX6_isAt_20 rfl rfl ?_
      refine R_aload_n (pc := 21) dX6_isAt_21 rfl rfl ?_
      refine k_len (pc := 22) (i := 2) 2 (by decide) (by decide) rfl (by decide) (Nat.zero_le _) (Nat.zero_le _) (Nat.le_of_ble_eq_true rfl) dX6_isAt_22 ?_
      refine R_icge (pc := 25) 55 dX6_isAt_25 (by decide) (fun h => absurd h (by decide)) (fun _ => ?_)
      refine R_aload_n (pc := 28) dX6_isAt_28 rfl rfl ?_
      refine g_X6_9 (pc := 29) (v := .ref 118) rfl dX6_isAt_29 (c_117 _) rfl ?_
      refine R_aload_n (pc := 32) dX6_isAt_32 rfl rfl ?_
      refine g_X6_40 (pc := 33) (v := .int (σ.1 11702)) rfl dX6_isAt_33 (c_117 _) rfl ?_
      refine R_iload_n (pc := 36) dX6_isAt_36 rfl rfl ?_
      refine R_iadd (pc := 37) dX6_isAt_37 ?_
      have r10 : inR ((σ.1 11702) + 1) 1 161 := inR_add (show inR (σ.1 11702) 0 160 from (rd_s hI hR)) (show inR 1 1 1 from (inR_self _)) (by decide) (by decide)
      have e11 := ti_add (l := 1) (h := 161) (show inR (σ.1 11702) 0 160 from (rd_s hI hR)) (show inR 1 1 1 from (inR_self _)) (by decide) (by decide)
      have hx12 : vp_in ((σ.1 11702) + 1) 160 := (vp_ti (by have q0 := hR.1; have q1 := hR.2.1; have q2 := hR.2.2; have q3 := e2; have q4 := e6; have q5 := e11; have q6 := ti_eq b13_3; have q7 := ti_eq b44_8; have q8 := ti_in (rd_s hI hR); have q9 := ti_in (rd_e hI hR); have q10 := ti_in (iv_11701 hI); have q11 := ti_in r1; have q12 := ti_in r5; have q13 := ti_in r10; have z0 : (-160 : Int32).toInt = -160 := (by decide); have z1 : (0 : Int32).toInt = 0 := (by decide); have z2 : (1 : Int32).toInt = 1 := (by decide); have z3 : (116 : Int32).toInt = 116 := (by decide); have z4 : (11702 : Int32).toInt = 11702 := (by decide); have z5 : (11703 : Int32).toInt = 11703 := (by decide); have z6 : (118 : Int32).toInt = 118 := (by decide); have z7 : (160 : Int32).toInt = 160 := (by decide); have z8 : (161 : Int32).toInt = 161 := (by decide); have z9 : (2 : Int32).toInt = 2 := (by decide); omega) (by have q0 := hR.1; have q1 := hR.2.1; have q2 := hR.2.2; have q3 := e2; have q4 := e6; have q5 := e11; have q6 := ti_eq b13_3; have q7 := ti_eq b44_8; have q8 := ti_in (rd_s hI hR); have q9 := ti_in (rd_e hI hR); have q10 := ti_in (iv_11701 hI); have q11 := ti_in r1; have q12 := ti_in r5; have q13 := ti_in r10; have z0 : (-160 : Int32).toInt = -160 := (by decide); have z1 : (0 : Int32).toInt = 0 := (by decide); have z2 : (1 : Int32).toInt = 1 := (by decide); have z3 : (116 : Int32).toInt = 116 := (by decide); have z4 : (11702 : Int32).toInt = 11702 := (by decide); have z5 : (11703 : Int32).toInt = 11703 := (by decide); have z6 : (118 : Int32).toInt = 118 := (by decide); have z7 : (160 : Int32).toInt = 160 := (by decide); have z8 : (161 : Int32).toInt = 161 := (by decide); have z9 : (2 : Int32).toInt = 2 := (by decide); omega))
      refine R_iaload (pc := 38) dX6_isAt_38 (c_118 _) hx12 ?_
      refine R_aload_n (pc := 39) dX6_isAt_39 rfl rfl ?_
      refine R_iload_n (pc := 40) dX6_isAt_40 rfl rfl ?_
      refine k_chr (pc := 41) (i := 2) (j := 1) 2 111 111 (by decide) (by decide) (by decide) (by decide) (by unfold vp_in; decide) (by decide) (by decide) rfl rfl (by decide) (Nat.zero_le _) (Nat.zero_le _) (Nat.le_of_ble_eq_true rfl) dX6_isAt_41 ?_
      refine R_iceq (pc := 44) 49 dX6_isAt_44 (by decide) (fun b44_13 => ?_) (fun b44_13 => ?_)
      · skip
        refine inc_3_2_1_a (pc := 49) dX6_isAt_49 ?_
        refine R_goto (pc := 52) 20 dX6_isAt_52 (by decide) ?_
        refine R_iload_n (pc := 20) dX6_isAt_20 rfl rfl ?_
        refine R_aload_n (pc := 21) dX6_isAt_21 rfl rfl ?_
        refine k_len (pc := 22) (i := 2) 2 (by decide) (by decide) rfl (by decide) (Nat.zero_le _) (Nat.zero_le _) (Nat.le_of_ble_eq_true rfl) dX6_isAt_22 ?_
        refine R_icge (pc := 25) 55 dX6_isAt_25 (by decide) (fun _ => ?_) (fun h => absurd (by decide) h)
        refine R_iconst (pc := 55) (v := 1) dX6_isAt_55 (by decide) ?_
        exact R_iret (pc := 56) dX6_isAt_56 rfl rfl (Nat.zero_le _) (Nat.zero_le _) ⟨_, rfl, rfl, Or.inl rfl⟩
      · skip
        refine R_iconst (pc := 47) (v := 0) dX6_isAt_47 (by decide) ?_
        exact R_iret (pc := 48) dX6_isAt_48 rfl rfl (Nat.zero_le _) (Nat.zero_le _) ⟨_, rfl, rfl, Or.inr rfl⟩
    · skip
      refine R_iconst (pc := 47) (v := 0) dX6_isAt_47 (by decide) ?_
      exact R_iret (pc := 48) dX6_isAt_48 rfl rfl (Nat.zero_le _) (Nat.zero_le _) ⟨_, rfl, rfl, Or.inr rfl⟩
  · skip
    refine R_iconst (pc := 16) (v := 0) dX6_isAt_16 (by decide) ?_
    exact R_iret (pc := 17) dX6_isAt_17 rfl rfl (Nat.zero_le _) (Nat.zero_le _) ⟨_, rfl, rfl, Or.inr rfl⟩
set_option maxRecDepth 100000 in
set_option maxHeartbeats 40000000 in
theorem gx_X6_isAt_3 {G : vG} {l : Launch} (σ : Sg)  (hI : Inv σ) (hR : Rd σ) : Sp G l yX6_isAt cX6_isAt 3 (some .boolean) 5 0 0 [.ref 117, .ref 1000003] (WW σ) (QI (fun x w2 => w2 = WW σ ∧ (x = 1 ∨ x = 0))) := by
  refine Sp_of_R [(some (.ref 117)), (some (.ref 1000003)), none] [none] rfl (by simp) rfl (Nat.le_of_ble_eq_true rfl) ?_
  refine R_aload_n (pc := 0) dX6_isAt_0 rfl rfl ?_
  refine g_X6_21 (pc := 1) (v := .int (σ.1 11703)) rfl dX6_isAt_1 (c_117 _) rfl ?_
  refine R_aload_n (pc := 4) dX6_isAt_4 rfl rfl ?_
  refine g_X6_40 (pc := 5) (v := .int (σ.1 11702)) rfl dX6_isAt_5 (c_117 _) rfl ?_
  refine R_isub (pc := 8) dX6_isAt_8 ?_
  have r1 : inR ((σ.1 11703) - (σ.1 11702)) (-160) 160 := inR_sub (show inR (σ.1 11703) 0 160 from (rd_e hI hR)) (show inR (σ.1 11702) 0 160 from (rd_s hI hR)) (by decide) (by decide)
  have e2 := ti_sub (l := (-160)) (h := 160) (show inR (σ.1 11703) 0 160 from (rd_e hI hR)) (show inR (σ.1 11702) 0 160 from (rd_s hI hR)) (by decide) (by decide)
  refine R_aload_n (pc := 9) dX6_isAt_9 rfl rfl ?_
  refine k_len (pc := 10) (i := 3) 3 (by decide) (by decide) rfl (by decide) (Nat.zero_le _) (Nat.zero_le _) (Nat.le_of_ble_eq_true rfl) dX6_isAt_10 ?_
  refine R_iceq (pc := 13) 18 dX6_isAt_13 (by decide) (fun b13_3 => ?_) (fun b13_3 => ?_)
  · skip
    refine R_iconst (pc := 18) (v := 0) dX6_isAt_18 (by decide) ?_
    refine st_3_2_i_a (pc := 19) dX6_isAt_19 ?_
    refine R_iload_n (pc := 20) dX6_isAt_20 rfl rfl ?_
    refine R_aload_n (pc := 21) dX6_isAt_21 rfl rfl ?_
    refine k_len (pc := 22) (i := 3) 3 (by decide) (by decide) rfl (by decide) (Nat.zero_le _) (Nat.zero_le _) (Nat.le_of_ble_eq_true rfl) dX6_isAt_22 ?_
    refine R_icge (pc := 25) 55 dX6_isAt_25 (by decide) (fun h => absurd h (by decide)) (fun _ => ?_)
    refine R_aload_n (pc := 28) dX6_isAt_28 rfl rfl ?_
    refine g_X6_9 (pc := 29) (v := .ref 118) rfl dX6_isAt_29 (c_117 _) rfl ?_
    refine R_aload_n (pc := 32) dX6_isAt_32 rfl rfl ?_
    refine g_X6_40 (pc := 33) (v := .int (σ.1 11702)) rfl dX6_isAt_33 (c_117 _) rfl ?_
    refine R_iload_n (pc := 36) dX6_isAt_36 rfl rfl ?_
    refine R_iadd (pc := 37) dX6_isAt_37 ?_
    have r5 : inR ((σ.1 11702) + 0) 0 160 := inR_add (show inR (σ.1 11702) 0 160 from (rd_s hI hR)) (show inR 0 0 0 from (inR_self _)) (by decide) (by decide)
    have e6 := ti_add (l := 0) (h := 160) (show inR (σ.1 11702) 0 160 from (rd_s hI hR)) (show inR 0 0 0 from (inR_self _)) (by decide) (by decide)
    have hx7 : vp_in ((σ.1 11702) + 0) 160 := (vp_ti (by have q0 := hR.1; have q1 := hR.2.1; have q2 := hR.2.2; have q3 := e2; have q4 := e6; have q5 := ti_eq b13_3; have q6 := ti_in (rd_s hI hR); have q7 := ti_in (rd_e hI hR); have q8 := ti_in (iv_11701 hI); have q9 := ti_in r1; have q10 := ti_in r5; have z0 : (-160 : Int32).toInt = -160 := (by decide); have z1 : (0 : Int32).toInt = 0 := (by decide); have z2 : (1 : Int32).toInt = 1 := (by decide); have z3 : (11702 : Int32).toInt = 11702 := (by decide); have z4 : (11703 : Int32).toInt = 11703 := (by decide); have z5 : (160 : Int32).toInt = 160 := (by decide); have z6 : (3 : Int32).toInt = 3 := (by decide); omega) (by have q0 := hR.1; have q1 := hR.2.1; have q2 := hR.2.2; have q3 := e2; have q4 := e6; have q5 := ti_eq b13_3; have q6 := ti_in (rd_s hI hR); have q7 := ti_in (rd_e hI hR); have q8 := ti_in (iv_11701 hI); have q9 := ti_in r1; have q10 := ti_in r5; have z0 : (-160 : Int32).toInt = -160 := (by decide); have z1 : (0 : Int32).toInt = 0 := (by decide); have z2 : (1 : Int32).toInt = 1 := (by decide); have z3 : (11702 : Int32).toInt = 11702 := (by decide); have z4 : (11703 : Int32).toInt = 11703 := (by decide); have z5 : (160 : Int32).toInt = 160 := (by decide); have z6 : (3 : Int32).toInt = 3 := (by decide); omega))
    refine R_iaload (pc := 38) dX6_isAt_38 (c_118 _) hx7 ?_
    refine R_aload_n (pc := 39) dX6_isAt_39 rfl rfl ?_
    refine R_iload_n (pc := 40) dX6_isAt_40 rfl rfl ?_
    refine k_chr (pc := 41) (i := 3) (j := 0) 3 100 100 (by decide) (by decide) (by decide) (by decide) (by unfold vp_in; decide) (by decide) (by decide) rfl rfl (by decide) (Nat.zero_le _) (Nat.zero_le _) (Nat.le_of_ble_eq_true rfl) dX6_isAt_41 ?_
    refine R_iceq (pc := 44) 49 dX6_isAt_44 (by decide) (fun b44_8 => ?_) (fun b44_8 => ?_)
    · skip
      refine inc_3_2_1_a (pc := 49) dX6_isAt_49 ?_
      refine R_goto (pc := 52) 20 dX6_isAt_52 (by decide) ?_
      refine R_iload_n (pc := 20) dX6_isAt_20 rfl rfl ?_
      refine R_aload_n (pc := 21) dX6_isAt_21 rfl rfl ?_
      refine k_len (pc := 22) (i := 3) 3 (by decide) (by decide) rfl (by decide) (Nat.zero_le _) (Nat.zero_le _) (Nat.le_of_ble_eq_true rfl) dX6_isAt_22 ?_
      refine R_icge (pc := 25) 55 dX6_isAt_25 (by decide) (fun h => absurd h (by decide)) (fun _ => ?_)
      refine R_aload_n (pc := 28) dX6_isAt_28 rfl rfl ?_
      refine g_X6_9 (pc := 29) (v := .ref 118) rfl dX6_isAt_29 (c_117 _) rfl ?_
      refine R_aload_n (pc := 32) dX6_isAt_32 rfl rfl ?_
      refine g_X6_40 (pc := 33) (v := .int (σ.1 11702)) rfl dX6_isAt_33 (c_117 _) rfl ?_
      refine R_iload_n (pc := 36) dX6_isAt_36 rfl rfl ?_
      refine R_iadd (pc := 37) dX6_isAt_37 ?_
      have r10 : inR ((σ.1 11702) + 1) 1 161 := inR_add (show inR (σ.1 11702) 0 160 from (rd_s hI hR)) (show inR 1 1 1 from (inR_self _)) (by decide) (by decide)
      have e11 := ti_add (l := 1) (h := 161) (show inR (σ.1 11702) 0 160 from (rd_s hI hR)) (show inR 1 1 1 from (inR_self _)) (by decide) (by decide)
      have hx12 : vp_in ((σ.1 11702) + 1) 160 := (vp_ti (by have q0 := hR.1; have q1 := hR.2.1; have q2 := hR.2.2; have q3 := e2; have q4 := e6; have q5 := e11; have q6 := ti_eq b13_3; have q7 := ti_eq b44_8; have q8 := ti_in (rd_s hI hR); have q9 := ti_in (rd_e hI hR); have q10 := ti_in (iv_11701 hI); have q11 := ti_in r1; have q12 := ti_in r5; have q13 := ti_in r10; have z0 : (-160 : Int32).toInt = -160 := (by decide); have z1 : (0 : Int32).toInt = 0 := (by decide); have z2 : (1 : Int32).toInt = 1 := (by decide); have z3 : (100 : Int32).toInt = 100 := (by decide); have z4 : (11702 : Int32).toInt = 11702 := (by decide); have z5 : (11703 : Int32).toInt = 11703 := (by decide); have z6 : (118 : Int32).toInt = 118 := (by decide); have z7 : (160 : Int32).toInt = 160 := (by decide); have z8 : (161 : Int32).toInt = 161 := (by decide); have z9 : (3 : Int32).toInt = 3 := (by decide); omega) (by have q0 := hR.1; have q1 := hR.2.1; have q2 := hR.2.2; have q3 := e2; have q4 := e6; have q5 := e11; have q6 := ti_eq b13_3; have q7 := ti_eq b44_8; have q8 := ti_in (rd_s hI hR); have q9 := ti_in (rd_e hI hR); have q10 := ti_in (iv_11701 hI); have q11 := ti_in r1; have q12 := ti_in r5; have q13 := ti_in r10; have z0 : (-160 : Int32).toInt = -160 := (by decide); have z1 : (0 : Int32).toInt = 0 := (by decide); have z2 : (1 : Int32).toInt = 1 := (by decide); have z3 : (100 : Int32).toInt = 100 := (by decide); have z4 : (11702 : Int32).toInt = 11702 := (by decide); have z5 : (11703 : Int32).toInt = 11703 := (by decide); have z6 : (118 : Int32).toInt = 118 := (by decide); have z7 : (160 : Int32).toInt = 160 := (by decide); have z8 : (161 : Int32).toInt = 161 := (by decide); have z9 : (3 : Int32).toInt = 3 := (by decide); omega))
      refine R_iaload (pc := 38) dX6_isAt_38 (c_118 _) hx12 ?_
      refine R_aload_n (pc := 39) dX6_isAt_39 rfl rfl ?_
      refine R_iload_n (pc := 40) dX6_isAt_40 rfl rfl ?_
      refine k_chr (pc := 41) (i := 3) (j := 1) 3 97 97 (by decide) (by decide) (by decide) (by decide) (by unfold vp_in; decide) (by decide) (by decide) rfl rfl (by decide) (Nat.zero_le _) (Nat.zero_le _) (Nat.le_of_ble_eq_true rfl) dX6_isAt_41 ?_
      refine R_iceq (pc := 44) 49 dX6_isAt_44 (by decide) (fun b44_13 => ?_) (fun b44_13 => ?_)
      · skip
        refine inc_3_2_1_a (pc := 49) dX6_isAt_49 ?_
        refine R_goto (pc := 52) 20 dX6_isAt_52 (by decide) ?_
        refine R_iload_n (pc := 20) dX6_isAt_20 rfl rfl ?_
        refine R_aload_n (pc := 21) dX6_isAt_21 rfl rfl ?_
        refine k_len (pc := 22) (i := 3) 3 (by decide) (by decide) rfl (by decide) (Nat.zero_le _) (Nat.zero_le _) (Nat.le_of_ble_eq_true rfl) dX6_isAt_22 ?_
        refine R_icge (pc := 25) 55 dX6_isAt_25 (by decide) (fun h => absurd h (by decide)) (fun _ => ?_)
        refine R_aload_n (pc := 28) dX6_isAt_28 rfl rfl ?_
        refine g_X6_9 (pc := 29) (v := .ref 118) rfl dX6_isAt_29 (c_117 _) rfl ?_
        refine R_aload_n (pc := 32) dX6_isAt_32 rfl rfl ?_
        refine g_X6_40 (pc := 33) (v := .int (σ.1 11702)) rfl dX6_isAt_33 (c_117 _) rfl ?_
        refine R_iload_n (pc := 36) dX6_isAt_36 rfl rfl ?_
        refine R_iadd (pc := 37) dX6_isAt_37 ?_
        have r15 : inR ((σ.1 11702) + 2) 2 162 := inR_add (show inR (σ.1 11702) 0 160 from (rd_s hI hR)) (show inR 2 2 2 from (inR_self _)) (by decide) (by decide)
        have e16 := ti_add (l := 2) (h := 162) (show inR (σ.1 11702) 0 160 from (rd_s hI hR)) (show inR 2 2 2 from (inR_self _)) (by decide) (by decide)
        have hx17 : vp_in ((σ.1 11702) + 2) 160 := (vp_ti (by have q0 := hR.1; have q1 := hR.2.1; have q2 := hR.2.2; have q3 := e2; have q4 := e6; have q5 := e11; have q6 := e16; have q7 := ti_eq b13_3; have q8 := ti_eq b44_8; have q9 := ti_eq b44_13; have q10 := ti_in (rd_s hI hR); have q11 := ti_in (rd_e hI hR); have q12 := ti_in (iv_11701 hI); have q13 := ti_in r1; have q14 := ti_in r5; have q15 := ti_in r10; have q16 := ti_in r15; have z0 : (-160 : Int32).toInt = -160 := (by decide); have z1 : (0 : Int32).toInt = 0 := (by decide); have z2 : (1 : Int32).toInt = 1 := (by decide); have z3 : (100 : Int32).toInt = 100 := (by decide); have z4 : (11702 : Int32).toInt = 11702 := (by decide); have z5 : (11703 : Int32).toInt = 11703 := (by decide); have z6 : (118 : Int32).toInt = 118 := (by decide); have z7 : (160 : Int32).toInt = 160 := (by decide); have z8 : (161 : Int32).toInt = 161 := (by decide); have z9 : (162 : Int32).toInt = 162 := (by decide); have z10 : (2 : Int32).toInt = 2 := (by decide); have z11 : (3 : Int32).toInt = 3 := (by decide); have z12 : (97 : Int32).toInt = 97 := (by decide); omega) (by have q0 := hR.1; have q1 := hR.2.1; have q2 := hR.2.2; have q3 := e2; have q4 := e6; have q5 := e11; have q6 := e16; have q7 := ti_eq b13_3; have q8 := ti_eq b44_8; have q9 := ti_eq b44_13; have q10 := ti_in (rd_s hI hR); have q11 := ti_in (rd_e hI hR); have q12 := ti_in (iv_11701 hI); have q13 := ti_in r1; have q14 := ti_in r5; have q15 := ti_in r10; have q16 := ti_in r15; have z0 : (-160 : Int32).toInt = -160 := (by decide); have z1 : (0 : Int32).toInt = 0 := (by decide); have z2 : (1 : Int32).toInt = 1 := (by decide); have z3 : (100 : Int32).toInt = 100 := (by decide); have z4 : (11702 : Int32).toInt = 11702 := (by decide); have z5 : (11703 : Int32).toInt = 11703 := (by decide); have z6 : (118 : Int32).toInt = 118 := (by decide); have z7 : (160 : Int32).toInt = 160 := (by decide); have z8 : (161 : Int32).toInt = 161 := (by decide); have z9 : (162 : Int32).toInt = 162 := (by decide); have z10 : (2 : Int32).toInt = 2 := (by decide); have z11 : (3 : Int32).toInt = 3 := (by decide); have z12 : (97 : Int32).toInt = 97 := (by decide); omega))
        refine R_iaload (pc := 38) dX6_isAt_38 (c_118 _) hx17 ?_
        refine R_aload_n (pc := 39) dX6_isAt_39 rfl rfl ?_
        refine R_iload_n (pc := 40) dX6_isAt_40 rfl rfl ?_
        refine k_chr (pc := 41) (i := 3) (j := 2) 3 121 121 (by decide) (by decide) (by decide) (by decide) (by unfold vp_in; decide) (by decide) (by decide) rfl rfl (by decide) (Nat.zero_le _) (Nat.zero_le _) (Nat.le_of_ble_eq_true rfl) dX6_isAt_41 ?_
        refine R_iceq (pc := 44) 49 dX6_isAt_44 (by decide) (fun b44_18 => ?_) (fun b44_18 => ?_)
        · skip
          refine inc_3_2_1_a (pc := 49) dX6_isAt_49 ?_
          refine R_goto (pc := 52) 20 dX6_isAt_52 (by decide) ?_
          refine R_iload_n (pc := 20) dX6_isAt_20 rfl rfl ?_
          refine R_aload_n (pc := 21) dX6_isAt_21 rfl rfl ?_
          refine k_len (pc := 22) (i := 3) 3 (by decide) (by decide) rfl (by decide) (Nat.zero_le _) (Nat.zero_le _) (Nat.le_of_ble_eq_true rfl) dX6_isAt_22 ?_
          refine R_icge (pc := 25) 55 dX6_isAt_25 (by decide) (fun _ => ?_) (fun h => absurd (by decide) h)
          refine R_iconst (pc := 55) (v := 1) dX6_isAt_55 (by decide) ?_
          exact R_iret (pc := 56) dX6_isAt_56 rfl rfl (Nat.zero_le _) (Nat.zero_le _) ⟨_, rfl, rfl, Or.inl rfl⟩
        · skip
          refine R_iconst (pc := 47) (v := 0) dX6_isAt_47 (by decide) ?_
          exact R_iret (pc := 48) dX6_isAt_48 rfl rfl (Nat.zero_le _) (Nat.zero_le _) ⟨_, rfl, rfl, Or.inr rfl⟩
      · skip
        refine R_iconst (pc := 47) (v := 0) dX6_isAt_47 (by decide) ?_
        exact R_iret (pc := 48) dX6_isAt_48 rfl rfl (Nat.zero_le _) (Nat.zero_le _) ⟨_, rfl, rfl, Or.inr rfl⟩
    · skip
      refine R_iconst (pc := 47) (v := 0) dX6_isAt_47 (by decide) ?_
      exact R_iret (pc := 48) dX6_isAt_48 rfl rfl (Nat.zero_le _) (Nat.zero_le _) ⟨_, rfl, rfl, Or.inr rfl⟩
  · skip
    refine R_iconst (pc := 16) (v := 0) dX6_isAt_16 (by decide) ?_
    exact R_iret (pc := 17) dX6_isAt_17 rfl rfl (Nat.zero_le _) (Nat.zero_le _) ⟨_, rfl, rfl, Or.inr rfl⟩
set_option maxRecDepth 100000 in
set_option maxHeartbeats 40000000 in
theorem gx_X6_isAt_4 {G : vG} {l : Launch} (σ : Sg)  (hI : Inv σ) (hR : Rd σ) : Sp G l yX6_isAt cX6_isAt 3 (some .boolean) 5 0 0 [.ref 117, .ref 1000004] (WW σ) (QI (fun x w2 => w2 = WW σ ∧ (x = 1 ∨ x = 0))) := by
  refine Sp_of_R [(some (.ref 117)), (some (.ref 1000004)), none] [none] rfl (by simp) rfl (Nat.le_of_ble_eq_true rfl) ?_
  refine R_aload_n (pc := 0) dX6_isAt_0 rfl rfl ?_
  refine g_X6_21 (pc := 1) (v := .int (σ.1 11703)) rfl dX6_isAt_1 (c_117 _) rfl ?_
  refine R_aload_n (pc := 4) dX6_isAt_4 rfl rfl ?_
  refine g_X6_40 (pc := 5) (v := .int (σ.1 11702)) rfl dX6_isAt_5 (c_117 _) rfl ?_
  refine R_isub (pc := 8) dX6_isAt_8 ?_
  have r1 : inR ((σ.1 11703) - (σ.1 11702)) (-160) 160 := inR_sub (show inR (σ.1 11703) 0 160 from (rd_e hI hR)) (show inR (σ.1 11702) 0 160 from (rd_s hI hR)) (by decide) (by decide)
  have e2 := ti_sub (l := (-160)) (h := 160) (show inR (σ.1 11703) 0 160 from (rd_e hI hR)) (show inR (σ.1 11702) 0 160 from (rd_s hI hR)) (by decide) (by decide)
  refine R_aload_n (pc := 9) dX6_isAt_9 rfl rfl ?_
  refine k_len (pc := 10) (i := 4) 4 (by decide) (by decide) rfl (by decide) (Nat.zero_le _) (Nat.zero_le _) (Nat.le_of_ble_eq_true rfl) dX6_isAt_10 ?_
  refine R_iceq (pc := 13) 18 dX6_isAt_13 (by decide) (fun b13_3 => ?_) (fun b13_3 => ?_)
  · skip
    refine R_iconst (pc := 18) (v := 0) dX6_isAt_18 (by decide) ?_
    refine st_3_2_i_a (pc := 19) dX6_isAt_19 ?_
    refine R_iload_n (pc := 20) dX6_isAt_20 rfl rfl ?_
    refine R_aload_n (pc := 21) dX6_isAt_21 rfl rfl ?_
    refine k_len (pc := 22) (i := 4) 4 (by decide) (by decide) rfl (by decide) (Nat.zero_le _) (Nat.zero_le _) (Nat.le_of_ble_eq_true rfl) dX6_isAt_22 ?_
    refine R_icge (pc := 25) 55 dX6_isAt_25 (by decide) (fun h => absurd h (by decide)) (fun _ => ?_)
    refine R_aload_n (pc := 28) dX6_isAt_28 rfl rfl ?_
    refine g_X6_9 (pc := 29) (v := .ref 118) rfl dX6_isAt_29 (c_117 _) rfl ?_
    refine R_aload_n (pc := 32) dX6_isAt_32 rfl rfl ?_
    refine g_X6_40 (pc := 33) (v := .int (σ.1 11702)) rfl dX6_isAt_33 (c_117 _) rfl ?_
    refine R_iload_n (pc := 36) dX6_isAt_36 rfl rfl ?_
    refine R_iadd (pc := 37) dX6_isAt_37 ?_
    have r5 : inR ((σ.1 11702) + 0) 0 160 := inR_add (show inR (σ.1 11702) 0 160 from (rd_s hI hR)) (show inR 0 0 0 from (inR_self _)) (by decide) (by decide)
    have e6 := ti_add (l := 0) (h := 160) (show inR (σ.1 11702) 0 160 from (rd_s hI hR)) (show inR 0 0 0 from (inR_self _)) (by decide) (by decide)
    have hx7 : vp_in ((σ.1 11702) + 0) 160 := (vp_ti (by have q0 := hR.1; have q1 := hR.2.1; have q2 := hR.2.2; have q3 := e2; have q4 := e6; have q5 := ti_eq b13_3; have q6 := ti_in (rd_s hI hR); have q7 := ti_in (rd_e hI hR); have q8 := ti_in (iv_11701 hI); have q9 := ti_in r1; have q10 := ti_in r5; have z0 : (-160 : Int32).toInt = -160 := (by decide); have z1 : (0 : Int32).toInt = 0 := (by decide); have z2 : (1 : Int32).toInt = 1 := (by decide); have z3 : (11702 : Int32).toInt = 11702 := (by decide); have z4 : (11703 : Int32).toInt = 11703 := (by decide); have z5 : (160 : Int32).toInt = 160 := (by decide); have z6 : (4 : Int32).toInt = 4 := (by decide); omega) (by have q0 := hR.1; have q1 := hR.2.1; have q2 := hR.2.2; have q3 := e2; have q4 := e6; have q5 := ti_eq b13_3; have q6 := ti_in (rd_s hI hR); have q7 := ti_in (rd_e hI hR); have q8 := ti_in (iv_11701 hI); have q9 := ti_in r1; have q10 := ti_in r5; have z0 : (-160 : Int32).toInt = -160 := (by decide); have z1 : (0 : Int32).toInt = 0 := (by decide); have z2 : (1 : Int32).toInt = 1 := (by decide); have z3 : (11702 : Int32).toInt = 11702 := (by decide); have z4 : (11703 : Int32).toInt = 11703 := (by decide); have z5 : (160 : Int32).toInt = 160 := (by decide); have z6 : (4 : Int32).toInt = 4 := (by decide); omega))
    refine R_iaload (pc := 38) dX6_isAt_38 (c_118 _) hx7 ?_
    refine R_aload_n (pc := 39) dX6_isAt_39 rfl rfl ?_
    refine R_iload_n (pc := 40) dX6_isAt_40 rfl rfl ?_
    refine k_chr (pc := 41) (i := 4) (j := 0) 4 98 98 (by decide) (by decide) (by decide) (by decide) (by unfold vp_in; decide) (by decide) (by decide) rfl rfl (by decide) (Nat.zero_le _) (Nat.zero_le _) (Nat.le_of_ble_eq_true rfl) dX6_isAt_41 ?_
    refine R_iceq (pc := 44) 49 dX6_isAt_44 (by decide) (fun b44_8 => ?_) (fun b44_8 => ?_)
    · skip
      refine inc_3_2_1_a (pc := 49) dX6_isAt_49 ?_
      refine R_goto (pc := 52) 20 dX6_isAt_52 (by decide) ?_
      refine R_iload_n (pc := 20) dX6_isAt_20 rfl rfl ?_
      refine R_aload_n (pc := 21) dX6_isAt_21 rfl rfl ?_
      refine k_len (pc := 22) (i := 4) 4 (by decide) (by decide) rfl (by decide) (Nat.zero_le _) (Nat.zero_le _) (Nat.le_of_ble_eq_true rfl) dX6_isAt_22 ?_
      refine R_icge (pc := 25) 55 dX6_isAt_25 (by decide) (fun h => absurd h (by decide)) (fun _ => ?_)
      refine R_aload_n (pc := 28) dX6_isAt_28 rfl rfl ?_
      refine g_X6_9 (pc := 29) (v := .ref 118) rfl dX6_isAt_29 (c_117 _) rfl ?_
      refine R_aload_n (pc := 32) dX6_isAt_32 rfl rfl ?_
      refine g_X6_40 (pc := 33) (v := .int (σ.1 11702)) rfl dX6_isAt_33 (c_117 _) rfl ?_
      refine R_iload_n (pc := 36) dX6_isAt_36 rfl rfl ?_
      refine R_iadd (pc := 37) dX6_isAt_37 ?_
      have r10 : inR ((σ.1 11702) + 1) 1 161 := inR_add (show inR (σ.1 11702) 0 160 from (rd_s hI hR)) (show inR 1 1 1 from (inR_self _)) (by decide) (by decide)
      have e11 := ti_add (l := 1) (h := 161) (show inR (σ.1 11702) 0 160 from (rd_s hI hR)) (show inR 1 1 1 from (inR_self _)) (by decide) (by decide)
      have hx12 : vp_in ((σ.1 11702) + 1) 160 := (vp_ti (by have q0 := hR.1; have q1 := hR.2.1; have q2 := hR.2.2; have q3 := e2; have q4 := e6; have q5 := e11; have q6 := ti_eq b13_3; have q7 := ti_eq b44_8; have q8 := ti_in (rd_s hI hR); have q9 := ti_in (rd_e hI hR); have q10 := ti_in (iv_11701 hI); have q11 := ti_in r1; have q12 := ti_in r5; have q13 := ti_in r10; have z0 : (-160 : Int32).toInt = -160 := (by decide); have z1 : (0 : Int32).toInt = 0 := (by decide); have z2 : (1 : Int32).toInt = 1 := (by decide); have z3 : (11702 : Int32).toInt = 11702 := (by decide); have z4 : (11703 : Int32).toInt = 11703 := (by decide); have z5 : (118 : Int32).toInt = 118 := (by decide); have z6 : (160 : Int32).toInt = 160 := (by decide); have z7 : (161 : Int32).toInt = 161 := (by decide); have z8 : (4 : Int32).toInt = 4 := (by decide); have z9 : (98 : Int32).toInt = 98 := (by decide); omega) (by have q0 := hR.1; have q1 := hR.2.1; have q2 := hR.2.2; have q3 := e2; have q4 := e6; have q5 := e11; have q6 := ti_eq b13_3; have q7 := ti_eq b44_8; have q8 := ti_in (rd_s hI hR); have q9 := ti_in (rd_e hI hR); have q10 := ti_in (iv_11701 hI); have q11 := ti_in r1; have q12 := ti_in r5; have q13 := ti_in r10; have z0 : (-160 : Int32).toInt = -160 := (by decide); have z1 : (0 : Int32).toInt = 0 := (by decide); have z2 : (1 : Int32).toInt = 1 := (by decide); have z3 : (11702 : Int32).toInt = 11702 := (by decide); have z4 : (11703 : Int32).toInt = 11703 := (by decide); have z5 : (118 : Int32).toInt = 118 := (by decide); have z6 : (160 : Int32).toInt = 160 := (by decide); have z7 : (161 : Int32).toInt = 161 := (by decide); have z8 : (4 : Int32).toInt = 4 := (by decide); have z9 : (98 : Int32).toInt = 98 := (by decide); omega))
      refine R_iaload (pc := 38) dX6_isAt_38 (c_118 _) hx12 ?_
      refine R_aload_n (pc := 39) dX6_isAt_39 rfl rfl ?_
      refine R_iload_n (pc := 40) dX6_isAt_40 rfl rfl ?_
      refine k_chr (pc := 41) (i := 4) (j := 1) 4 97 97 (by decide) (by decide) (by decide) (by decide) (by unfold vp_in; decide) (by decide) (by decide) rfl rfl (by decide) (Nat.zero_le _) (Nat.zero_le _) (Nat.le_of_ble_eq_true rfl) dX6_isAt_41 ?_
      refine R_iceq (pc := 44) 49 dX6_isAt_44 (by decide) (fun b44_13 => ?_) (fun b44_13 => ?_)
      · skip
        refine inc_3_2_1_a (pc := 49) dX6_isAt_49 ?_
        refine R_goto (pc := 52) 20 dX6_isAt_52 (by decide) ?_
        refine R_iload_n (pc := 20) dX6_isAt_20 rfl rfl ?_
        refine R_aload_n (pc := 21) dX6_isAt_21 rfl rfl ?_
        refine k_len (pc := 22) (i := 4) 4 (by decide) (by decide) rfl (by decide) (Nat.zero_le _) (Nat.zero_le _) (Nat.le_of_ble_eq_true rfl) dX6_isAt_22 ?_
        refine R_icge (pc := 25) 55 dX6_isAt_25 (by decide) (fun h => absurd h (by decide)) (fun _ => ?_)
        refine R_aload_n (pc := 28) dX6_isAt_28 rfl rfl ?_
        refine g_X6_9 (pc := 29) (v := .ref 118) rfl dX6_isAt_29 (c_117 _) rfl ?_
        refine R_aload_n (pc := 32) dX6_isAt_32 rfl rfl ?_
        refine g_X6_40 (pc := 33) (v := .int (σ.1 11702)) rfl dX6_isAt_33 (c_117 _) rfl ?_
        refine R_iload_n (pc := 36) dX6_isAt_36 rfl rfl ?_
        refine R_iadd (pc := 37) dX6_isAt_37 ?_
        have r15 : inR ((σ.1 11702) + 2) 2 162 := inR_add (show inR (σ.1 11702) 0 160 from (rd_s hI hR)) (show inR 2 2 2 from (inR_self _)) (by decide) (by decide)
        have e16 := ti_add (l := 2) (h := 162) (show inR (σ.1 11702) 0 160 from (rd_s hI hR)) (show inR 2 2 2 from (inR_self _)) (by decide) (by decide)
        have hx17 : vp_in ((σ.1 11702) + 2) 160 := (vp_ti (by have q0 := hR.1; have q1 := hR.2.1; have q2 := hR.2.2; have q3 := e2; have q4 := e6; have q5 := e11; have q6 := e16; have q7 := ti_eq b13_3; have q8 := ti_eq b44_8; have q9 := ti_eq b44_13; have q10 := ti_in (rd_s hI hR); have q11 := ti_in (rd_e hI hR); have q12 := ti_in (iv_11701 hI); have q13 := ti_in r1; have q14 := ti_in r5; have q15 := ti_in r10; have q16 := ti_in r15; have z0 : (-160 : Int32).toInt = -160 := (by decide); have z1 : (0 : Int32).toInt = 0 := (by decide); have z2 : (1 : Int32).toInt = 1 := (by decide); have z3 : (11702 : Int32).toInt = 11702 := (by decide); have z4 : (11703 : Int32).toInt = 11703 := (by decide); have z5 : (118 : Int32).toInt = 118 := (by decide); have z6 : (160 : Int32).toInt = 160 := (by decide); have z7 : (161 : Int32).toInt = 161 := (by decide); have z8 : (162 : Int32).toInt = 162 := (by decide); have z9 : (2 : Int32).toInt = 2 := (by decide); have z10 : (4 : Int32).toInt = 4 := (by decide); have z11 : (97 : Int32).toInt = 97 := (by decide); have z12 : (98 : Int32).toInt = 98 := (by decide); omega) (by have q0 := hR.1; have q1 := hR.2.1; have q2 := hR.2.2; have q3 := e2; have q4 := e6; have q5 := e11; have q6 := e16; have q7 := ti_eq b13_3; have q8 := ti_eq b44_8; have q9 := ti_eq b44_13; have q10 := ti_in (rd_s hI hR); have q11 := ti_in (rd_e hI hR); have q12 := ti_in (iv_11701 hI); have q13 := ti_in r1; have q14 := ti_in r5; have q15 := ti_in r10; have q16 := ti_in r15; have z0 : (-160 : Int32).toInt = -160 := (by decide); have z1 : (0 : Int32).toInt = 0 := (by decide); have z2 : (1 : Int32).toInt = 1 := (by decide); have z3 : (11702 : Int32).toInt = 11702 := (by decide); have z4 : (11703 : Int32).toInt = 11703 := (by decide); have z5 : (118 : Int32).toInt = 118 := (by decide); have z6 : (160 : Int32).toInt = 160 := (by decide); have z7 : (161 : Int32).toInt = 161 := (by decide); have z8 : (162 : Int32).toInt = 162 := (by decide); have z9 : (2 : Int32).toInt = 2 := (by decide); have z10 : (4 : Int32).toInt = 4 := (by decide); have z11 : (97 : Int32).toInt = 97 := (by decide); have z12 : (98 : Int32).toInt = 98 := (by decide); omega))
        refine R_iaload (pc := 38) dX6_isAt_38 (c_118 _) hx17 ?_
        refine R_aload_n (pc := 39) dX6_isAt_39 rfl rfl ?_
        refine R_iload_n (pc := 40) dX6_isAt_40 rfl rfl ?_
        refine k_chr (pc := 41) (i := 4) (j := 2) 4 99 99 (by decide) (by decide) (by decide) (by decide) (by unfold vp_in; decide) (by decide) (by decide) rfl rfl (by decide) (Nat.zero_le _) (Nat.zero_le _) (Nat.le_of_ble_eq_true rfl) dX6_isAt_41 ?_
        refine R_iceq (pc := 44) 49 dX6_isAt_44 (by decide) (fun b44_18 => ?_) (fun b44_18 => ?_)
        · skip
          refine inc_3_2_1_a (pc := 49) dX6_isAt_49 ?_
          refine R_goto (pc := 52) 20 dX6_isAt_52 (by decide) ?_
          refine R_iload_n (pc := 20) dX6_isAt_20 rfl rfl ?_
          refine R_aload_n (pc := 21) dX6_isAt_21 rfl rfl ?_
          refine k_len (pc := 22) (i := 4) 4 (by decide) (by decide) rfl (by decide) (Nat.zero_le _) (Nat.zero_le _) (Nat.le_of_ble_eq_true rfl) dX6_isAt_22 ?_
          refine R_icge (pc := 25) 55 dX6_isAt_25 (by decide) (fun h => absurd h (by decide)) (fun _ => ?_)
          refine R_aload_n (pc := 28) dX6_isAt_28 rfl rfl ?_
          refine g_X6_9 (pc := 29) (v := .ref 118) rfl dX6_isAt_29 (c_117 _) rfl ?_
          refine R_aload_n (pc := 32) dX6_isAt_32 rfl rfl ?_
          refine g_X6_40 (pc := 33) (v := .int (σ.1 11702)) rfl dX6_isAt_33 (c_117 _) rfl ?_
          refine R_iload_n (pc := 36) dX6_isAt_36 rfl rfl ?_
          refine R_iadd (pc := 37) dX6_isAt_37 ?_
          have r20 : inR ((σ.1 11702) + 3) 3 163 := inR_add (show inR (σ.1 11702) 0 160 from (rd_s hI hR)) (show inR 3 3 3 from (inR_self _)) (by decide) (by decide)
          have e21 := ti_add (l := 3) (h := 163) (show inR (σ.1 11702) 0 160 from (rd_s hI hR)) (show inR 3 3 3 from (inR_self _)) (by decide) (by decide)
          have hx22 : vp_in ((σ.1 11702) + 3) 160 := (vp_ti (by have q0 := hR.1; have q1 := hR.2.1; have q2 := hR.2.2; have q3 := e2; have q4 := e6; have q5 := e11; have q6 := e16; have q7 := e21; have q8 := ti_eq b13_3; have q9 := ti_eq b44_8; have q10 := ti_eq b44_13; have q11 := ti_eq b44_18; have q12 := ti_in (rd_s hI hR); have q13 := ti_in (rd_e hI hR); have q14 := ti_in (iv_11701 hI); have q15 := ti_in r1; have q16 := ti_in r5; have q17 := ti_in r10; have q18 := ti_in r15; have q19 := ti_in r20; have z0 : (-160 : Int32).toInt = -160 := (by decide); have z1 : (0 : Int32).toInt = 0 := (by decide); have z2 : (1 : Int32).toInt = 1 := (by decide); have z3 : (11702 : Int32).toInt = 11702 := (by decide); have z4 : (11703 : Int32).toInt = 11703 := (by decide); have z5 : (118 : Int32).toInt = 118 := (by decide); have z6 : (160 : Int32).toInt = 160 := (by decide); have z7 : (161 : Int32).toInt = 161 := (by decide); have z8 : (162 : Int32).toInt = 162 := (by decide); have z9 : (163 : Int32).toInt = 163 := (by decide); have z10 : (2 : Int32).toInt = 2 := (by decide); have z11 : (3 : Int32).toInt = 3 := (by decide); have z12 : (4 : Int32).toInt = 4 := (by decide); have z13 : (97 : Int32).toInt = 97 := (by decide); have z14 : (98 : Int32).toInt = 98 := (by decide); have z15 : (99 : Int32).toInt = 99 := (by decide); omega) (by have q0 := hR.1; have q1 := hR.2.1; have q2 := hR.2.2; have q3 := e2; have q4 := e6; have q5 := e11; have q6 := e16; have q7 := e21; have q8 := ti_eq b13_3; have q9 := ti_eq b44_8; have q10 := ti_eq b44_13; have q11 := ti_eq b44_18; have q12 := ti_in (rd_s hI hR); have q13 := ti_in (rd_e hI hR); have q14 := ti_in (iv_11701 hI); have q15 := ti_in r1; have q16 := ti_in r5; have q17 := ti_in r10; have q18 := ti_in r15; have q19 := ti_in r20; have z0 : (-160 : Int32).toInt = -160 := (by decide); have z1 : (0 : Int32).toInt = 0 := (by decide); have z2 : (1 : Int32).toInt = 1 := (by decide); have z3 : (11702 : Int32).toInt = 11702 := (by decide); have z4 : (11703 : Int32).toInt = 11703 := (by decide); have z5 : (118 : Int32).toInt = 118 := (by decide); have z6 : (160 : Int32).toInt = 160 := (by decide); have z7 : (161 : Int32).toInt = 161 := (by decide); have z8 : (162 : Int32).toInt = 162 := (by decide); have z9 : (163 : Int32).toInt = 163 := (by decide); have z10 : (2 : Int32).toInt = 2 := (by decide); have z11 : (3 : Int32).toInt = 3 := (by decide); have z12 : (4 : Int32).toInt = 4 := (by decide); have z13 : (97 : Int32).toInt = 97 := (by decide); have z14 : (98 : Int32).toInt = 98 := (by decide); have z15 : (99 : Int32).toInt = 99 := (by decide); omega))
          refine R_iaload (pc := 38) dX6_isAt_38 (c_118 _) hx22 ?_
          refine R_aload_n (pc := 39) dX6_isAt_39 rfl rfl ?_
          refine R_iload_n (pc := 40) dX6_isAt_40 rfl rfl ?_
          refine k_chr (pc := 41) (i := 4) (j := 3) 4 107 107 (by decide) (by decide) (by decide) (by decide) (by unfold vp_in; decide) (by decide) (by decide) rfl rfl (by decide) (Nat.zero_le _) (Nat.zero_le _) (Nat.le_of_ble_eq_true rfl) dX6_isAt_41 ?_
          refine R_iceq (pc := 44) 49 dX6_isAt_44 (by decide) (fun b44_23 => ?_) (fun b44_23 => ?_)
          · skip
            refine inc_3_2_1_a (pc := 49) dX6_isAt_49 ?_
            refine R_goto (pc := 52) 20 dX6_isAt_52 (by decide) ?_
            refine R_iload_n (pc := 20) dX6_isAt_20 rfl rfl ?_
            refine R_aload_n (pc := 21) dX6_isAt_21 rfl rfl ?_
            refine k_len (pc := 22) (i := 4) 4 (by decide) (by decide) rfl (by decide) (Nat.zero_le _) (Nat.zero_le _) (Nat.le_of_ble_eq_true rfl) dX6_isAt_22 ?_
            refine R_icge (pc := 25) 55 dX6_isAt_25 (by decide) (fun _ => ?_) (fun h => absurd (by decide) h)
            refine R_iconst (pc := 55) (v := 1) dX6_isAt_55 (by decide) ?_
            exact R_iret (pc := 56) dX6_isAt_56 rfl rfl (Nat.zero_le _) (Nat.zero_le _) ⟨_, rfl, rfl, Or.inl rfl⟩
          · skip
            refine R_iconst (pc := 47) (v := 0) dX6_isAt_47 (by decide) ?_
            exact R_iret (pc := 48) dX6_isAt_48 rfl rfl (Nat.zero_le _) (Nat.zero_le _) ⟨_, rfl, rfl, Or.inr rfl⟩
        · skip
          refine R_iconst (pc := 47) (v := 0) dX6_isAt_47 (by decide) ?_
          exact R_iret (pc := 48) dX6_isAt_48 rfl rfl (Nat.zero_le _) (Nat.zero_le _) ⟨_, rfl, rfl, Or.inr rfl⟩
      · skip
        refine R_iconst (pc := 47) (v := 0) dX6_isAt_47 (by decide) ?_
        exact R_iret (pc := 48) dX6_isAt_48 rfl rfl (Nat.zero_le _) (Nat.zero_le _) ⟨_, rfl, rfl, Or.inr rfl⟩
    · skip
      refine R_iconst (pc := 47) (v := 0) dX6_isAt_47 (by decide) ?_
      exact R_iret (pc := 48) dX6_isAt_48 rfl rfl (Nat.zero_le _) (Nat.zero_le _) ⟨_, rfl, rfl, Or.inr rfl⟩
  · skip
    refine R_iconst (pc := 16) (v := 0) dX6_isAt_16 (by decide) ?_
    exact R_iret (pc := 17) dX6_isAt_17 rfl rfl (Nat.zero_le _) (Nat.zero_le _) ⟨_, rfl, rfl, Or.inr rfl⟩
set_option maxRecDepth 100000 in
set_option maxHeartbeats 40000000 in
theorem gx_X6_isAt_5 {G : vG} {l : Launch} (σ : Sg)  (hI : Inv σ) (hR : Rd σ) : Sp G l yX6_isAt cX6_isAt 3 (some .boolean) 5 0 0 [.ref 117, .ref 1000005] (WW σ) (QI (fun x w2 => w2 = WW σ ∧ (x = 1 ∨ x = 0))) := by
  refine Sp_of_R [(some (.ref 117)), (some (.ref 1000005)), none] [none] rfl (by simp) rfl (Nat.le_of_ble_eq_true rfl) ?_
  refine R_aload_n (pc := 0) dX6_isAt_0 rfl rfl ?_
  refine g_X6_21 (pc := 1) (v := .int (σ.1 11703)) rfl dX6_isAt_1 (c_117 _) rfl ?_
  refine R_aload_n (pc := 4) dX6_isAt_4 rfl rfl ?_
  refine g_X6_40 (pc := 5) (v := .int (σ.1 11702)) rfl dX6_isAt_5 (c_117 _) rfl ?_
  refine R_isub (pc := 8) dX6_isAt_8 ?_
  have r1 : inR ((σ.1 11703) - (σ.1 11702)) (-160) 160 := inR_sub (show inR (σ.1 11703) 0 160 from (rd_e hI hR)) (show inR (σ.1 11702) 0 160 from (rd_s hI hR)) (by decide) (by decide)
  have e2 := ti_sub (l := (-160)) (h := 160) (show inR (σ.1 11703) 0 160 from (rd_e hI hR)) (show inR (σ.1 11702) 0 160 from (rd_s hI hR)) (by decide) (by decide)
  refine R_aload_n (pc := 9) dX6_isAt_9 rfl rfl ?_
  refine k_len (pc := 10) (i := 5) 1 (by decide) (by decide) rfl (by decide) (Nat.zero_le _) (Nat.zero_le _) (Nat.le_of_ble_eq_true rfl) dX6_isAt_10 ?_
  refine R_iceq (pc := 13) 18 dX6_isAt_13 (by decide) (fun b13_3 => ?_) (fun b13_3 => ?_)
  · skip
    refine R_iconst (pc := 18) (v := 0) dX6_isAt_18 (by decide) ?_
    refine st_3_2_i_a (pc := 19) dX6_isAt_19 ?_
    refine R_iload_n (pc := 20) dX6_isAt_20 rfl rfl ?_
    refine R_aload_n (pc := 21) dX6_isAt_21 rfl rfl ?_
    refine k_len (pc := 22) (i := 5) 1 (by decide) (by decide) rfl (by decide) (Nat.zero_le _) (Nat.zero_le _) (Nat.le_of_ble_eq_true rfl) dX6_isAt_22 ?_
    refine R_icge (pc := 25) 55 dX6_isAt_25 (by decide) (fun h => absurd h (by decide)) (fun _ => ?_)
    refine R_aload_n (pc := 28) dX6_isAt_28 rfl rfl ?_
    refine g_X6_9 (pc := 29) (v := .ref 118) rfl dX6_isAt_29 (c_117 _) rfl ?_
    refine R_aload_n (pc := 32) dX6_isAt_32 rfl rfl ?_
    refine g_X6_40 (pc := 33) (v := .int (σ.1 11702)) rfl dX6_isAt_33 (c_117 _) rfl ?_
    refine R_iload_n (pc := 36) dX6_isAt_36 rfl rfl ?_
    refine R_iadd (pc := 37) dX6_isAt_37 ?_
    have r5 : inR ((σ.1 11702) + 0) 0 160 := inR_add (show inR (σ.1 11702) 0 160 from (rd_s hI hR)) (show inR 0 0 0 from (inR_self _)) (by decide) (by decide)
    have e6 := ti_add (l := 0) (h := 160) (show inR (σ.1 11702) 0 160 from (rd_s hI hR)) (show inR 0 0 0 from (inR_self _)) (by decide) (by decide)
    have hx7 : vp_in ((σ.1 11702) + 0) 160 := (vp_ti (by have q0 := hR.1; have q1 := hR.2.1; have q2 := hR.2.2; have q3 := e2; have q4 := e6; have q5 := ti_eq b13_3; have q6 := ti_in (rd_s hI hR); have q7 := ti_in (rd_e hI hR); have q8 := ti_in (iv_11701 hI); have q9 := ti_in r1; have q10 := ti_in r5; have z0 : (-160 : Int32).toInt = -160 := (by decide); have z1 : (0 : Int32).toInt = 0 := (by decide); have z2 : (1 : Int32).toInt = 1 := (by decide); have z3 : (11702 : Int32).toInt = 11702 := (by decide); have z4 : (11703 : Int32).toInt = 11703 := (by decide); have z5 : (160 : Int32).toInt = 160 := (by decide); omega) (by have q0 := hR.1; have q1 := hR.2.1; have q2 := hR.2.2; have q3 := e2; have q4 := e6; have q5 := ti_eq b13_3; have q6 := ti_in (rd_s hI hR); have q7 := ti_in (rd_e hI hR); have q8 := ti_in (iv_11701 hI); have q9 := ti_in r1; have q10 := ti_in r5; have z0 : (-160 : Int32).toInt = -160 := (by decide); have z1 : (0 : Int32).toInt = 0 := (by decide); have z2 : (1 : Int32).toInt = 1 := (by decide); have z3 : (11702 : Int32).toInt = 11702 := (by decide); have z4 : (11703 : Int32).toInt = 11703 := (by decide); have z5 : (160 : Int32).toInt = 160 := (by decide); omega))
    refine R_iaload (pc := 38) dX6_isAt_38 (c_118 _) hx7 ?_
    refine R_aload_n (pc := 39) dX6_isAt_39 rfl rfl ?_
    refine R_iload_n (pc := 40) dX6_isAt_40 rfl rfl ?_
    refine k_chr (pc := 41) (i := 5) (j := 0) 1 59 59 (by decide) (by decide) (by decide) (by decide) (by unfold vp_in; decide) (by decide) (by decide) rfl rfl (by decide) (Nat.zero_le _) (Nat.zero_le _) (Nat.le_of_ble_eq_true rfl) dX6_isAt_41 ?_
    refine R_iceq (pc := 44) 49 dX6_isAt_44 (by decide) (fun b44_8 => ?_) (fun b44_8 => ?_)
    · skip
      refine inc_3_2_1_a (pc := 49) dX6_isAt_49 ?_
      refine R_goto (pc := 52) 20 dX6_isAt_52 (by decide) ?_
      refine R_iload_n (pc := 20) dX6_isAt_20 rfl rfl ?_
      refine R_aload_n (pc := 21) dX6_isAt_21 rfl rfl ?_
      refine k_len (pc := 22) (i := 5) 1 (by decide) (by decide) rfl (by decide) (Nat.zero_le _) (Nat.zero_le _) (Nat.le_of_ble_eq_true rfl) dX6_isAt_22 ?_
      refine R_icge (pc := 25) 55 dX6_isAt_25 (by decide) (fun _ => ?_) (fun h => absurd (by decide) h)
      refine R_iconst (pc := 55) (v := 1) dX6_isAt_55 (by decide) ?_
      exact R_iret (pc := 56) dX6_isAt_56 rfl rfl (Nat.zero_le _) (Nat.zero_le _) ⟨_, rfl, rfl, Or.inl rfl⟩
    · skip
      refine R_iconst (pc := 47) (v := 0) dX6_isAt_47 (by decide) ?_
      exact R_iret (pc := 48) dX6_isAt_48 rfl rfl (Nat.zero_le _) (Nat.zero_le _) ⟨_, rfl, rfl, Or.inr rfl⟩
  · skip
    refine R_iconst (pc := 16) (v := 0) dX6_isAt_16 (by decide) ?_
    exact R_iret (pc := 17) dX6_isAt_17 rfl rfl (Nat.zero_le _) (Nat.zero_le _) ⟨_, rfl, rfl, Or.inr rfl⟩
theorem dX6_numberAt_0 : decode cX6_numberAt 0 = .ok (.aload_n 0, 1) := by decide +kernel
theorem dX6_numberAt_1 : decode cX6_numberAt 1 = .ok (.getfield 21, 3) := by decide +kernel
theorem dX6_numberAt_4 : decode cX6_numberAt 4 = .ok (.aload_n 0, 1) := by decide +kernel
theorem dX6_numberAt_5 : decode cX6_numberAt 5 = .ok (.getfield 40, 3) := by decide +kernel
theorem dX6_numberAt_8 : decode cX6_numberAt 8 = .ok (.isub, 1) := by decide +kernel
theorem dX6_numberAt_9 : decode cX6_numberAt 9 = .ok (.istore_n 1, 1) := by decide +kernel
theorem dX6_numberAt_10 : decode cX6_numberAt 10 = .ok (.iload_n 1, 1) := by decide +kernel
theorem dX6_numberAt_11 : decode cX6_numberAt 11 = .ok (.iconst 1, 1) := by decide +kernel
theorem dX6_numberAt_12 : decode cX6_numberAt 12 = .ok (.if_icmp .lt 23, 3) := by decide +kernel
theorem dX6_numberAt_15 : decode cX6_numberAt 15 = .ok (.iload_n 1, 1) := by decide +kernel
theorem dX6_numberAt_16 : decode cX6_numberAt 16 = .ok (.iconst 5, 1) := by decide +kernel
theorem dX6_numberAt_17 : decode cX6_numberAt 17 = .ok (.if_icmp .gt 18, 3) := by decide +kernel
theorem dX6_numberAt_20 : decode cX6_numberAt 20 = .ok (.aload_n 0, 1) := by decide +kernel
theorem dX6_numberAt_21 : decode cX6_numberAt 21 = .ok (.getfield 9, 3) := by decide +kernel
theorem dX6_numberAt_24 : decode cX6_numberAt 24 = .ok (.aload_n 0, 1) := by decide +kernel
theorem dX6_numberAt_25 : decode cX6_numberAt 25 = .ok (.getfield 40, 3) := by decide +kernel
theorem dX6_numberAt_28 : decode cX6_numberAt 28 = .ok (.iaload, 1) := by decide +kernel
theorem dX6_numberAt_29 : decode cX6_numberAt 29 = .ok (.invokestatic 101, 3) := by decide +kernel
theorem dX6_numberAt_32 : decode cX6_numberAt 32 = .ok (.ifCond .ne 5, 3) := by decide +kernel
theorem dX6_numberAt_35 : decode cX6_numberAt 35 = .ok (.iconst (-1), 1) := by decide +kernel
theorem dX6_numberAt_36 : decode cX6_numberAt 36 = .ok (.ireturn, 1) := by decide +kernel
theorem dX6_numberAt_37 : decode cX6_numberAt 37 = .ok (.iconst 0, 1) := by decide +kernel
theorem dX6_numberAt_38 : decode cX6_numberAt 38 = .ok (.istore_n 2, 1) := by decide +kernel
theorem dX6_numberAt_39 : decode cX6_numberAt 39 = .ok (.aload_n 0, 1) := by decide +kernel
theorem dX6_numberAt_40 : decode cX6_numberAt 40 = .ok (.getfield 40, 3) := by decide +kernel
theorem dX6_numberAt_43 : decode cX6_numberAt 43 = .ok (.istore_n 3, 1) := by decide +kernel
theorem dX6_numberAt_44 : decode cX6_numberAt 44 = .ok (.iload_n 3, 1) := by decide +kernel
theorem dX6_numberAt_45 : decode cX6_numberAt 45 = .ok (.aload_n 0, 1) := by decide +kernel
theorem dX6_numberAt_46 : decode cX6_numberAt 46 = .ok (.getfield 21, 3) := by decide +kernel
theorem dX6_numberAt_49 : decode cX6_numberAt 49 = .ok (.if_icmp .ge 24, 3) := by decide +kernel
theorem dX6_numberAt_52 : decode cX6_numberAt 52 = .ok (.bipush 10, 2) := by decide +kernel
theorem dX6_numberAt_54 : decode cX6_numberAt 54 = .ok (.iload_n 2, 1) := by decide +kernel
theorem dX6_numberAt_55 : decode cX6_numberAt 55 = .ok (.imul, 1) := by decide +kernel
theorem dX6_numberAt_56 : decode cX6_numberAt 56 = .ok (.aload_n 0, 1) := by decide +kernel
theorem dX6_numberAt_57 : decode cX6_numberAt 57 = .ok (.getfield 9, 3) := by decide +kernel
theorem dX6_numberAt_60 : decode cX6_numberAt 60 = .ok (.iload_n 3, 1) := by decide +kernel
theorem dX6_numberAt_61 : decode cX6_numberAt 61 = .ok (.iaload, 1) := by decide +kernel
theorem dX6_numberAt_62 : decode cX6_numberAt 62 = .ok (.iadd, 1) := by decide +kernel
theorem dX6_numberAt_63 : decode cX6_numberAt 63 = .ok (.bipush 48, 2) := by decide +kernel
theorem dX6_numberAt_65 : decode cX6_numberAt 65 = .ok (.isub, 1) := by decide +kernel
theorem dX6_numberAt_66 : decode cX6_numberAt 66 = .ok (.istore_n 2, 1) := by decide +kernel
theorem dX6_numberAt_67 : decode cX6_numberAt 67 = .ok (.iinc 3 1, 3) := by decide +kernel
theorem dX6_numberAt_70 : decode cX6_numberAt 70 = .ok (.goto (-26), 3) := by decide +kernel
theorem dX6_numberAt_73 : decode cX6_numberAt 73 = .ok (.iload_n 2, 1) := by decide +kernel
theorem dX6_numberAt_74 : decode cX6_numberAt 74 = .ok (.ireturn, 1) := by decide +kernel
set_option maxRecDepth 100000 in
set_option maxHeartbeats 40000000 in
theorem gx_X6_numberAt {G : vG} {l : Launch} (σ : Sg)  (hI : Inv σ) (hR : Rd σ) : Sp G l yX6_numberAt cX6_numberAt 4 (some .int) 1 0 0 [.ref 117] (WW σ) (QI (fun x w2 => w2 = WW σ)) := by
  refine Sp_of_R [(some (.ref 117)), none, none, none] [none, none, none] rfl (by simp) rfl (Nat.le_of_ble_eq_true rfl) ?_
  refine R_aload_n (pc := 0) dX6_numberAt_0 rfl rfl ?_
  refine g_X6_21 (pc := 1) (v := .int (σ.1 11703)) rfl dX6_numberAt_1 (c_117 _) rfl ?_
  refine R_aload_n (pc := 4) dX6_numberAt_4 rfl rfl ?_
  refine g_X6_40 (pc := 5) (v := .int (σ.1 11702)) rfl dX6_numberAt_5 (c_117 _) rfl ?_
  refine R_isub (pc := 8) dX6_numberAt_8 ?_
  have r1 : inR ((σ.1 11703) - (σ.1 11702)) (-160) 160 := inR_sub (show inR (σ.1 11703) 0 160 from (rd_e hI hR)) (show inR (σ.1 11702) 0 160 from (rd_s hI hR)) (by decide) (by decide)
  have e2 := ti_sub (l := (-160)) (h := 160) (show inR (σ.1 11703) 0 160 from (rd_e hI hR)) (show inR (σ.1 11702) 0 160 from (rd_s hI hR)) (by decide) (by decide)
  refine st_4_1_i_a (pc := 9) dX6_numberAt_9 ?_
  refine R_iload_n (pc := 10) dX6_numberAt_10 rfl rfl ?_
  refine R_iconst (pc := 11) (v := 1) dX6_numberAt_11 (by decide) ?_
  refine R_iclt (pc := 12) 35 dX6_numberAt_12 (by decide) (fun b12_3 => ?_) (fun b12_3 => ?_)
  · skip
    refine R_iconst (pc := 35) (v := (-1)) dX6_numberAt_35 (by decide) ?_
    exact R_iret (pc := 36) dX6_numberAt_36 rfl rfl (Nat.zero_le _) (Nat.zero_le _) ⟨_, rfl, rfl⟩
  · skip
    refine R_iload_n (pc := 15) dX6_numberAt_15 rfl rfl ?_
    refine R_iconst (pc := 16) (v := 5) dX6_numberAt_16 (by decide) ?_
    refine R_icgt (pc := 17) 35 dX6_numberAt_17 (by decide) (fun b17_4 => ?_) (fun b17_4 => ?_)
    · skip
      refine R_iconst (pc := 35) (v := (-1)) dX6_numberAt_35 (by decide) ?_
      exact R_iret (pc := 36) dX6_numberAt_36 rfl rfl (Nat.zero_le _) (Nat.zero_le _) ⟨_, rfl, rfl⟩
    · skip
      refine R_aload_n (pc := 20) dX6_numberAt_20 rfl rfl ?_
      refine g_X6_9 (pc := 21) (v := .ref 118) rfl dX6_numberAt_21 (c_117 _) rfl ?_
      refine R_aload_n (pc := 24) dX6_numberAt_24 rfl rfl ?_
      refine g_X6_40 (pc := 25) (v := .int (σ.1 11702)) rfl dX6_numberAt_25 (c_117 _) rfl ?_
      have hx5 : vp_in (σ.1 11702) 160 := (vp_ti (by have q0 := hR.1; have q1 := hR.2.1; have q2 := hR.2.2; have q3 := e2; have q4 := ti_nlt b12_3; have q5 := ti_nlt b17_4; have q6 := ti_in (rd_s hI hR); have q7 := ti_in (rd_e hI hR); have q8 := ti_in (iv_11701 hI); have q9 := ti_in r1; have z0 : (-160 : Int32).toInt = -160 := (by decide); have z1 : (0 : Int32).toInt = 0 := (by decide); have z2 : (1 : Int32).toInt = 1 := (by decide); have z3 : (11702 : Int32).toInt = 11702 := (by decide); have z4 : (11703 : Int32).toInt = 11703 := (by decide); have z5 : (160 : Int32).toInt = 160 := (by decide); have z6 : (5 : Int32).toInt = 5 := (by decide); omega) (by have q0 := hR.1; have q1 := hR.2.1; have q2 := hR.2.2; have q3 := e2; have q4 := ti_nlt b12_3; have q5 := ti_nlt b17_4; have q6 := ti_in (rd_s hI hR); have q7 := ti_in (rd_e hI hR); have q8 := ti_in (iv_11701 hI); have q9 := ti_in r1; have z0 : (-160 : Int32).toInt = -160 := (by decide); have z1 : (0 : Int32).toInt = 0 := (by decide); have z2 : (1 : Int32).toInt = 1 := (by decide); have z3 : (11702 : Int32).toInt = 11702 := (by decide); have z4 : (11703 : Int32).toInt = 11703 := (by decide); have z5 : (160 : Int32).toInt = 160 := (by decide); have z6 : (5 : Int32).toInt = 5 := (by decide); omega))
      refine R_iaload (pc := 28) dX6_numberAt_28 (c_118 _) hx5 ?_
      refine k_X6_101 (pc := 29) (sp_X8_isDigit _ _) rfl (by decide) (Nat.le_refl _) (Nat.le_refl _) (Nat.le_of_ble_eq_true rfl) dX6_numberAt_29 (fun x w2 h => ?_)
      rcases h with ⟨rfl, ⟨-, rfl⟩ | ⟨-, rfl⟩⟩
      · skip
        refine R_ifne (pc := 32) 37 dX6_numberAt_32 (by decide) (fun _ => ?_) (fun h => absurd h (by decide))
        refine R_iconst (pc := 37) (v := 0) dX6_numberAt_37 (by decide) ?_
        refine st_4_2_i_i (pc := 38) dX6_numberAt_38 ?_
        refine R_aload_n (pc := 39) dX6_numberAt_39 rfl rfl ?_
        refine g_X6_40 (pc := 40) (v := .int (σ.1 11702)) rfl dX6_numberAt_40 (c_117 _) rfl ?_
        refine st_4_3_i_i (pc := 43) dX6_numberAt_43 ?_
        have HL44 : ∀ (q : Nat) (i44 : Int32) (g2_44 : Int32), i44.toInt + (q : Int) = 160 → inR i44 0 160 → R G l yX6_numberAt cX6_numberAt 4 (some .int) 1 0 0 (QI (fun x w2 => w2 = WW σ)) 44 [(some (.ref 117)), (some (.int ((σ.1 11703) - (σ.1 11702)))), (some (.int g2_44)), (some (.int i44))] [] (WW σ) 0 0 := by
          intro q
          induction q with
          | zero =>
            intro i44 g2_44 hj44 hrg44
            have hM44_ : inR i44 160 160 := of_ti (by have z : (160 : Int32).toInt = 160 := (by decide); omega) (by have z : (160 : Int32).toInt = 160 := (by decide); omega)
            refine R_iload_n (pc := 44) dX6_numberAt_44 rfl rfl ?_
            refine R_aload_n (pc := 45) dX6_numberAt_45 rfl rfl ?_
            refine g_X6_21 (pc := 46) (v := .int (σ.1 11703)) rfl dX6_numberAt_46 (c_117 _) rfl ?_
            refine R_icge (pc := 49) 73 dX6_numberAt_49 (by decide) (fun _ => ?_) (fun h => False.elim (by have q1 := ti_nle h; have q2 := ti_in (show inR i44 160 160 from hM44_); have q3 := ti_in (show inR (σ.1 11703) 0 160 from (rd_e hI hR)); have z0 : (0 : Int32).toInt = 0 := (by decide);  have z1 : (11703 : Int32).toInt = 11703 := (by decide);  have z2 : (160 : Int32).toInt = 160 := (by decide); omega))
            refine R_iload_n (pc := 73) dX6_numberAt_73 rfl rfl ?_
            exact R_iret (pc := 74) dX6_numberAt_74 rfl rfl (Nat.zero_le _) (Nat.zero_le _) ⟨_, rfl, rfl⟩
          | succ q ih44 =>
            intro i44 g2_44 hj44 hrg44
            have hM44_ : inR i44 0 159 := of_ti (ti_in hrg44).1 (by have z : (159 : Int32).toInt = 159 := (by decide); omega)
            refine R_iload_n (pc := 44) dX6_numberAt_44 rfl rfl ?_
            refine R_aload_n (pc := 45) dX6_numberAt_45 rfl rfl ?_
            refine g_X6_21 (pc := 46) (v := .int (σ.1 11703)) rfl dX6_numberAt_46 (c_117 _) rfl ?_
            refine R_icge (pc := 49) 73 dX6_numberAt_49 (by decide) (fun b49_8 => ?_) (fun b49_8 => ?_)
            · skip
              refine R_iload_n (pc := 73) dX6_numberAt_73 rfl rfl ?_
              exact R_iret (pc := 74) dX6_numberAt_74 rfl rfl (Nat.zero_le _) (Nat.zero_le _) ⟨_, rfl, rfl⟩
            · skip
              refine R_bipush (pc := 52) (v := 10) dX6_numberAt_52 (by decide) ?_
              refine R_iload_n (pc := 54) dX6_numberAt_54 rfl rfl ?_
              refine R_imul (pc := 55) dX6_numberAt_55 ?_
              refine R_aload_n (pc := 56) dX6_numberAt_56 rfl rfl ?_
              refine g_X6_9 (pc := 57) (v := .ref 118) rfl dX6_numberAt_57 (c_117 _) rfl ?_
              refine R_iload_n (pc := 60) dX6_numberAt_60 rfl rfl ?_
              have hx9 : vp_in i44 160 := (vp_of_inR hM44_ (by decide))
              refine R_iaload (pc := 61) dX6_numberAt_61 (c_118 _) hx9 ?_
              refine R_iadd (pc := 62) dX6_numberAt_62 ?_
              refine R_bipush (pc := 63) (v := 48) dX6_numberAt_63 (by decide) ?_
              refine R_isub (pc := 65) dX6_numberAt_65 ?_
              refine st_4_2_i_i (pc := 66) dX6_numberAt_66 ?_
              refine inc_4_3_1_i (pc := 67) dX6_numberAt_67 ?_
              have r10 : inR (i44 + 1) 1 160 := inR_add (show inR i44 0 159 from hM44_) (show inR 1 1 1 from (inR_self _)) (by decide) (by decide)
              have e11 := ti_add (l := 1) (h := 160) (show inR i44 0 159 from hM44_) (show inR 1 1 1 from (inR_self _)) (by decide) (by decide)
              refine R_goto (pc := 70) 44 dX6_numberAt_70 (by decide) ?_
              exact ih44 (i44 + 1) _ (by have q0 := hR.1; have q1 := hR.2.1; have q2 := hR.2.2; have q3 := e2; have q4 := e11; have q5 := ti_nlt b12_3; have q6 := ti_nlt b17_4; have q7 := ti_nle b49_8; have q8 := ti_in (rd_s hI hR); have q9 := ti_in (rd_e hI hR); have q10 := ti_in (iv_11701 hI); have q11 := ti_in r1; have q12 := ti_in hM44_; have q13 := ti_in r10; have q14 := hj44; have z0 : (-160 : Int32).toInt = -160 := (by decide); have z1 : (0 : Int32).toInt = 0 := (by decide); have z2 : (1 : Int32).toInt = 1 := (by decide); have z3 : (11702 : Int32).toInt = 11702 := (by decide); have z4 : (11703 : Int32).toInt = 11703 := (by decide); have z5 : (159 : Int32).toInt = 159 := (by decide); have z6 : (160 : Int32).toInt = 160 := (by decide); have z7 : (5 : Int32).toInt = 5 := (by decide); omega) (inR_up r10 (by decide) (by decide))
        exact HL44 ((160 : Int) - (σ.1 11702).toInt).toNat (σ.1 11702) _ (by have q0 := hR.1; have q1 := hR.2.1; have q2 := hR.2.2; have q3 := e2; have q4 := ti_nlt b12_3; have q5 := ti_nlt b17_4; have q6 := ti_in (rd_s hI hR); have q7 := ti_in (rd_e hI hR); have q8 := ti_in (iv_11701 hI); have q9 := ti_in r1; have z0 : (-160 : Int32).toInt = -160 := (by decide); have z1 : (0 : Int32).toInt = 0 := (by decide); have z2 : (1 : Int32).toInt = 1 := (by decide); have z3 : (11702 : Int32).toInt = 11702 := (by decide); have z4 : (11703 : Int32).toInt = 11703 := (by decide); have z5 : (160 : Int32).toInt = 160 := (by decide); have z6 : (5 : Int32).toInt = 5 := (by decide); omega) (rd_s hI hR)
      · skip
        refine R_ifne (pc := 32) 37 dX6_numberAt_32 (by decide) (fun h => absurd (by decide) h) (fun _ => ?_)
        refine R_iconst (pc := 35) (v := (-1)) dX6_numberAt_35 (by decide) ?_
        exact R_iret (pc := 36) dX6_numberAt_36 rfl rfl (Nat.zero_le _) (Nat.zero_le _) ⟨_, rfl, rfl⟩
theorem dX6_findWrong_0 : decode cX6_findWrong 0 = .ok (.aload_n 0, 1) := by decide +kernel
theorem dX6_findWrong_1 : decode cX6_findWrong 1 = .ok (.getfield 24, 3) := by decide +kernel
theorem dX6_findWrong_4 : decode cX6_findWrong 4 = .ok (.iconst (-1), 1) := by decide +kernel
theorem dX6_findWrong_5 : decode cX6_findWrong 5 = .ok (.if_icmp .ne 11, 3) := by decide +kernel
theorem dX6_findWrong_8 : decode cX6_findWrong 8 = .ok (.aload_n 0, 1) := by decide +kernel
theorem dX6_findWrong_9 : decode cX6_findWrong 9 = .ok (.aload_n 0, 1) := by decide +kernel
theorem dX6_findWrong_10 : decode cX6_findWrong 10 = .ok (.getfield 40, 3) := by decide +kernel
theorem dX6_findWrong_13 : decode cX6_findWrong 13 = .ok (.putfield 24, 3) := by decide +kernel
theorem dX6_findWrong_16 : decode cX6_findWrong 16 = .ok (.return_, 1) := by decide +kernel
set_option maxRecDepth 100000 in
set_option maxHeartbeats 40000000 in
theorem gx_X6_findWrong {G : vG} {l : Launch} (σ : Sg)  (hI : Inv σ) (hR : Rd σ) : Sp G l yX6_findWrong cX6_findWrong 1 none 0 0 0 [.ref 117] (WW σ) (QV (fun w2 => ∃ σ2, w2 = WW σ2 ∧ Inv σ2 ∧ Cor σ σ2 ∧ Rd σ2)) := by
  refine Sp_of_R [(some (.ref 117))] [] rfl (by simp) rfl (Nat.le_of_ble_eq_true rfl) ?_
  refine R_aload_n (pc := 0) dX6_findWrong_0 rfl rfl ?_
  refine g_X6_24 (pc := 1) (v := .int (σ.1 11704)) rfl dX6_findWrong_1 (c_117 _) rfl ?_
  refine R_iconst (pc := 4) (v := (-1)) dX6_findWrong_4 (by decide) ?_
  refine R_icne (pc := 5) 16 dX6_findWrong_5 (by decide) (fun b5_1 => ?_) (fun b5_1 => ?_)
  · skip
    exact R_vret (pc := 16) dX6_findWrong_16 rfl (Nat.zero_le _) (Nat.zero_le _) ⟨rfl, _, rfl, hI, (show Cor σ σ from Cor.rfl' σ), (show Rd σ from ⟨(show 0 ≤ ((σ.1 11702) : Int32).toInt from by have q0 := hR.1; have q1 := hR.2.1; have q2 := hR.2.2; have q3 := ti_ne b5_1; have q4 := ti_in (rd_s hI hR); have q5 := ti_in (rd_e hI hR); have q6 := ti_in (iv_11701 hI); have z0 : (-1 : Int32).toInt = -1 := (by decide); have z1 : (0 : Int32).toInt = 0 := (by decide); have z2 : (1 : Int32).toInt = 1 := (by decide); have z3 : (11704 : Int32).toInt = 11704 := (by decide); have z4 : (160 : Int32).toInt = 160 := (by decide); omega), (show ((σ.1 11702) : Int32).toInt ≤ ((σ.1 11703) : Int32).toInt from by have q0 := hR.1; have q1 := hR.2.1; have q2 := hR.2.2; have q3 := ti_ne b5_1; have q4 := ti_in (rd_s hI hR); have q5 := ti_in (rd_e hI hR); have q6 := ti_in (iv_11701 hI); have z0 : (-1 : Int32).toInt = -1 := (by decide); have z1 : (0 : Int32).toInt = 0 := (by decide); have z2 : (1 : Int32).toInt = 1 := (by decide); have z3 : (11704 : Int32).toInt = 11704 := (by decide); have z4 : (160 : Int32).toInt = 160 := (by decide); omega), (show ((σ.1 11703) : Int32).toInt ≤ ((σ.1 11701) : Int32).toInt from by have q0 := hR.1; have q1 := hR.2.1; have q2 := hR.2.2; have q3 := ti_ne b5_1; have q4 := ti_in (rd_s hI hR); have q5 := ti_in (rd_e hI hR); have q6 := ti_in (iv_11701 hI); have z0 : (-1 : Int32).toInt = -1 := (by decide); have z1 : (0 : Int32).toInt = 0 := (by decide); have z2 : (1 : Int32).toInt = 1 := (by decide); have z3 : (11704 : Int32).toInt = 11704 := (by decide); have z4 : (160 : Int32).toInt = 160 := (by decide); omega)⟩)⟩
  · skip
    refine R_aload_n (pc := 8) dX6_findWrong_8 rfl rfl ?_
    refine R_aload_n (pc := 9) dX6_findWrong_9 rfl rfl ?_
    refine g_X6_40 (pc := 10) (v := .int (σ.1 11702)) rfl dX6_findWrong_10 (c_117 _) rfl ?_
    refine p_X6_24 (pc := 13) rfl dX6_findWrong_13 (c_117 _) (Nat.le_of_ble_eq_true rfl) rfl rfl (s_117_4 _ _) ?_
    have hW2 := cor_si 11704 (σ.1 11702) (show Cor σ σ from Cor.rfl' σ) rfl
    exact R_vret (pc := 16) dX6_findWrong_16 rfl (Nat.zero_le _) (Nat.zero_le _) ⟨rfl, _, rfl, hI, hW2, (show Rd (uI σ 11704 (σ.1 11702)) from ⟨(show 0 ≤ ((σ.1 11702) : Int32).toInt from by have q0 := hR.1; have q1 := hR.2.1; have q2 := hR.2.2; have q3 := ti_eq b5_1; have q4 := ti_in (rd_s hI hR); have q5 := ti_in (rd_e hI hR); have q6 := ti_in (iv_11701 hI); have z0 : (-1 : Int32).toInt = -1 := (by decide); have z1 : (0 : Int32).toInt = 0 := (by decide); have z2 : (1 : Int32).toInt = 1 := (by decide); have z3 : (11704 : Int32).toInt = 11704 := (by decide); have z4 : (160 : Int32).toInt = 160 := (by decide); omega), (show ((σ.1 11702) : Int32).toInt ≤ ((σ.1 11703) : Int32).toInt from by have q0 := hR.1; have q1 := hR.2.1; have q2 := hR.2.2; have q3 := ti_eq b5_1; have q4 := ti_in (rd_s hI hR); have q5 := ti_in (rd_e hI hR); have q6 := ti_in (iv_11701 hI); have z0 : (-1 : Int32).toInt = -1 := (by decide); have z1 : (0 : Int32).toInt = 0 := (by decide); have z2 : (1 : Int32).toInt = 1 := (by decide); have z3 : (11704 : Int32).toInt = 11704 := (by decide); have z4 : (160 : Int32).toInt = 160 := (by decide); omega), (show ((σ.1 11703) : Int32).toInt ≤ ((σ.1 11701) : Int32).toInt from by have q0 := hR.1; have q1 := hR.2.1; have q2 := hR.2.2; have q3 := ti_eq b5_1; have q4 := ti_in (rd_s hI hR); have q5 := ti_in (rd_e hI hR); have q6 := ti_in (iv_11701 hI); have z0 : (-1 : Int32).toInt = -1 := (by decide); have z1 : (0 : Int32).toInt = 0 := (by decide); have z2 : (1 : Int32).toInt = 1 := (by decide); have z3 : (11704 : Int32).toInt = 11704 := (by decide); have z4 : (160 : Int32).toInt = 160 := (by decide); omega)⟩)⟩
theorem dX6_goOn_0 : decode cX6_goOn 0 = .ok (.aload_n 0, 1) := by decide +kernel
theorem dX6_goOn_1 : decode cX6_goOn 1 = .ok (.aload_n 0, 1) := by decide +kernel
theorem dX6_goOn_2 : decode cX6_goOn 2 = .ok (.getfield 21, 3) := by decide +kernel
theorem dX6_goOn_5 : decode cX6_goOn 5 = .ok (.putfield 40, 3) := by decide +kernel
theorem dX6_goOn_8 : decode cX6_goOn 8 = .ok (.aload_n 0, 1) := by decide +kernel
theorem dX6_goOn_9 : decode cX6_goOn 9 = .ok (.getfield 40, 3) := by decide +kernel
theorem dX6_goOn_12 : decode cX6_goOn 12 = .ok (.aload_n 0, 1) := by decide +kernel
theorem dX6_goOn_13 : decode cX6_goOn 13 = .ok (.getfield 43, 3) := by decide +kernel
theorem dX6_goOn_16 : decode cX6_goOn 16 = .ok (.if_icmp .ge 30, 3) := by decide +kernel
theorem dX6_goOn_19 : decode cX6_goOn 19 = .ok (.aload_n 0, 1) := by decide +kernel
theorem dX6_goOn_20 : decode cX6_goOn 20 = .ok (.getfield 9, 3) := by decide +kernel
theorem dX6_goOn_23 : decode cX6_goOn 23 = .ok (.aload_n 0, 1) := by decide +kernel
theorem dX6_goOn_24 : decode cX6_goOn 24 = .ok (.getfield 40, 3) := by decide +kernel
theorem dX6_goOn_27 : decode cX6_goOn 27 = .ok (.iaload, 1) := by decide +kernel
theorem dX6_goOn_28 : decode cX6_goOn 28 = .ok (.bipush 32, 2) := by decide +kernel
theorem dX6_goOn_30 : decode cX6_goOn 30 = .ok (.if_icmp .ne 16, 3) := by decide +kernel
theorem dX6_goOn_33 : decode cX6_goOn 33 = .ok (.aload_n 0, 1) := by decide +kernel
theorem dX6_goOn_34 : decode cX6_goOn 34 = .ok (.dup, 1) := by decide +kernel
theorem dX6_goOn_35 : decode cX6_goOn 35 = .ok (.getfield 40, 3) := by decide +kernel
theorem dX6_goOn_38 : decode cX6_goOn 38 = .ok (.iconst 1, 1) := by decide +kernel
theorem dX6_goOn_39 : decode cX6_goOn 39 = .ok (.iadd, 1) := by decide +kernel
theorem dX6_goOn_40 : decode cX6_goOn 40 = .ok (.putfield 40, 3) := by decide +kernel
theorem dX6_goOn_43 : decode cX6_goOn 43 = .ok (.goto (-35), 3) := by decide +kernel
theorem dX6_goOn_46 : decode cX6_goOn 46 = .ok (.aload_n 0, 1) := by decide +kernel
theorem dX6_goOn_47 : decode cX6_goOn 47 = .ok (.aload_n 0, 1) := by decide +kernel
theorem dX6_goOn_48 : decode cX6_goOn 48 = .ok (.getfield 40, 3) := by decide +kernel
theorem dX6_goOn_51 : decode cX6_goOn 51 = .ok (.iconst 1, 1) := by decide +kernel
theorem dX6_goOn_52 : decode cX6_goOn 52 = .ok (.iadd, 1) := by decide +kernel
theorem dX6_goOn_53 : decode cX6_goOn 53 = .ok (.aload_n 0, 1) := by decide +kernel
theorem dX6_goOn_54 : decode cX6_goOn 54 = .ok (.getfield 43, 3) := by decide +kernel
theorem dX6_goOn_57 : decode cX6_goOn 57 = .ok (.invokestatic 105, 3) := by decide +kernel
theorem dX6_goOn_60 : decode cX6_goOn 60 = .ok (.putfield 21, 3) := by decide +kernel
theorem dX6_goOn_63 : decode cX6_goOn 63 = .ok (.aload_n 0, 1) := by decide +kernel
theorem dX6_goOn_64 : decode cX6_goOn 64 = .ok (.getfield 21, 3) := by decide +kernel
theorem dX6_goOn_67 : decode cX6_goOn 67 = .ok (.aload_n 0, 1) := by decide +kernel
theorem dX6_goOn_68 : decode cX6_goOn 68 = .ok (.getfield 43, 3) := by decide +kernel
theorem dX6_goOn_71 : decode cX6_goOn 71 = .ok (.if_icmp .ge 40, 3) := by decide +kernel
theorem dX6_goOn_74 : decode cX6_goOn 74 = .ok (.aload_n 0, 1) := by decide +kernel
theorem dX6_goOn_75 : decode cX6_goOn 75 = .ok (.getfield 9, 3) := by decide +kernel
theorem dX6_goOn_78 : decode cX6_goOn 78 = .ok (.aload_n 0, 1) := by decide +kernel
theorem dX6_goOn_79 : decode cX6_goOn 79 = .ok (.getfield 40, 3) := by decide +kernel
theorem dX6_goOn_82 : decode cX6_goOn 82 = .ok (.iaload, 1) := by decide +kernel
theorem dX6_goOn_83 : decode cX6_goOn 83 = .ok (.aload_n 0, 1) := by decide +kernel
theorem dX6_goOn_84 : decode cX6_goOn 84 = .ok (.getfield 9, 3) := by decide +kernel
theorem dX6_goOn_87 : decode cX6_goOn 87 = .ok (.aload_n 0, 1) := by decide +kernel
theorem dX6_goOn_88 : decode cX6_goOn 88 = .ok (.getfield 21, 3) := by decide +kernel
theorem dX6_goOn_91 : decode cX6_goOn 91 = .ok (.iaload, 1) := by decide +kernel
theorem dX6_goOn_92 : decode cX6_goOn 92 = .ok (.invokestatic 110, 3) := by decide +kernel
theorem dX6_goOn_95 : decode cX6_goOn 95 = .ok (.ifCond .eq 16, 3) := by decide +kernel
theorem dX6_goOn_98 : decode cX6_goOn 98 = .ok (.aload_n 0, 1) := by decide +kernel
theorem dX6_goOn_99 : decode cX6_goOn 99 = .ok (.dup, 1) := by decide +kernel
theorem dX6_goOn_100 : decode cX6_goOn 100 = .ok (.getfield 21, 3) := by decide +kernel
theorem dX6_goOn_103 : decode cX6_goOn 103 = .ok (.iconst 1, 1) := by decide +kernel
theorem dX6_goOn_104 : decode cX6_goOn 104 = .ok (.iadd, 1) := by decide +kernel
theorem dX6_goOn_105 : decode cX6_goOn 105 = .ok (.putfield 21, 3) := by decide +kernel
theorem dX6_goOn_108 : decode cX6_goOn 108 = .ok (.goto (-45), 3) := by decide +kernel
theorem dX6_goOn_111 : decode cX6_goOn 111 = .ok (.return_, 1) := by decide +kernel
set_option maxRecDepth 100000 in
set_option maxHeartbeats 40000000 in
theorem gx_X6_goOn {G : vG} {l : Launch} (σ : Sg)  (hI : Inv σ) (he : 0 ≤ (σ.1 11703).toInt) (hz : (σ.1 11703).toInt ≤ (σ.1 11701).toInt) (hE : inR (σ.1 11703) 0 160) : Sp G l yX6_goOn cX6_goOn 1 none 2 0 0 [.ref 117] (WW σ) (QV (fun w2 => ∃ σ2, w2 = WW σ2 ∧ Inv σ2 ∧ Cor σ σ2 ∧ Rd σ2)) := by
  refine Sp_of_R [(some (.ref 117))] [] rfl (by simp) rfl (Nat.le_of_ble_eq_true rfl) ?_
  refine R_aload_n (pc := 0) dX6_goOn_0 rfl rfl ?_
  refine R_aload_n (pc := 1) dX6_goOn_1 rfl rfl ?_
  refine g_X6_21 (pc := 2) (v := .int (σ.1 11703)) rfl dX6_goOn_2 (c_117 _) rfl ?_
  refine p_X6_40 (pc := 5) rfl dX6_goOn_5 (c_117 _) (Nat.le_of_ble_eq_true rfl) rfl rfl (s_117_2 _ _) ?_
  have hW1 := cor_si 11702 (σ.1 11703) (show Cor σ σ from Cor.rfl' σ) rfl
  have HL8 : ∀ (q : Nat) (σ8 : Sg), (σ8.1 11702).toInt + (q : Int) = 160 → inR (σ8.1 11702) 0 160 → Inv σ8 → Cor σ σ8 → 0 ≤ (σ8.1 11702).toInt ∧ (σ8.1 11702).toInt ≤ (σ8.1 11701).toInt → R G l yX6_goOn cX6_goOn 1 none 2 0 0 (QV (fun w2 => ∃ σ2, w2 = WW σ2 ∧ Inv σ2 ∧ Cor σ σ2 ∧ Rd σ2)) 8 [(some (.ref 117))] [] (WW σ8) 0 0 := by
    intro q
    induction q with
    | zero =>
      intro σ8 hj8 hrg8 hI8 hC8 hX8_0
      have hM8_ : inR (σ8.1 11702) 160 160 := of_ti (by have z : (160 : Int32).toInt = 160 := (by decide); omega) (by have z : (160 : Int32).toInt = 160 := (by decide); omega)
      refine R_aload_n (pc := 8) dX6_goOn_8 rfl rfl ?_
      refine g_X6_40 (pc := 9) (v := .int (σ8.1 11702)) rfl dX6_goOn_9 (c_117 _) rfl ?_
      refine R_aload_n (pc := 12) dX6_goOn_12 rfl rfl ?_
      refine g_X6_43 (pc := 13) (v := .int (σ8.1 11701)) rfl dX6_goOn_13 (c_117 _) rfl ?_
      refine R_icge (pc := 16) 46 dX6_goOn_16 (by decide) (fun _ => ?_) (fun h => False.elim (by have q1 := ti_nle h; have q2 := ti_in (show inR (σ8.1 11702) 160 160 from hM8_); have q3 := ti_in (show inR (σ8.1 11701) 0 160 from (iv_11701 hI8)); have z0 : (0 : Int32).toInt = 0 := (by decide);  have z1 : (11701 : Int32).toInt = 11701 := (by decide);  have z2 : (11702 : Int32).toInt = 11702 := (by decide);  have z3 : (160 : Int32).toInt = 160 := (by decide); omega))
      refine R_aload_n (pc := 46) dX6_goOn_46 rfl rfl ?_
      refine R_aload_n (pc := 47) dX6_goOn_47 rfl rfl ?_
      refine g_X6_40 (pc := 48) (v := .int (σ8.1 11702)) rfl dX6_goOn_48 (c_117 _) rfl ?_
      refine R_iconst (pc := 51) (v := 1) dX6_goOn_51 (by decide) ?_
      refine R_iadd (pc := 52) dX6_goOn_52 ?_
      have r3 : inR ((σ8.1 11702) + 1) 161 161 := inR_add (show inR (σ8.1 11702) 160 160 from hM8_) (show inR 1 1 1 from (inR_self _)) (by decide) (by decide)
      have e4 := ti_add (l := 161) (h := 161) (show inR (σ8.1 11702) 160 160 from hM8_) (show inR 1 1 1 from (inR_self _)) (by decide) (by decide)
      refine R_aload_n (pc := 53) dX6_goOn_53 rfl rfl ?_
      refine g_X6_43 (pc := 54) (v := .int (σ8.1 11701)) rfl dX6_goOn_54 (c_117 _) rfl ?_
      refine R_mmin (pc := 57) wm_719 dX6_goOn_57 (by decide) (Nat.le_of_ble_eq_true rfl) (Nat.zero_le _) (Nat.zero_le _) ?_
      have r5 : inR (if (σ8.1 11701) < ((σ8.1 11702) + 1) then (σ8.1 11701) else ((σ8.1 11702) + 1)) 0 160 := inR_min (show inR ((σ8.1 11702) + 1) 161 161 from r3) (show inR (σ8.1 11701) 0 160 from (iv_11701 hI8)) (by decide) (by decide) (by decide)
      have hm6 := min_rng (a := ((σ8.1 11702) + 1)) (b := (σ8.1 11701)) (s := (σ8.1 11702)) (by have q0 := he; have q1 := hz; have q2 := hX8_0.1; have q3 := hX8_0.2; have q4 := e4; have q5 := ti_in hE; have q6 := ti_in (iv_11701 hI); have q7 := ti_in (iv_11701 hI8); have q8 := ti_in hM8_; have q9 := ti_in r3; have q10 := ti_in r5; have z0 : (0 : Int32).toInt = 0 := (by decide); have z1 : (1 : Int32).toInt = 1 := (by decide); have z2 : (160 : Int32).toInt = 160 := (by decide); have z3 : (161 : Int32).toInt = 161 := (by decide); omega) (by have q0 := he; have q1 := hz; have q2 := hX8_0.1; have q3 := hX8_0.2; have q4 := e4; have q5 := ti_in hE; have q6 := ti_in (iv_11701 hI); have q7 := ti_in (iv_11701 hI8); have q8 := ti_in hM8_; have q9 := ti_in r3; have q10 := ti_in r5; have z0 : (0 : Int32).toInt = 0 := (by decide); have z1 : (1 : Int32).toInt = 1 := (by decide); have z2 : (160 : Int32).toInt = 160 := (by decide); have z3 : (161 : Int32).toInt = 161 := (by decide); omega)
      refine p_X6_21 (pc := 60) rfl dX6_goOn_60 (c_117 _) (Nat.le_of_ble_eq_true rfl) rfl rfl (s_117_3 _ _) ?_
      have hW7 := cor_si 11703 (if (σ8.1 11701) < ((σ8.1 11702) + 1) then (σ8.1 11701) else ((σ8.1 11702) + 1)) hC8 rfl
      have HL63 : ∀ (q : Nat) (σ63 : Sg), (σ63.1 11703).toInt + (q : Int) = 160 → inR (σ63.1 11703) 0 160 → Inv σ63 → Cor σ σ63 → Rd σ63 → R G l yX6_goOn cX6_goOn 1 none 2 0 0 (QV (fun w2 => ∃ σ2, w2 = WW σ2 ∧ Inv σ2 ∧ Cor σ σ2 ∧ Rd σ2)) 63 [(some (.ref 117))] [] (WW σ63) 0 0 := by
        intro q
        induction q with
        | zero =>
          intro σ63 hj63 hrg63 hI63 hC63 hX63_0
          have hM63_ : inR (σ63.1 11703) 160 160 := of_ti (by have z : (160 : Int32).toInt = 160 := (by decide); omega) (by have z : (160 : Int32).toInt = 160 := (by decide); omega)
          refine R_aload_n (pc := 63) dX6_goOn_63 rfl rfl ?_
          refine g_X6_21 (pc := 64) (v := .int (σ63.1 11703)) rfl dX6_goOn_64 (c_117 _) rfl ?_
          refine R_aload_n (pc := 67) dX6_goOn_67 rfl rfl ?_
          refine g_X6_43 (pc := 68) (v := .int (σ63.1 11701)) rfl dX6_goOn_68 (c_117 _) rfl ?_
          refine R_icge (pc := 71) 111 dX6_goOn_71 (by decide) (fun _ => ?_) (fun h => False.elim (by have q1 := ti_nle h; have q2 := ti_in (show inR (σ63.1 11703) 160 160 from hM63_); have q3 := ti_in (show inR (σ63.1 11701) 0 160 from (iv_11701 hI63)); have z0 : (0 : Int32).toInt = 0 := (by decide);  have z1 : (11701 : Int32).toInt = 11701 := (by decide);  have z2 : (11703 : Int32).toInt = 11703 := (by decide);  have z3 : (160 : Int32).toInt = 160 := (by decide); omega))
          exact R_vret (pc := 111) dX6_goOn_111 rfl (Nat.zero_le _) (Nat.zero_le _) ⟨rfl, _, rfl, hI63, hC63, (show Rd σ63 from ⟨(show 0 ≤ ((σ63.1 11702) : Int32).toInt from by have q0 := he; have q1 := hz; have q2 := hX8_0.1; have q3 := hX8_0.2; have q4 := e4; have q5 := hm6.1; have q6 := hm6.2; have q7 := hX63_0.1; have q8 := hX63_0.2.1; have q9 := hX63_0.2.2; have q10 := ti_in hE; have q11 := ti_in (iv_11701 hI); have q12 := ti_in (iv_11701 hI8); have q13 := ti_in hM8_; have q14 := ti_in r3; have q15 := ti_in r5; have q16 := ti_in (rd_s hI63 hX63_0); have q17 := ti_in hM63_; have q18 := ti_in (iv_11701 hI63); have z0 : (0 : Int32).toInt = 0 := (by decide); have z1 : (1 : Int32).toInt = 1 := (by decide); have z2 : (160 : Int32).toInt = 160 := (by decide); have z3 : (161 : Int32).toInt = 161 := (by decide); omega), (show ((σ63.1 11702) : Int32).toInt ≤ ((σ63.1 11703) : Int32).toInt from by have q0 := he; have q1 := hz; have q2 := hX8_0.1; have q3 := hX8_0.2; have q4 := e4; have q5 := hm6.1; have q6 := hm6.2; have q7 := hX63_0.1; have q8 := hX63_0.2.1; have q9 := hX63_0.2.2; have q10 := ti_in hE; have q11 := ti_in (iv_11701 hI); have q12 := ti_in (iv_11701 hI8); have q13 := ti_in hM8_; have q14 := ti_in r3; have q15 := ti_in r5; have q16 := ti_in (rd_s hI63 hX63_0); have q17 := ti_in hM63_; have q18 := ti_in (iv_11701 hI63); have z0 : (0 : Int32).toInt = 0 := (by decide); have z1 : (1 : Int32).toInt = 1 := (by decide); have z2 : (160 : Int32).toInt = 160 := (by decide); have z3 : (161 : Int32).toInt = 161 := (by decide); omega), (show ((σ63.1 11703) : Int32).toInt ≤ ((σ63.1 11701) : Int32).toInt from by have q0 := he; have q1 := hz; have q2 := hX8_0.1; have q3 := hX8_0.2; have q4 := e4; have q5 := hm6.1; have q6 := hm6.2; have q7 := hX63_0.1; have q8 := hX63_0.2.1; have q9 := hX63_0.2.2; have q10 := ti_in hE; have q11 := ti_in (iv_11701 hI); have q12 := ti_in (iv_11701 hI8); have q13 := ti_in hM8_; have q14 := ti_in r3; have q15 := ti_in r5; have q16 := ti_in (rd_s hI63 hX63_0); have q17 := ti_in hM63_; have q18 := ti_in (iv_11701 hI63); have z0 : (0 : Int32).toInt = 0 := (by decide); have z1 : (1 : Int32).toInt = 1 := (by decide); have z2 : (160 : Int32).toInt = 160 := (by decide); have z3 : (161 : Int32).toInt = 161 := (by decide); omega)⟩)⟩
        | succ q ih63 =>
          intro σ63 hj63 hrg63 hI63 hC63 hX63_0
          have hM63_ : inR (σ63.1 11703) 0 159 := of_ti (ti_in hrg63).1 (by have z : (159 : Int32).toInt = 159 := (by decide); omega)
          refine R_aload_n (pc := 63) dX6_goOn_63 rfl rfl ?_
          refine g_X6_21 (pc := 64) (v := .int (σ63.1 11703)) rfl dX6_goOn_64 (c_117 _) rfl ?_
          refine R_aload_n (pc := 67) dX6_goOn_67 rfl rfl ?_
          refine g_X6_43 (pc := 68) (v := .int (σ63.1 11701)) rfl dX6_goOn_68 (c_117 _) rfl ?_
          refine R_icge (pc := 71) 111 dX6_goOn_71 (by decide) (fun b71_9 => ?_) (fun b71_9 => ?_)
          · skip
            exact R_vret (pc := 111) dX6_goOn_111 rfl (Nat.zero_le _) (Nat.zero_le _) ⟨rfl, _, rfl, hI63, hC63, (show Rd σ63 from ⟨(show 0 ≤ ((σ63.1 11702) : Int32).toInt from by have q0 := he; have q1 := hz; have q2 := hX8_0.1; have q3 := hX8_0.2; have q4 := e4; have q5 := hm6.1; have q6 := hm6.2; have q7 := hX63_0.1; have q8 := hX63_0.2.1; have q9 := hX63_0.2.2; have q10 := ti_le b71_9; have q11 := ti_in hE; have q12 := ti_in (iv_11701 hI); have q13 := ti_in (iv_11701 hI8); have q14 := ti_in hM8_; have q15 := ti_in r3; have q16 := ti_in r5; have q17 := ti_in (rd_s hI63 hX63_0); have q18 := ti_in hM63_; have q19 := ti_in (iv_11701 hI63); have z0 : (0 : Int32).toInt = 0 := (by decide); have z1 : (1 : Int32).toInt = 1 := (by decide); have z2 : (11701 : Int32).toInt = 11701 := (by decide); have z3 : (11703 : Int32).toInt = 11703 := (by decide); have z4 : (159 : Int32).toInt = 159 := (by decide); have z5 : (160 : Int32).toInt = 160 := (by decide); have z6 : (161 : Int32).toInt = 161 := (by decide); omega), (show ((σ63.1 11702) : Int32).toInt ≤ ((σ63.1 11703) : Int32).toInt from by have q0 := he; have q1 := hz; have q2 := hX8_0.1; have q3 := hX8_0.2; have q4 := e4; have q5 := hm6.1; have q6 := hm6.2; have q7 := hX63_0.1; have q8 := hX63_0.2.1; have q9 := hX63_0.2.2; have q10 := ti_le b71_9; have q11 := ti_in hE; have q12 := ti_in (iv_11701 hI); have q13 := ti_in (iv_11701 hI8); have q14 := ti_in hM8_; have q15 := ti_in r3; have q16 := ti_in r5; have q17 := ti_in (rd_s hI63 hX63_0); have q18 := ti_in hM63_; have q19 := ti_in (iv_11701 hI63); have z0 : (0 : Int32).toInt = 0 := (by decide); have z1 : (1 : Int32).toInt = 1 := (by decide); have z2 : (11701 : Int32).toInt = 11701 := (by decide); have z3 : (11703 : Int32).toInt = 11703 := (by decide); have z4 : (159 : Int32).toInt = 159 := (by decide); have z5 : (160 : Int32).toInt = 160 := (by decide); have z6 : (161 : Int32).toInt = 161 := (by decide); omega), (show ((σ63.1 11703) : Int32).toInt ≤ ((σ63.1 11701) : Int32).toInt from by have q0 := he; have q1 := hz; have q2 := hX8_0.1; have q3 := hX8_0.2; have q4 := e4; have q5 := hm6.1; have q6 := hm6.2; have q7 := hX63_0.1; have q8 := hX63_0.2.1; have q9 := hX63_0.2.2; have q10 := ti_le b71_9; have q11 := ti_in hE; have q12 := ti_in (iv_11701 hI); have q13 := ti_in (iv_11701 hI8); have q14 := ti_in hM8_; have q15 := ti_in r3; have q16 := ti_in r5; have q17 := ti_in (rd_s hI63 hX63_0); have q18 := ti_in hM63_; have q19 := ti_in (iv_11701 hI63); have z0 : (0 : Int32).toInt = 0 := (by decide); have z1 : (1 : Int32).toInt = 1 := (by decide); have z2 : (11701 : Int32).toInt = 11701 := (by decide); have z3 : (11703 : Int32).toInt = 11703 := (by decide); have z4 : (159 : Int32).toInt = 159 := (by decide); have z5 : (160 : Int32).toInt = 160 := (by decide); have z6 : (161 : Int32).toInt = 161 := (by decide); omega)⟩)⟩
          · skip
            refine R_aload_n (pc := 74) dX6_goOn_74 rfl rfl ?_
            refine g_X6_9 (pc := 75) (v := .ref 118) rfl dX6_goOn_75 (c_117 _) rfl ?_
            refine R_aload_n (pc := 78) dX6_goOn_78 rfl rfl ?_
            refine g_X6_40 (pc := 79) (v := .int (σ63.1 11702)) rfl dX6_goOn_79 (c_117 _) rfl ?_
            have hx10 : vp_in (σ63.1 11702) 160 := (vp_ti (by have q0 := he; have q1 := hz; have q2 := hX8_0.1; have q3 := hX8_0.2; have q4 := e4; have q5 := hm6.1; have q6 := hm6.2; have q7 := hX63_0.1; have q8 := hX63_0.2.1; have q9 := hX63_0.2.2; have q10 := ti_nle b71_9; have q11 := ti_in hE; have q12 := ti_in (iv_11701 hI); have q13 := ti_in (iv_11701 hI8); have q14 := ti_in hM8_; have q15 := ti_in r3; have q16 := ti_in r5; have q17 := ti_in (rd_s hI63 hX63_0); have q18 := ti_in hM63_; have q19 := ti_in (iv_11701 hI63); have z0 : (0 : Int32).toInt = 0 := (by decide); have z1 : (1 : Int32).toInt = 1 := (by decide); have z2 : (11701 : Int32).toInt = 11701 := (by decide); have z3 : (11703 : Int32).toInt = 11703 := (by decide); have z4 : (159 : Int32).toInt = 159 := (by decide); have z5 : (160 : Int32).toInt = 160 := (by decide); have z6 : (161 : Int32).toInt = 161 := (by decide); omega) (by have q0 := he; have q1 := hz; have q2 := hX8_0.1; have q3 := hX8_0.2; have q4 := e4; have q5 := hm6.1; have q6 := hm6.2; have q7 := hX63_0.1; have q8 := hX63_0.2.1; have q9 := hX63_0.2.2; have q10 := ti_nle b71_9; have q11 := ti_in hE; have q12 := ti_in (iv_11701 hI); have q13 := ti_in (iv_11701 hI8); have q14 := ti_in hM8_; have q15 := ti_in r3; have q16 := ti_in r5; have q17 := ti_in (rd_s hI63 hX63_0); have q18 := ti_in hM63_; have q19 := ti_in (iv_11701 hI63); have z0 : (0 : Int32).toInt = 0 := (by decide); have z1 : (1 : Int32).toInt = 1 := (by decide); have z2 : (11701 : Int32).toInt = 11701 := (by decide); have z3 : (11703 : Int32).toInt = 11703 := (by decide); have z4 : (159 : Int32).toInt = 159 := (by decide); have z5 : (160 : Int32).toInt = 160 := (by decide); have z6 : (161 : Int32).toInt = 161 := (by decide); omega))
            refine R_iaload (pc := 82) dX6_goOn_82 (c_118 _) hx10 ?_
            refine R_aload_n (pc := 83) dX6_goOn_83 rfl rfl ?_
            refine g_X6_9 (pc := 84) (v := .ref 118) rfl dX6_goOn_84 (c_117 _) rfl ?_
            refine R_aload_n (pc := 87) dX6_goOn_87 rfl rfl ?_
            refine g_X6_21 (pc := 88) (v := .int (σ63.1 11703)) rfl dX6_goOn_88 (c_117 _) rfl ?_
            have hx11 : vp_in (σ63.1 11703) 160 := (vp_of_inR hM63_ (by decide))
            refine R_iaload (pc := 91) dX6_goOn_91 (c_118 _) hx11 ?_
            refine k_X6_110 (pc := 92) (gx_X6_isOneRow _ _ _) rfl (by decide) (Nat.le_refl _) (Nat.le_refl _) (Nat.le_of_ble_eq_true rfl) dX6_goOn_92 (fun x w2 h => ?_)
            rcases h with ⟨rfl, rfl | rfl⟩
            · skip
              refine R_ifeq (pc := 95) 111 dX6_goOn_95 (by decide) (fun h => absurd h (by decide)) (fun _ => ?_)
              refine R_aload_n (pc := 98) dX6_goOn_98 rfl rfl ?_
              refine R_dup (pc := 99) dX6_goOn_99 rfl ?_
              refine g_X6_21 (pc := 100) (v := .int (σ63.1 11703)) rfl dX6_goOn_100 (c_117 _) rfl ?_
              refine R_iconst (pc := 103) (v := 1) dX6_goOn_103 (by decide) ?_
              refine R_iadd (pc := 104) dX6_goOn_104 ?_
              have r14 : inR ((σ63.1 11703) + 1) 1 160 := inR_add (show inR (σ63.1 11703) 0 159 from hM63_) (show inR 1 1 1 from (inR_self _)) (by decide) (by decide)
              have e15 := ti_add (l := 1) (h := 160) (show inR (σ63.1 11703) 0 159 from hM63_) (show inR 1 1 1 from (inR_self _)) (by decide) (by decide)
              refine p_X6_21 (pc := 105) rfl dX6_goOn_105 (c_117 _) (Nat.le_of_ble_eq_true rfl) rfl rfl (s_117_3 _ _) ?_
              have hW16 := cor_si 11703 ((σ63.1 11703) + 1) hC63 rfl
              refine R_goto (pc := 108) 63 dX6_goOn_108 (by decide) ?_
              exact ih63 _ (show (((σ63.1 11703) + 1) : Int32).toInt + (q : Int) = 160 from by have q0 := he; have q1 := hz; have q2 := hX8_0.1; have q3 := hX8_0.2; have q4 := e4; have q5 := hm6.1; have q6 := hm6.2; have q7 := hX63_0.1; have q8 := hX63_0.2.1; have q9 := hX63_0.2.2; have q10 := e15; have q11 := ti_nle b71_9; have q12 := ti_in hE; have q13 := ti_in (iv_11701 hI); have q14 := ti_in (iv_11701 hI8); have q15 := ti_in hM8_; have q16 := ti_in r3; have q17 := ti_in r5; have q18 := ti_in (rd_s hI63 hX63_0); have q19 := ti_in hM63_; have q20 := ti_in (iv_11701 hI63); have q21 := ti_in r14; have q22 := hj63; have z0 : (0 : Int32).toInt = 0 := (by decide); have z1 : (1 : Int32).toInt = 1 := (by decide); have z2 : (11701 : Int32).toInt = 11701 := (by decide); have z3 : (11703 : Int32).toInt = 11703 := (by decide); have z4 : (159 : Int32).toInt = 159 := (by decide); have z5 : (160 : Int32).toInt = 160 := (by decide); have z6 : (161 : Int32).toInt = 161 := (by decide); omega) (inR_up r14 (by decide) (by decide)) hI63 hW16 (show Rd (uI σ63 11703 ((σ63.1 11703) + 1)) from ⟨(show 0 ≤ ((σ63.1 11702) : Int32).toInt from by have q0 := he; have q1 := hz; have q2 := hX8_0.1; have q3 := hX8_0.2; have q4 := e4; have q5 := hm6.1; have q6 := hm6.2; have q7 := hX63_0.1; have q8 := hX63_0.2.1; have q9 := hX63_0.2.2; have q10 := e15; have q11 := ti_nle b71_9; have q12 := ti_in hE; have q13 := ti_in (iv_11701 hI); have q14 := ti_in (iv_11701 hI8); have q15 := ti_in hM8_; have q16 := ti_in r3; have q17 := ti_in r5; have q18 := ti_in (rd_s hI63 hX63_0); have q19 := ti_in hM63_; have q20 := ti_in (iv_11701 hI63); have q21 := ti_in r14; have z0 : (0 : Int32).toInt = 0 := (by decide); have z1 : (1 : Int32).toInt = 1 := (by decide); have z2 : (11701 : Int32).toInt = 11701 := (by decide); have z3 : (11703 : Int32).toInt = 11703 := (by decide); have z4 : (159 : Int32).toInt = 159 := (by decide); have z5 : (160 : Int32).toInt = 160 := (by decide); have z6 : (161 : Int32).toInt = 161 := (by decide); omega), (show ((σ63.1 11702) : Int32).toInt ≤ (((σ63.1 11703) + 1) : Int32).toInt from by have q0 := he; have q1 := hz; have q2 := hX8_0.1; have q3 := hX8_0.2; have q4 := e4; have q5 := hm6.1; have q6 := hm6.2; have q7 := hX63_0.1; have q8 := hX63_0.2.1; have q9 := hX63_0.2.2; have q10 := e15; have q11 := ti_nle b71_9; have q12 := ti_in hE; have q13 := ti_in (iv_11701 hI); have q14 := ti_in (iv_11701 hI8); have q15 := ti_in hM8_; have q16 := ti_in r3; have q17 := ti_in r5; have q18 := ti_in (rd_s hI63 hX63_0); have q19 := ti_in hM63_; have q20 := ti_in (iv_11701 hI63); have q21 := ti_in r14; have z0 : (0 : Int32).toInt = 0 := (by decide); have z1 : (1 : Int32).toInt = 1 := (by decide); have z2 : (11701 : Int32).toInt = 11701 := (by decide); have z3 : (11703 : Int32).toInt = 11703 := (by decide); have z4 : (159 : Int32).toInt = 159 := (by decide); have z5 : (160 : Int32).toInt = 160 := (by decide); have z6 : (161 : Int32).toInt = 161 := (by decide); omega), (show (((σ63.1 11703) + 1) : Int32).toInt ≤ ((σ63.1 11701) : Int32).toInt from by have q0 := he; have q1 := hz; have q2 := hX8_0.1; have q3 := hX8_0.2; have q4 := e4; have q5 := hm6.1; have q6 := hm6.2; have q7 := hX63_0.1; have q8 := hX63_0.2.1; have q9 := hX63_0.2.2; have q10 := e15; have q11 := ti_nle b71_9; have q12 := ti_in hE; have q13 := ti_in (iv_11701 hI); have q14 := ti_in (iv_11701 hI8); have q15 := ti_in hM8_; have q16 := ti_in r3; have q17 := ti_in r5; have q18 := ti_in (rd_s hI63 hX63_0); have q19 := ti_in hM63_; have q20 := ti_in (iv_11701 hI63); have q21 := ti_in r14; have z0 : (0 : Int32).toInt = 0 := (by decide); have z1 : (1 : Int32).toInt = 1 := (by decide); have z2 : (11701 : Int32).toInt = 11701 := (by decide); have z3 : (11703 : Int32).toInt = 11703 := (by decide); have z4 : (159 : Int32).toInt = 159 := (by decide); have z5 : (160 : Int32).toInt = 160 := (by decide); have z6 : (161 : Int32).toInt = 161 := (by decide); omega)⟩)
            · skip
              refine R_ifeq (pc := 95) 111 dX6_goOn_95 (by decide) (fun _ => ?_) (fun h => absurd (by decide) h)
              exact R_vret (pc := 111) dX6_goOn_111 rfl (Nat.zero_le _) (Nat.zero_le _) ⟨rfl, _, rfl, hI63, hC63, (show Rd σ63 from ⟨(show 0 ≤ ((σ63.1 11702) : Int32).toInt from by have q0 := he; have q1 := hz; have q2 := hX8_0.1; have q3 := hX8_0.2; have q4 := e4; have q5 := hm6.1; have q6 := hm6.2; have q7 := hX63_0.1; have q8 := hX63_0.2.1; have q9 := hX63_0.2.2; have q10 := ti_nle b71_9; have q11 := ti_in hE; have q12 := ti_in (iv_11701 hI); have q13 := ti_in (iv_11701 hI8); have q14 := ti_in hM8_; have q15 := ti_in r3; have q16 := ti_in r5; have q17 := ti_in (rd_s hI63 hX63_0); have q18 := ti_in hM63_; have q19 := ti_in (iv_11701 hI63); have z0 : (0 : Int32).toInt = 0 := (by decide); have z1 : (1 : Int32).toInt = 1 := (by decide); have z2 : (11701 : Int32).toInt = 11701 := (by decide); have z3 : (11703 : Int32).toInt = 11703 := (by decide); have z4 : (159 : Int32).toInt = 159 := (by decide); have z5 : (160 : Int32).toInt = 160 := (by decide); have z6 : (161 : Int32).toInt = 161 := (by decide); omega), (show ((σ63.1 11702) : Int32).toInt ≤ ((σ63.1 11703) : Int32).toInt from by have q0 := he; have q1 := hz; have q2 := hX8_0.1; have q3 := hX8_0.2; have q4 := e4; have q5 := hm6.1; have q6 := hm6.2; have q7 := hX63_0.1; have q8 := hX63_0.2.1; have q9 := hX63_0.2.2; have q10 := ti_nle b71_9; have q11 := ti_in hE; have q12 := ti_in (iv_11701 hI); have q13 := ti_in (iv_11701 hI8); have q14 := ti_in hM8_; have q15 := ti_in r3; have q16 := ti_in r5; have q17 := ti_in (rd_s hI63 hX63_0); have q18 := ti_in hM63_; have q19 := ti_in (iv_11701 hI63); have z0 : (0 : Int32).toInt = 0 := (by decide); have z1 : (1 : Int32).toInt = 1 := (by decide); have z2 : (11701 : Int32).toInt = 11701 := (by decide); have z3 : (11703 : Int32).toInt = 11703 := (by decide); have z4 : (159 : Int32).toInt = 159 := (by decide); have z5 : (160 : Int32).toInt = 160 := (by decide); have z6 : (161 : Int32).toInt = 161 := (by decide); omega), (show ((σ63.1 11703) : Int32).toInt ≤ ((σ63.1 11701) : Int32).toInt from by have q0 := he; have q1 := hz; have q2 := hX8_0.1; have q3 := hX8_0.2; have q4 := e4; have q5 := hm6.1; have q6 := hm6.2; have q7 := hX63_0.1; have q8 := hX63_0.2.1; have q9 := hX63_0.2.2; have q10 := ti_nle b71_9; have q11 := ti_in hE; have q12 := ti_in (iv_11701 hI); have q13 := ti_in (iv_11701 hI8); have q14 := ti_in hM8_; have q15 := ti_in r3; have q16 := ti_in r5; have q17 := ti_in (rd_s hI63 hX63_0); have q18 := ti_in hM63_; have q19 := ti_in (iv_11701 hI63); have z0 : (0 : Int32).toInt = 0 := (by decide); have z1 : (1 : Int32).toInt = 1 := (by decide); have z2 : (11701 : Int32).toInt = 11701 := (by decide); have z3 : (11703 : Int32).toInt = 11703 := (by decide); have z4 : (159 : Int32).toInt = 159 := (by decide); have z5 : (160 : Int32).toInt = 160 := (by decide); have z6 : (161 : Int32).toInt = 161 := (by decide); omega)⟩)⟩
      exact HL63 ((160 : Int) - ((if (σ8.1 11701) < ((σ8.1 11702) + 1) then (σ8.1 11701) else ((σ8.1 11702) + 1)) : Int32).toInt).toNat _ (show ((if (σ8.1 11701) < ((σ8.1 11702) + 1) then (σ8.1 11701) else ((σ8.1 11702) + 1)) : Int32).toInt + ((((160 : Int) - ((if (σ8.1 11701) < ((σ8.1 11702) + 1) then (σ8.1 11701) else ((σ8.1 11702) + 1)) : Int32).toInt).toNat : Nat) : Int) = 160 from by have q0 := he; have q1 := hz; have q2 := hX8_0.1; have q3 := hX8_0.2; have q4 := e4; have q5 := hm6.1; have q6 := hm6.2; have q7 := ti_in hE; have q8 := ti_in (iv_11701 hI); have q9 := ti_in (iv_11701 hI8); have q10 := ti_in hM8_; have q11 := ti_in r3; have q12 := ti_in r5; have z0 : (0 : Int32).toInt = 0 := (by decide); have z1 : (1 : Int32).toInt = 1 := (by decide); have z2 : (160 : Int32).toInt = 160 := (by decide); have z3 : (161 : Int32).toInt = 161 := (by decide); omega) r5 hI8 hW7 (show Rd (uI σ8 11703 (if (σ8.1 11701) < ((σ8.1 11702) + 1) then (σ8.1 11701) else ((σ8.1 11702) + 1))) from ⟨(show 0 ≤ ((σ8.1 11702) : Int32).toInt from by have q0 := he; have q1 := hz; have q2 := hX8_0.1; have q3 := hX8_0.2; have q4 := e4; have q5 := hm6.1; have q6 := hm6.2; have q7 := ti_in hE; have q8 := ti_in (iv_11701 hI); have q9 := ti_in (iv_11701 hI8); have q10 := ti_in hM8_; have q11 := ti_in r3; have q12 := ti_in r5; have z0 : (0 : Int32).toInt = 0 := (by decide); have z1 : (1 : Int32).toInt = 1 := (by decide); have z2 : (160 : Int32).toInt = 160 := (by decide); have z3 : (161 : Int32).toInt = 161 := (by decide); omega), (show ((σ8.1 11702) : Int32).toInt ≤ ((if (σ8.1 11701) < ((σ8.1 11702) + 1) then (σ8.1 11701) else ((σ8.1 11702) + 1)) : Int32).toInt from by have q0 := he; have q1 := hz; have q2 := hX8_0.1; have q3 := hX8_0.2; have q4 := e4; have q5 := hm6.1; have q6 := hm6.2; have q7 := ti_in hE; have q8 := ti_in (iv_11701 hI); have q9 := ti_in (iv_11701 hI8); have q10 := ti_in hM8_; have q11 := ti_in r3; have q12 := ti_in r5; have z0 : (0 : Int32).toInt = 0 := (by decide); have z1 : (1 : Int32).toInt = 1 := (by decide); have z2 : (160 : Int32).toInt = 160 := (by decide); have z3 : (161 : Int32).toInt = 161 := (by decide); omega), (show ((if (σ8.1 11701) < ((σ8.1 11702) + 1) then (σ8.1 11701) else ((σ8.1 11702) + 1)) : Int32).toInt ≤ ((σ8.1 11701) : Int32).toInt from by have q0 := he; have q1 := hz; have q2 := hX8_0.1; have q3 := hX8_0.2; have q4 := e4; have q5 := hm6.1; have q6 := hm6.2; have q7 := ti_in hE; have q8 := ti_in (iv_11701 hI); have q9 := ti_in (iv_11701 hI8); have q10 := ti_in hM8_; have q11 := ti_in r3; have q12 := ti_in r5; have z0 : (0 : Int32).toInt = 0 := (by decide); have z1 : (1 : Int32).toInt = 1 := (by decide); have z2 : (160 : Int32).toInt = 160 := (by decide); have z3 : (161 : Int32).toInt = 161 := (by decide); omega)⟩)
    | succ q ih8 =>
      intro σ8 hj8 hrg8 hI8 hC8 hX8_0
      have hM8_ : inR (σ8.1 11702) 0 159 := of_ti (ti_in hrg8).1 (by have z : (159 : Int32).toInt = 159 := (by decide); omega)
      refine R_aload_n (pc := 8) dX6_goOn_8 rfl rfl ?_
      refine g_X6_40 (pc := 9) (v := .int (σ8.1 11702)) rfl dX6_goOn_9 (c_117 _) rfl ?_
      refine R_aload_n (pc := 12) dX6_goOn_12 rfl rfl ?_
      refine g_X6_43 (pc := 13) (v := .int (σ8.1 11701)) rfl dX6_goOn_13 (c_117 _) rfl ?_
      refine R_icge (pc := 16) 46 dX6_goOn_16 (by decide) (fun b16_18 => ?_) (fun b16_18 => ?_)
      · skip
        refine R_aload_n (pc := 46) dX6_goOn_46 rfl rfl ?_
        refine R_aload_n (pc := 47) dX6_goOn_47 rfl rfl ?_
        refine g_X6_40 (pc := 48) (v := .int (σ8.1 11702)) rfl dX6_goOn_48 (c_117 _) rfl ?_
        refine R_iconst (pc := 51) (v := 1) dX6_goOn_51 (by decide) ?_
        refine R_iadd (pc := 52) dX6_goOn_52 ?_
        have r19 : inR ((σ8.1 11702) + 1) 1 160 := inR_add (show inR (σ8.1 11702) 0 159 from hM8_) (show inR 1 1 1 from (inR_self _)) (by decide) (by decide)
        have e20 := ti_add (l := 1) (h := 160) (show inR (σ8.1 11702) 0 159 from hM8_) (show inR 1 1 1 from (inR_self _)) (by decide) (by decide)
        refine R_aload_n (pc := 53) dX6_goOn_53 rfl rfl ?_
        refine g_X6_43 (pc := 54) (v := .int (σ8.1 11701)) rfl dX6_goOn_54 (c_117 _) rfl ?_
        refine R_mmin (pc := 57) wm_719 dX6_goOn_57 (by decide) (Nat.le_of_ble_eq_true rfl) (Nat.zero_le _) (Nat.zero_le _) ?_
        have r21 : inR (if (σ8.1 11701) < ((σ8.1 11702) + 1) then (σ8.1 11701) else ((σ8.1 11702) + 1)) 0 160 := inR_min (show inR ((σ8.1 11702) + 1) 1 160 from r19) (show inR (σ8.1 11701) 0 160 from (iv_11701 hI8)) (by decide) (by decide) (by decide)
        have hm22 := min_rng (a := ((σ8.1 11702) + 1)) (b := (σ8.1 11701)) (s := (σ8.1 11702)) (by have q0 := he; have q1 := hz; have q2 := hX8_0.1; have q3 := hX8_0.2; have q4 := e20; have q5 := ti_le b16_18; have q6 := ti_in hE; have q7 := ti_in (iv_11701 hI); have q8 := ti_in (iv_11701 hI8); have q9 := ti_in hM8_; have q10 := ti_in r19; have q11 := ti_in r21; have z0 : (0 : Int32).toInt = 0 := (by decide); have z1 : (1 : Int32).toInt = 1 := (by decide); have z2 : (11701 : Int32).toInt = 11701 := (by decide); have z3 : (11702 : Int32).toInt = 11702 := (by decide); have z4 : (159 : Int32).toInt = 159 := (by decide); have z5 : (160 : Int32).toInt = 160 := (by decide); omega) (by have q0 := he; have q1 := hz; have q2 := hX8_0.1; have q3 := hX8_0.2; have q4 := e20; have q5 := ti_le b16_18; have q6 := ti_in hE; have q7 := ti_in (iv_11701 hI); have q8 := ti_in (iv_11701 hI8); have q9 := ti_in hM8_; have q10 := ti_in r19; have q11 := ti_in r21; have z0 : (0 : Int32).toInt = 0 := (by decide); have z1 : (1 : Int32).toInt = 1 := (by decide); have z2 : (11701 : Int32).toInt = 11701 := (by decide); have z3 : (11702 : Int32).toInt = 11702 := (by decide); have z4 : (159 : Int32).toInt = 159 := (by decide); have z5 : (160 : Int32).toInt = 160 := (by decide); omega)
        refine p_X6_21 (pc := 60) rfl dX6_goOn_60 (c_117 _) (Nat.le_of_ble_eq_true rfl) rfl rfl (s_117_3 _ _) ?_
        have hW23 := cor_si 11703 (if (σ8.1 11701) < ((σ8.1 11702) + 1) then (σ8.1 11701) else ((σ8.1 11702) + 1)) hC8 rfl
        have HL63 : ∀ (q : Nat) (σ63 : Sg), (σ63.1 11703).toInt + (q : Int) = 160 → inR (σ63.1 11703) 0 160 → Inv σ63 → Cor σ σ63 → Rd σ63 → R G l yX6_goOn cX6_goOn 1 none 2 0 0 (QV (fun w2 => ∃ σ2, w2 = WW σ2 ∧ Inv σ2 ∧ Cor σ σ2 ∧ Rd σ2)) 63 [(some (.ref 117))] [] (WW σ63) 0 0 := by
          intro q
          induction q with
          | zero =>
            intro σ63 hj63 hrg63 hI63 hC63 hX63_0
            have hM63_ : inR (σ63.1 11703) 160 160 := of_ti (by have z : (160 : Int32).toInt = 160 := (by decide); omega) (by have z : (160 : Int32).toInt = 160 := (by decide); omega)
            refine R_aload_n (pc := 63) dX6_goOn_63 rfl rfl ?_
            refine g_X6_21 (pc := 64) (v := .int (σ63.1 11703)) rfl dX6_goOn_64 (c_117 _) rfl ?_
            refine R_aload_n (pc := 67) dX6_goOn_67 rfl rfl ?_
            refine g_X6_43 (pc := 68) (v := .int (σ63.1 11701)) rfl dX6_goOn_68 (c_117 _) rfl ?_
            refine R_icge (pc := 71) 111 dX6_goOn_71 (by decide) (fun _ => ?_) (fun h => False.elim (by have q1 := ti_nle h; have q2 := ti_in (show inR (σ63.1 11703) 160 160 from hM63_); have q3 := ti_in (show inR (σ63.1 11701) 0 160 from (iv_11701 hI63)); have z0 : (0 : Int32).toInt = 0 := (by decide);  have z1 : (11701 : Int32).toInt = 11701 := (by decide);  have z2 : (11703 : Int32).toInt = 11703 := (by decide);  have z3 : (160 : Int32).toInt = 160 := (by decide); omega))
            exact R_vret (pc := 111) dX6_goOn_111 rfl (Nat.zero_le _) (Nat.zero_le _) ⟨rfl, _, rfl, hI63, hC63, (show Rd σ63 from ⟨(show 0 ≤ ((σ63.1 11702) : Int32).toInt from by have q0 := he; have q1 := hz; have q2 := hX8_0.1; have q3 := hX8_0.2; have q4 := e20; have q5 := hm22.1; have q6 := hm22.2; have q7 := hX63_0.1; have q8 := hX63_0.2.1; have q9 := hX63_0.2.2; have q10 := ti_le b16_18; have q11 := ti_in hE; have q12 := ti_in (iv_11701 hI); have q13 := ti_in (iv_11701 hI8); have q14 := ti_in hM8_; have q15 := ti_in r19; have q16 := ti_in r21; have q17 := ti_in (rd_s hI63 hX63_0); have q18 := ti_in hM63_; have q19 := ti_in (iv_11701 hI63); have z0 : (0 : Int32).toInt = 0 := (by decide); have z1 : (1 : Int32).toInt = 1 := (by decide); have z2 : (11701 : Int32).toInt = 11701 := (by decide); have z3 : (11702 : Int32).toInt = 11702 := (by decide); have z4 : (159 : Int32).toInt = 159 := (by decide); have z5 : (160 : Int32).toInt = 160 := (by decide); omega), (show ((σ63.1 11702) : Int32).toInt ≤ ((σ63.1 11703) : Int32).toInt from by have q0 := he; have q1 := hz; have q2 := hX8_0.1; have q3 := hX8_0.2; have q4 := e20; have q5 := hm22.1; have q6 := hm22.2; have q7 := hX63_0.1; have q8 := hX63_0.2.1; have q9 := hX63_0.2.2; have q10 := ti_le b16_18; have q11 := ti_in hE; have q12 := ti_in (iv_11701 hI); have q13 := ti_in (iv_11701 hI8); have q14 := ti_in hM8_; have q15 := ti_in r19; have q16 := ti_in r21; have q17 := ti_in (rd_s hI63 hX63_0); have q18 := ti_in hM63_; have q19 := ti_in (iv_11701 hI63); have z0 : (0 : Int32).toInt = 0 := (by decide); have z1 : (1 : Int32).toInt = 1 := (by decide); have z2 : (11701 : Int32).toInt = 11701 := (by decide); have z3 : (11702 : Int32).toInt = 11702 := (by decide); have z4 : (159 : Int32).toInt = 159 := (by decide); have z5 : (160 : Int32).toInt = 160 := (by decide); omega), (show ((σ63.1 11703) : Int32).toInt ≤ ((σ63.1 11701) : Int32).toInt from by have q0 := he; have q1 := hz; have q2 := hX8_0.1; have q3 := hX8_0.2; have q4 := e20; have q5 := hm22.1; have q6 := hm22.2; have q7 := hX63_0.1; have q8 := hX63_0.2.1; have q9 := hX63_0.2.2; have q10 := ti_le b16_18; have q11 := ti_in hE; have q12 := ti_in (iv_11701 hI); have q13 := ti_in (iv_11701 hI8); have q14 := ti_in hM8_; have q15 := ti_in r19; have q16 := ti_in r21; have q17 := ti_in (rd_s hI63 hX63_0); have q18 := ti_in hM63_; have q19 := ti_in (iv_11701 hI63); have z0 : (0 : Int32).toInt = 0 := (by decide); have z1 : (1 : Int32).toInt = 1 := (by decide); have z2 : (11701 : Int32).toInt = 11701 := (by decide); have z3 : (11702 : Int32).toInt = 11702 := (by decide); have z4 : (159 : Int32).toInt = 159 := (by decide); have z5 : (160 : Int32).toInt = 160 := (by decide); omega)⟩)⟩
          | succ q ih63 =>
            intro σ63 hj63 hrg63 hI63 hC63 hX63_0
            have hM63_ : inR (σ63.1 11703) 0 159 := of_ti (ti_in hrg63).1 (by have z : (159 : Int32).toInt = 159 := (by decide); omega)
            refine R_aload_n (pc := 63) dX6_goOn_63 rfl rfl ?_
            refine g_X6_21 (pc := 64) (v := .int (σ63.1 11703)) rfl dX6_goOn_64 (c_117 _) rfl ?_
            refine R_aload_n (pc := 67) dX6_goOn_67 rfl rfl ?_
            refine g_X6_43 (pc := 68) (v := .int (σ63.1 11701)) rfl dX6_goOn_68 (c_117 _) rfl ?_
            refine R_icge (pc := 71) 111 dX6_goOn_71 (by decide) (fun b71_25 => ?_) (fun b71_25 => ?_)
            · skip
              exact R_vret (pc := 111) dX6_goOn_111 rfl (Nat.zero_le _) (Nat.zero_le _) ⟨rfl, _, rfl, hI63, hC63, (show Rd σ63 from ⟨(show 0 ≤ ((σ63.1 11702) : Int32).toInt from by have q0 := he; have q1 := hz; have q2 := hX8_0.1; have q3 := hX8_0.2; have q4 := e20; have q5 := hm22.1; have q6 := hm22.2; have q7 := hX63_0.1; have q8 := hX63_0.2.1; have q9 := hX63_0.2.2; have q10 := ti_le b16_18; have q11 := ti_le b71_25; have q12 := ti_in hE; have q13 := ti_in (iv_11701 hI); have q14 := ti_in (iv_11701 hI8); have q15 := ti_in hM8_; have q16 := ti_in r19; have q17 := ti_in r21; have q18 := ti_in (rd_s hI63 hX63_0); have q19 := ti_in hM63_; have q20 := ti_in (iv_11701 hI63); have z0 : (0 : Int32).toInt = 0 := (by decide); have z1 : (1 : Int32).toInt = 1 := (by decide); have z2 : (11701 : Int32).toInt = 11701 := (by decide); have z3 : (11702 : Int32).toInt = 11702 := (by decide); have z4 : (11703 : Int32).toInt = 11703 := (by decide); have z5 : (159 : Int32).toInt = 159 := (by decide); have z6 : (160 : Int32).toInt = 160 := (by decide); omega), (show ((σ63.1 11702) : Int32).toInt ≤ ((σ63.1 11703) : Int32).toInt from by have q0 := he; have q1 := hz; have q2 := hX8_0.1; have q3 := hX8_0.2; have q4 := e20; have q5 := hm22.1; have q6 := hm22.2; have q7 := hX63_0.1; have q8 := hX63_0.2.1; have q9 := hX63_0.2.2; have q10 := ti_le b16_18; have q11 := ti_le b71_25; have q12 := ti_in hE; have q13 := ti_in (iv_11701 hI); have q14 := ti_in (iv_11701 hI8); have q15 := ti_in hM8_; have q16 := ti_in r19; have q17 := ti_in r21; have q18 := ti_in (rd_s hI63 hX63_0); have q19 := ti_in hM63_; have q20 := ti_in (iv_11701 hI63); have z0 : (0 : Int32).toInt = 0 := (by decide); have z1 : (1 : Int32).toInt = 1 := (by decide); have z2 : (11701 : Int32).toInt = 11701 := (by decide); have z3 : (11702 : Int32).toInt = 11702 := (by decide); have z4 : (11703 : Int32).toInt = 11703 := (by decide); have z5 : (159 : Int32).toInt = 159 := (by decide); have z6 : (160 : Int32).toInt = 160 := (by decide); omega), (show ((σ63.1 11703) : Int32).toInt ≤ ((σ63.1 11701) : Int32).toInt from by have q0 := he; have q1 := hz; have q2 := hX8_0.1; have q3 := hX8_0.2; have q4 := e20; have q5 := hm22.1; have q6 := hm22.2; have q7 := hX63_0.1; have q8 := hX63_0.2.1; have q9 := hX63_0.2.2; have q10 := ti_le b16_18; have q11 := ti_le b71_25; have q12 := ti_in hE; have q13 := ti_in (iv_11701 hI); have q14 := ti_in (iv_11701 hI8); have q15 := ti_in hM8_; have q16 := ti_in r19; have q17 := ti_in r21; have q18 := ti_in (rd_s hI63 hX63_0); have q19 := ti_in hM63_; have q20 := ti_in (iv_11701 hI63); have z0 : (0 : Int32).toInt = 0 := (by decide); have z1 : (1 : Int32).toInt = 1 := (by decide); have z2 : (11701 : Int32).toInt = 11701 := (by decide); have z3 : (11702 : Int32).toInt = 11702 := (by decide); have z4 : (11703 : Int32).toInt = 11703 := (by decide); have z5 : (159 : Int32).toInt = 159 := (by decide); have z6 : (160 : Int32).toInt = 160 := (by decide); omega)⟩)⟩
            · skip
              refine R_aload_n (pc := 74) dX6_goOn_74 rfl rfl ?_
              refine g_X6_9 (pc := 75) (v := .ref 118) rfl dX6_goOn_75 (c_117 _) rfl ?_
              refine R_aload_n (pc := 78) dX6_goOn_78 rfl rfl ?_
              refine g_X6_40 (pc := 79) (v := .int (σ63.1 11702)) rfl dX6_goOn_79 (c_117 _) rfl ?_
              have hx26 : vp_in (σ63.1 11702) 160 := (vp_ti (by have q0 := he; have q1 := hz; have q2 := hX8_0.1; have q3 := hX8_0.2; have q4 := e20; have q5 := hm22.1; have q6 := hm22.2; have q7 := hX63_0.1; have q8 := hX63_0.2.1; have q9 := hX63_0.2.2; have q10 := ti_le b16_18; have q11 := ti_nle b71_25; have q12 := ti_in hE; have q13 := ti_in (iv_11701 hI); have q14 := ti_in (iv_11701 hI8); have q15 := ti_in hM8_; have q16 := ti_in r19; have q17 := ti_in r21; have q18 := ti_in (rd_s hI63 hX63_0); have q19 := ti_in hM63_; have q20 := ti_in (iv_11701 hI63); have z0 : (0 : Int32).toInt = 0 := (by decide); have z1 : (1 : Int32).toInt = 1 := (by decide); have z2 : (11701 : Int32).toInt = 11701 := (by decide); have z3 : (11702 : Int32).toInt = 11702 := (by decide); have z4 : (11703 : Int32).toInt = 11703 := (by decide); have z5 : (159 : Int32).toInt = 159 := (by decide); have z6 : (160 : Int32).toInt = 160 := (by decide); omega) (by have q0 := he; have q1 := hz; have q2 := hX8_0.1; have q3 := hX8_0.2; have q4 := e20; have q5 := hm22.1; have q6 := hm22.2; have q7 := hX63_0.1; have q8 := hX63_0.2.1; have q9 := hX63_0.2.2; have q10 := ti_le b16_18; have q11 := ti_nle b71_25; have q12 := ti_in hE; have q13 := ti_in (iv_11701 hI); have q14 := ti_in (iv_11701 hI8); have q15 := ti_in hM8_; have q16 := ti_in r19; have q17 := ti_in r21; have q18 := ti_in (rd_s hI63 hX63_0); have q19 := ti_in hM63_; have q20 := ti_in (iv_11701 hI63); have z0 : (0 : Int32).toInt = 0 := (by decide); have z1 : (1 : Int32).toInt = 1 := (by decide); have z2 : (11701 : Int32).toInt = 11701 := (by decide); have z3 : (11702 : Int32).toInt = 11702 := (by decide); have z4 : (11703 : Int32).toInt = 11703 := (by decide); have z5 : (159 : Int32).toInt = 159 := (by decide); have z6 : (160 : Int32).toInt = 160 := (by decide); omega))
              refine R_iaload (pc := 82) dX6_goOn_82 (c_118 _) hx26 ?_
              refine R_aload_n (pc := 83) dX6_goOn_83 rfl rfl ?_
              refine g_X6_9 (pc := 84) (v := .ref 118) rfl dX6_goOn_84 (c_117 _) rfl ?_
              refine R_aload_n (pc := 87) dX6_goOn_87 rfl rfl ?_
              refine g_X6_21 (pc := 88) (v := .int (σ63.1 11703)) rfl dX6_goOn_88 (c_117 _) rfl ?_
              have hx27 : vp_in (σ63.1 11703) 160 := (vp_of_inR hM63_ (by decide))
              refine R_iaload (pc := 91) dX6_goOn_91 (c_118 _) hx27 ?_
              refine k_X6_110 (pc := 92) (gx_X6_isOneRow _ _ _) rfl (by decide) (Nat.le_refl _) (Nat.le_refl _) (Nat.le_of_ble_eq_true rfl) dX6_goOn_92 (fun x w2 h => ?_)
              rcases h with ⟨rfl, rfl | rfl⟩
              · skip
                refine R_ifeq (pc := 95) 111 dX6_goOn_95 (by decide) (fun h => absurd h (by decide)) (fun _ => ?_)
                refine R_aload_n (pc := 98) dX6_goOn_98 rfl rfl ?_
                refine R_dup (pc := 99) dX6_goOn_99 rfl ?_
                refine g_X6_21 (pc := 100) (v := .int (σ63.1 11703)) rfl dX6_goOn_100 (c_117 _) rfl ?_
                refine R_iconst (pc := 103) (v := 1) dX6_goOn_103 (by decide) ?_
                refine R_iadd (pc := 104) dX6_goOn_104 ?_
                have r30 : inR ((σ63.1 11703) + 1) 1 160 := inR_add (show inR (σ63.1 11703) 0 159 from hM63_) (show inR 1 1 1 from (inR_self _)) (by decide) (by decide)
                have e31 := ti_add (l := 1) (h := 160) (show inR (σ63.1 11703) 0 159 from hM63_) (show inR 1 1 1 from (inR_self _)) (by decide) (by decide)
                refine p_X6_21 (pc := 105) rfl dX6_goOn_105 (c_117 _) (Nat.le_of_ble_eq_true rfl) rfl rfl (s_117_3 _ _) ?_
                have hW32 := cor_si 11703 ((σ63.1 11703) + 1) hC63 rfl
                refine R_goto (pc := 108) 63 dX6_goOn_108 (by decide) ?_
                exact ih63 _ (show (((σ63.1 11703) + 1) : Int32).toInt + (q : Int) = 160 from by have q0 := he; have q1 := hz; have q2 := hX8_0.1; have q3 := hX8_0.2; have q4 := e20; have q5 := hm22.1; have q6 := hm22.2; have q7 := hX63_0.1; have q8 := hX63_0.2.1; have q9 := hX63_0.2.2; have q10 := e31; have q11 := ti_le b16_18; have q12 := ti_nle b71_25; have q13 := ti_in hE; have q14 := ti_in (iv_11701 hI); have q15 := ti_in (iv_11701 hI8); have q16 := ti_in hM8_; have q17 := ti_in r19; have q18 := ti_in r21; have q19 := ti_in (rd_s hI63 hX63_0); have q20 := ti_in hM63_; have q21 := ti_in (iv_11701 hI63); have q22 := ti_in r30; have q23 := hj63; have z0 : (0 : Int32).toInt = 0 := (by decide); have z1 : (1 : Int32).toInt = 1 := (by decide); have z2 : (11701 : Int32).toInt = 11701 := (by decide); have z3 : (11702 : Int32).toInt = 11702 := (by decide); have z4 : (11703 : Int32).toInt = 11703 := (by decide); have z5 : (159 : Int32).toInt = 159 := (by decide); have z6 : (160 : Int32).toInt = 160 := (by decide); omega) (inR_up r30 (by decide) (by decide)) hI63 hW32 (show Rd (uI σ63 11703 ((σ63.1 11703) + 1)) from ⟨(show 0 ≤ ((σ63.1 11702) : Int32).toInt from by have q0 := he; have q1 := hz; have q2 := hX8_0.1; have q3 := hX8_0.2; have q4 := e20; have q5 := hm22.1; have q6 := hm22.2; have q7 := hX63_0.1; have q8 := hX63_0.2.1; have q9 := hX63_0.2.2; have q10 := e31; have q11 := ti_le b16_18; have q12 := ti_nle b71_25; have q13 := ti_in hE; have q14 := ti_in (iv_11701 hI); have q15 := ti_in (iv_11701 hI8); have q16 := ti_in hM8_; have q17 := ti_in r19; have q18 := ti_in r21; have q19 := ti_in (rd_s hI63 hX63_0); have q20 := ti_in hM63_; have q21 := ti_in (iv_11701 hI63); have q22 := ti_in r30; have z0 : (0 : Int32).toInt = 0 := (by decide); have z1 : (1 : Int32).toInt = 1 := (by decide); have z2 : (11701 : Int32).toInt = 11701 := (by decide); have z3 : (11702 : Int32).toInt = 11702 := (by decide); have z4 : (11703 : Int32).toInt = 11703 := (by decide); have z5 : (159 : Int32).toInt = 159 := (by decide); have z6 : (160 : Int32).toInt = 160 := (by decide); omega), (show ((σ63.1 11702) : Int32).toInt ≤ (((σ63.1 11703) + 1) : Int32).toInt from by have q0 := he; have q1 := hz; have q2 := hX8_0.1; have q3 := hX8_0.2; have q4 := e20; have q5 := hm22.1; have q6 := hm22.2; have q7 := hX63_0.1; have q8 := hX63_0.2.1; have q9 := hX63_0.2.2; have q10 := e31; have q11 := ti_le b16_18; have q12 := ti_nle b71_25; have q13 := ti_in hE; have q14 := ti_in (iv_11701 hI); have q15 := ti_in (iv_11701 hI8); have q16 := ti_in hM8_; have q17 := ti_in r19; have q18 := ti_in r21; have q19 := ti_in (rd_s hI63 hX63_0); have q20 := ti_in hM63_; have q21 := ti_in (iv_11701 hI63); have q22 := ti_in r30; have z0 : (0 : Int32).toInt = 0 := (by decide); have z1 : (1 : Int32).toInt = 1 := (by decide); have z2 : (11701 : Int32).toInt = 11701 := (by decide); have z3 : (11702 : Int32).toInt = 11702 := (by decide); have z4 : (11703 : Int32).toInt = 11703 := (by decide); have z5 : (159 : Int32).toInt = 159 := (by decide); have z6 : (160 : Int32).toInt = 160 := (by decide); omega), (show (((σ63.1 11703) + 1) : Int32).toInt ≤ ((σ63.1 11701) : Int32).toInt from by have q0 := he; have q1 := hz; have q2 := hX8_0.1; have q3 := hX8_0.2; have q4 := e20; have q5 := hm22.1; have q6 := hm22.2; have q7 := hX63_0.1; have q8 := hX63_0.2.1; have q9 := hX63_0.2.2; have q10 := e31; have q11 := ti_le b16_18; have q12 := ti_nle b71_25; have q13 := ti_in hE; have q14 := ti_in (iv_11701 hI); have q15 := ti_in (iv_11701 hI8); have q16 := ti_in hM8_; have q17 := ti_in r19; have q18 := ti_in r21; have q19 := ti_in (rd_s hI63 hX63_0); have q20 := ti_in hM63_; have q21 := ti_in (iv_11701 hI63); have q22 := ti_in r30; have z0 : (0 : Int32).toInt = 0 := (by decide); have z1 : (1 : Int32).toInt = 1 := (by decide); have z2 : (11701 : Int32).toInt = 11701 := (by decide); have z3 : (11702 : Int32).toInt = 11702 := (by decide); have z4 : (11703 : Int32).toInt = 11703 := (by decide); have z5 : (159 : Int32).toInt = 159 := (by decide); have z6 : (160 : Int32).toInt = 160 := (by decide); omega)⟩)
              · skip
                refine R_ifeq (pc := 95) 111 dX6_goOn_95 (by decide) (fun _ => ?_) (fun h => absurd (by decide) h)
                exact R_vret (pc := 111) dX6_goOn_111 rfl (Nat.zero_le _) (Nat.zero_le _) ⟨rfl, _, rfl, hI63, hC63, (show Rd σ63 from ⟨(show 0 ≤ ((σ63.1 11702) : Int32).toInt from by have q0 := he; have q1 := hz; have q2 := hX8_0.1; have q3 := hX8_0.2; have q4 := e20; have q5 := hm22.1; have q6 := hm22.2; have q7 := hX63_0.1; have q8 := hX63_0.2.1; have q9 := hX63_0.2.2; have q10 := ti_le b16_18; have q11 := ti_nle b71_25; have q12 := ti_in hE; have q13 := ti_in (iv_11701 hI); have q14 := ti_in (iv_11701 hI8); have q15 := ti_in hM8_; have q16 := ti_in r19; have q17 := ti_in r21; have q18 := ti_in (rd_s hI63 hX63_0); have q19 := ti_in hM63_; have q20 := ti_in (iv_11701 hI63); have z0 : (0 : Int32).toInt = 0 := (by decide); have z1 : (1 : Int32).toInt = 1 := (by decide); have z2 : (11701 : Int32).toInt = 11701 := (by decide); have z3 : (11702 : Int32).toInt = 11702 := (by decide); have z4 : (11703 : Int32).toInt = 11703 := (by decide); have z5 : (159 : Int32).toInt = 159 := (by decide); have z6 : (160 : Int32).toInt = 160 := (by decide); omega), (show ((σ63.1 11702) : Int32).toInt ≤ ((σ63.1 11703) : Int32).toInt from by have q0 := he; have q1 := hz; have q2 := hX8_0.1; have q3 := hX8_0.2; have q4 := e20; have q5 := hm22.1; have q6 := hm22.2; have q7 := hX63_0.1; have q8 := hX63_0.2.1; have q9 := hX63_0.2.2; have q10 := ti_le b16_18; have q11 := ti_nle b71_25; have q12 := ti_in hE; have q13 := ti_in (iv_11701 hI); have q14 := ti_in (iv_11701 hI8); have q15 := ti_in hM8_; have q16 := ti_in r19; have q17 := ti_in r21; have q18 := ti_in (rd_s hI63 hX63_0); have q19 := ti_in hM63_; have q20 := ti_in (iv_11701 hI63); have z0 : (0 : Int32).toInt = 0 := (by decide); have z1 : (1 : Int32).toInt = 1 := (by decide); have z2 : (11701 : Int32).toInt = 11701 := (by decide); have z3 : (11702 : Int32).toInt = 11702 := (by decide); have z4 : (11703 : Int32).toInt = 11703 := (by decide); have z5 : (159 : Int32).toInt = 159 := (by decide); have z6 : (160 : Int32).toInt = 160 := (by decide); omega), (show ((σ63.1 11703) : Int32).toInt ≤ ((σ63.1 11701) : Int32).toInt from by have q0 := he; have q1 := hz; have q2 := hX8_0.1; have q3 := hX8_0.2; have q4 := e20; have q5 := hm22.1; have q6 := hm22.2; have q7 := hX63_0.1; have q8 := hX63_0.2.1; have q9 := hX63_0.2.2; have q10 := ti_le b16_18; have q11 := ti_nle b71_25; have q12 := ti_in hE; have q13 := ti_in (iv_11701 hI); have q14 := ti_in (iv_11701 hI8); have q15 := ti_in hM8_; have q16 := ti_in r19; have q17 := ti_in r21; have q18 := ti_in (rd_s hI63 hX63_0); have q19 := ti_in hM63_; have q20 := ti_in (iv_11701 hI63); have z0 : (0 : Int32).toInt = 0 := (by decide); have z1 : (1 : Int32).toInt = 1 := (by decide); have z2 : (11701 : Int32).toInt = 11701 := (by decide); have z3 : (11702 : Int32).toInt = 11702 := (by decide); have z4 : (11703 : Int32).toInt = 11703 := (by decide); have z5 : (159 : Int32).toInt = 159 := (by decide); have z6 : (160 : Int32).toInt = 160 := (by decide); omega)⟩)⟩
        exact HL63 ((160 : Int) - ((if (σ8.1 11701) < ((σ8.1 11702) + 1) then (σ8.1 11701) else ((σ8.1 11702) + 1)) : Int32).toInt).toNat _ (show ((if (σ8.1 11701) < ((σ8.1 11702) + 1) then (σ8.1 11701) else ((σ8.1 11702) + 1)) : Int32).toInt + ((((160 : Int) - ((if (σ8.1 11701) < ((σ8.1 11702) + 1) then (σ8.1 11701) else ((σ8.1 11702) + 1)) : Int32).toInt).toNat : Nat) : Int) = 160 from by have q0 := he; have q1 := hz; have q2 := hX8_0.1; have q3 := hX8_0.2; have q4 := e20; have q5 := hm22.1; have q6 := hm22.2; have q7 := ti_le b16_18; have q8 := ti_in hE; have q9 := ti_in (iv_11701 hI); have q10 := ti_in (iv_11701 hI8); have q11 := ti_in hM8_; have q12 := ti_in r19; have q13 := ti_in r21; have z0 : (0 : Int32).toInt = 0 := (by decide); have z1 : (1 : Int32).toInt = 1 := (by decide); have z2 : (11701 : Int32).toInt = 11701 := (by decide); have z3 : (11702 : Int32).toInt = 11702 := (by decide); have z4 : (159 : Int32).toInt = 159 := (by decide); have z5 : (160 : Int32).toInt = 160 := (by decide); omega) r21 hI8 hW23 (show Rd (uI σ8 11703 (if (σ8.1 11701) < ((σ8.1 11702) + 1) then (σ8.1 11701) else ((σ8.1 11702) + 1))) from ⟨(show 0 ≤ ((σ8.1 11702) : Int32).toInt from by have q0 := he; have q1 := hz; have q2 := hX8_0.1; have q3 := hX8_0.2; have q4 := e20; have q5 := hm22.1; have q6 := hm22.2; have q7 := ti_le b16_18; have q8 := ti_in hE; have q9 := ti_in (iv_11701 hI); have q10 := ti_in (iv_11701 hI8); have q11 := ti_in hM8_; have q12 := ti_in r19; have q13 := ti_in r21; have z0 : (0 : Int32).toInt = 0 := (by decide); have z1 : (1 : Int32).toInt = 1 := (by decide); have z2 : (11701 : Int32).toInt = 11701 := (by decide); have z3 : (11702 : Int32).toInt = 11702 := (by decide); have z4 : (159 : Int32).toInt = 159 := (by decide); have z5 : (160 : Int32).toInt = 160 := (by decide); omega), (show ((σ8.1 11702) : Int32).toInt ≤ ((if (σ8.1 11701) < ((σ8.1 11702) + 1) then (σ8.1 11701) else ((σ8.1 11702) + 1)) : Int32).toInt from by have q0 := he; have q1 := hz; have q2 := hX8_0.1; have q3 := hX8_0.2; have q4 := e20; have q5 := hm22.1; have q6 := hm22.2; have q7 := ti_le b16_18; have q8 := ti_in hE; have q9 := ti_in (iv_11701 hI); have q10 := ti_in (iv_11701 hI8); have q11 := ti_in hM8_; have q12 := ti_in r19; have q13 := ti_in r21; have z0 : (0 : Int32).toInt = 0 := (by decide); have z1 : (1 : Int32).toInt = 1 := (by decide); have z2 : (11701 : Int32).toInt = 11701 := (by decide); have z3 : (11702 : Int32).toInt = 11702 := (by decide); have z4 : (159 : Int32).toInt = 159 := (by decide); have z5 : (160 : Int32).toInt = 160 := (by decide); omega), (show ((if (σ8.1 11701) < ((σ8.1 11702) + 1) then (σ8.1 11701) else ((σ8.1 11702) + 1)) : Int32).toInt ≤ ((σ8.1 11701) : Int32).toInt from by have q0 := he; have q1 := hz; have q2 := hX8_0.1; have q3 := hX8_0.2; have q4 := e20; have q5 := hm22.1; have q6 := hm22.2; have q7 := ti_le b16_18; have q8 := ti_in hE; have q9 := ti_in (iv_11701 hI); have q10 := ti_in (iv_11701 hI8); have q11 := ti_in hM8_; have q12 := ti_in r19; have q13 := ti_in r21; have z0 : (0 : Int32).toInt = 0 := (by decide); have z1 : (1 : Int32).toInt = 1 := (by decide); have z2 : (11701 : Int32).toInt = 11701 := (by decide); have z3 : (11702 : Int32).toInt = 11702 := (by decide); have z4 : (159 : Int32).toInt = 159 := (by decide); have z5 : (160 : Int32).toInt = 160 := (by decide); omega)⟩)
      · skip
        refine R_aload_n (pc := 19) dX6_goOn_19 rfl rfl ?_
        refine g_X6_9 (pc := 20) (v := .ref 118) rfl dX6_goOn_20 (c_117 _) rfl ?_
        refine R_aload_n (pc := 23) dX6_goOn_23 rfl rfl ?_
        refine g_X6_40 (pc := 24) (v := .int (σ8.1 11702)) rfl dX6_goOn_24 (c_117 _) rfl ?_
        have hx34 : vp_in (σ8.1 11702) 160 := (vp_of_inR hM8_ (by decide))
        refine R_iaload (pc := 27) dX6_goOn_27 (c_118 _) hx34 ?_
        refine R_bipush (pc := 28) (v := 32) dX6_goOn_28 (by decide) ?_
        refine R_icne (pc := 30) 46 dX6_goOn_30 (by decide) (fun b30_35 => ?_) (fun b30_35 => ?_)
        · skip
          refine R_aload_n (pc := 46) dX6_goOn_46 rfl rfl ?_
          refine R_aload_n (pc := 47) dX6_goOn_47 rfl rfl ?_
          refine g_X6_40 (pc := 48) (v := .int (σ8.1 11702)) rfl dX6_goOn_48 (c_117 _) rfl ?_
          refine R_iconst (pc := 51) (v := 1) dX6_goOn_51 (by decide) ?_
          refine R_iadd (pc := 52) dX6_goOn_52 ?_
          have r36 : inR ((σ8.1 11702) + 1) 1 160 := inR_add (show inR (σ8.1 11702) 0 159 from hM8_) (show inR 1 1 1 from (inR_self _)) (by decide) (by decide)
          have e37 := ti_add (l := 1) (h := 160) (show inR (σ8.1 11702) 0 159 from hM8_) (show inR 1 1 1 from (inR_self _)) (by decide) (by decide)
          refine R_aload_n (pc := 53) dX6_goOn_53 rfl rfl ?_
          refine g_X6_43 (pc := 54) (v := .int (σ8.1 11701)) rfl dX6_goOn_54 (c_117 _) rfl ?_
          refine R_mmin (pc := 57) wm_719 dX6_goOn_57 (by decide) (Nat.le_of_ble_eq_true rfl) (Nat.zero_le _) (Nat.zero_le _) ?_
          have r38 : inR (if (σ8.1 11701) < ((σ8.1 11702) + 1) then (σ8.1 11701) else ((σ8.1 11702) + 1)) 0 160 := inR_min (show inR ((σ8.1 11702) + 1) 1 160 from r36) (show inR (σ8.1 11701) 0 160 from (iv_11701 hI8)) (by decide) (by decide) (by decide)
          have hm39 := min_rng (a := ((σ8.1 11702) + 1)) (b := (σ8.1 11701)) (s := (σ8.1 11702)) (by have q0 := he; have q1 := hz; have q2 := hX8_0.1; have q3 := hX8_0.2; have q4 := e37; have q5 := ti_nle b16_18; have q6 := ti_ne b30_35; have q7 := ti_in hE; have q8 := ti_in (iv_11701 hI); have q9 := ti_in (iv_11701 hI8); have q10 := ti_in hM8_; have q11 := ti_in r36; have q12 := ti_in r38; have z0 : (0 : Int32).toInt = 0 := (by decide); have z1 : (1 : Int32).toInt = 1 := (by decide); have z2 : (11701 : Int32).toInt = 11701 := (by decide); have z3 : (11702 : Int32).toInt = 11702 := (by decide); have z4 : (118 : Int32).toInt = 118 := (by decide); have z5 : (159 : Int32).toInt = 159 := (by decide); have z6 : (160 : Int32).toInt = 160 := (by decide); have z7 : (32 : Int32).toInt = 32 := (by decide); omega) (by have q0 := he; have q1 := hz; have q2 := hX8_0.1; have q3 := hX8_0.2; have q4 := e37; have q5 := ti_nle b16_18; have q6 := ti_ne b30_35; have q7 := ti_in hE; have q8 := ti_in (iv_11701 hI); have q9 := ti_in (iv_11701 hI8); have q10 := ti_in hM8_; have q11 := ti_in r36; have q12 := ti_in r38; have z0 : (0 : Int32).toInt = 0 := (by decide); have z1 : (1 : Int32).toInt = 1 := (by decide); have z2 : (11701 : Int32).toInt = 11701 := (by decide); have z3 : (11702 : Int32).toInt = 11702 := (by decide); have z4 : (118 : Int32).toInt = 118 := (by decide); have z5 : (159 : Int32).toInt = 159 := (by decide); have z6 : (160 : Int32).toInt = 160 := (by decide); have z7 : (32 : Int32).toInt = 32 := (by decide); omega)
          refine p_X6_21 (pc := 60) rfl dX6_goOn_60 (c_117 _) (Nat.le_of_ble_eq_true rfl) rfl rfl (s_117_3 _ _) ?_
          have hW40 := cor_si 11703 (if (σ8.1 11701) < ((σ8.1 11702) + 1) then (σ8.1 11701) else ((σ8.1 11702) + 1)) hC8 rfl
          have HL63 : ∀ (q : Nat) (σ63 : Sg), (σ63.1 11703).toInt + (q : Int) = 160 → inR (σ63.1 11703) 0 160 → Inv σ63 → Cor σ σ63 → Rd σ63 → R G l yX6_goOn cX6_goOn 1 none 2 0 0 (QV (fun w2 => ∃ σ2, w2 = WW σ2 ∧ Inv σ2 ∧ Cor σ σ2 ∧ Rd σ2)) 63 [(some (.ref 117))] [] (WW σ63) 0 0 := by
            intro q
            induction q with
            | zero =>
              intro σ63 hj63 hrg63 hI63 hC63 hX63_0
              have hM63_ : inR (σ63.1 11703) 160 160 := of_ti (by have z : (160 : Int32).toInt = 160 := (by decide); omega) (by have z : (160 : Int32).toInt = 160 := (by decide); omega)
              refine R_aload_n (pc := 63) dX6_goOn_63 rfl rfl ?_
              refine g_X6_21 (pc := 64) (v := .int (σ63.1 11703)) rfl dX6_goOn_64 (c_117 _) rfl ?_
              refine R_aload_n (pc := 67) dX6_goOn_67 rfl rfl ?_
              refine g_X6_43 (pc := 68) (v := .int (σ63.1 11701)) rfl dX6_goOn_68 (c_117 _) rfl ?_
              refine R_icge (pc := 71) 111 dX6_goOn_71 (by decide) (fun _ => ?_) (fun h => False.elim (by have q1 := ti_nle h; have q2 := ti_in (show inR (σ63.1 11703) 160 160 from hM63_); have q3 := ti_in (show inR (σ63.1 11701) 0 160 from (iv_11701 hI63)); have z0 : (0 : Int32).toInt = 0 := (by decide);  have z1 : (11701 : Int32).toInt = 11701 := (by decide);  have z2 : (11703 : Int32).toInt = 11703 := (by decide);  have z3 : (160 : Int32).toInt = 160 := (by decide); omega))
              exact R_vret (pc := 111) dX6_goOn_111 rfl (Nat.zero_le _) (Nat.zero_le _) ⟨rfl, _, rfl, hI63, hC63, (show Rd σ63 from ⟨(show 0 ≤ ((σ63.1 11702) : Int32).toInt from by have q0 := he; have q1 := hz; have q2 := hX8_0.1; have q3 := hX8_0.2; have q4 := e37; have q5 := hm39.1; have q6 := hm39.2; have q7 := hX63_0.1; have q8 := hX63_0.2.1; have q9 := hX63_0.2.2; have q10 := ti_nle b16_18; have q11 := ti_ne b30_35; have q12 := ti_in hE; have q13 := ti_in (iv_11701 hI); have q14 := ti_in (iv_11701 hI8); have q15 := ti_in hM8_; have q16 := ti_in r36; have q17 := ti_in r38; have q18 := ti_in (rd_s hI63 hX63_0); have q19 := ti_in hM63_; have q20 := ti_in (iv_11701 hI63); have z0 : (0 : Int32).toInt = 0 := (by decide); have z1 : (1 : Int32).toInt = 1 := (by decide); have z2 : (11701 : Int32).toInt = 11701 := (by decide); have z3 : (11702 : Int32).toInt = 11702 := (by decide); have z4 : (118 : Int32).toInt = 118 := (by decide); have z5 : (159 : Int32).toInt = 159 := (by decide); have z6 : (160 : Int32).toInt = 160 := (by decide); have z7 : (32 : Int32).toInt = 32 := (by decide); omega), (show ((σ63.1 11702) : Int32).toInt ≤ ((σ63.1 11703) : Int32).toInt from by have q0 := he; have q1 := hz; have q2 := hX8_0.1; have q3 := hX8_0.2; have q4 := e37; have q5 := hm39.1; have q6 := hm39.2; have q7 := hX63_0.1; have q8 := hX63_0.2.1; have q9 := hX63_0.2.2; have q10 := ti_nle b16_18; have q11 := ti_ne b30_35; have q12 := ti_in hE; have q13 := ti_in (iv_11701 hI); have q14 := ti_in (iv_11701 hI8); have q15 := ti_in hM8_; have q16 := ti_in r36; have q17 := ti_in r38; have q18 := ti_in (rd_s hI63 hX63_0); have q19 := ti_in hM63_; have q20 := ti_in (iv_11701 hI63); have z0 : (0 : Int32).toInt = 0 := (by decide); have z1 : (1 : Int32).toInt = 1 := (by decide); have z2 : (11701 : Int32).toInt = 11701 := (by decide); have z3 : (11702 : Int32).toInt = 11702 := (by decide); have z4 : (118 : Int32).toInt = 118 := (by decide); have z5 : (159 : Int32).toInt = 159 := (by decide); have z6 : (160 : Int32).toInt = 160 := (by decide); have z7 : (32 : Int32).toInt = 32 := (by decide); omega), (show ((σ63.1 11703) : Int32).toInt ≤ ((σ63.1 11701) : Int32).toInt from by have q0 := he; have q1 := hz; have q2 := hX8_0.1; have q3 := hX8_0.2; have q4 := e37; have q5 := hm39.1; have q6 := hm39.2; have q7 := hX63_0.1; have q8 := hX63_0.2.1; have q9 := hX63_0.2.2; have q10 := ti_nle b16_18; have q11 := ti_ne b30_35; have q12 := ti_in hE; have q13 := ti_in (iv_11701 hI); have q14 := ti_in (iv_11701 hI8); have q15 := ti_in hM8_; have q16 := ti_in r36; have q17 := ti_in r38; have q18 := ti_in (rd_s hI63 hX63_0); have q19 := ti_in hM63_; have q20 := ti_in (iv_11701 hI63); have z0 : (0 : Int32).toInt = 0 := (by decide); have z1 : (1 : Int32).toInt = 1 := (by decide); have z2 : (11701 : Int32).toInt = 11701 := (by decide); have z3 : (11702 : Int32).toInt = 11702 := (by decide); have z4 : (118 : Int32).toInt = 118 := (by decide); have z5 : (159 : Int32).toInt = 159 := (by decide); have z6 : (160 : Int32).toInt = 160 := (by decide); have z7 : (32 : Int32).toInt = 32 := (by decide); omega)⟩)⟩
            | succ q ih63 =>
              intro σ63 hj63 hrg63 hI63 hC63 hX63_0
              have hM63_ : inR (σ63.1 11703) 0 159 := of_ti (ti_in hrg63).1 (by have z : (159 : Int32).toInt = 159 := (by decide); omega)
              refine R_aload_n (pc := 63) dX6_goOn_63 rfl rfl ?_
              refine g_X6_21 (pc := 64) (v := .int (σ63.1 11703)) rfl dX6_goOn_64 (c_117 _) rfl ?_
              refine R_aload_n (pc := 67) dX6_goOn_67 rfl rfl ?_
              refine g_X6_43 (pc := 68) (v := .int (σ63.1 11701)) rfl dX6_goOn_68 (c_117 _) rfl ?_
              refine R_icge (pc := 71) 111 dX6_goOn_71 (by decide) (fun b71_42 => ?_) (fun b71_42 => ?_)
              · skip
                exact R_vret (pc := 111) dX6_goOn_111 rfl (Nat.zero_le _) (Nat.zero_le _) ⟨rfl, _, rfl, hI63, hC63, (show Rd σ63 from ⟨(show 0 ≤ ((σ63.1 11702) : Int32).toInt from by have q0 := he; have q1 := hz; have q2 := hX8_0.1; have q3 := hX8_0.2; have q4 := e37; have q5 := hm39.1; have q6 := hm39.2; have q7 := hX63_0.1; have q8 := hX63_0.2.1; have q9 := hX63_0.2.2; have q10 := ti_nle b16_18; have q11 := ti_ne b30_35; have q12 := ti_le b71_42; have q13 := ti_in hE; have q14 := ti_in (iv_11701 hI); have q15 := ti_in (iv_11701 hI8); have q16 := ti_in hM8_; have q17 := ti_in r36; have q18 := ti_in r38; have q19 := ti_in (rd_s hI63 hX63_0); have q20 := ti_in hM63_; have q21 := ti_in (iv_11701 hI63); have z0 : (0 : Int32).toInt = 0 := (by decide); have z1 : (1 : Int32).toInt = 1 := (by decide); have z2 : (11701 : Int32).toInt = 11701 := (by decide); have z3 : (11702 : Int32).toInt = 11702 := (by decide); have z4 : (11703 : Int32).toInt = 11703 := (by decide); have z5 : (118 : Int32).toInt = 118 := (by decide); have z6 : (159 : Int32).toInt = 159 := (by decide); have z7 : (160 : Int32).toInt = 160 := (by decide); have z8 : (32 : Int32).toInt = 32 := (by decide); omega), (show ((σ63.1 11702) : Int32).toInt ≤ ((σ63.1 11703) : Int32).toInt from by have q0 := he; have q1 := hz; have q2 := hX8_0.1; have q3 := hX8_0.2; have q4 := e37; have q5 := hm39.1; have q6 := hm39.2; have q7 := hX63_0.1; have q8 := hX63_0.2.1; have q9 := hX63_0.2.2; have q10 := ti_nle b16_18; have q11 := ti_ne b30_35; have q12 := ti_le b71_42; have q13 := ti_in hE; have q14 := ti_in (iv_11701 hI); have q15 := ti_in (iv_11701 hI8); have q16 := ti_in hM8_; have q17 := ti_in r36; have q18 := ti_in r38; have q19 := ti_in (rd_s hI63 hX63_0); have q20 := ti_in hM63_; have q21 := ti_in (iv_11701 hI63); have z0 : (0 : Int32).toInt = 0 := (by decide); have z1 : (1 : Int32).toInt = 1 := (by decide); have z2 : (11701 : Int32).toInt = 11701 := (by decide); have z3 : (11702 : Int32).toInt = 11702 := (by decide); have z4 : (11703 : Int32).toInt = 11703 := (by decide); have z5 : (118 : Int32).toInt = 118 := (by decide); have z6 : (159 : Int32).toInt = 159 := (by decide); have z7 : (160 : Int32).toInt = 160 := (by decide); have z8 : (32 : Int32).toInt = 32 := (by decide); omega), (show ((σ63.1 11703) : Int32).toInt ≤ ((σ63.1 11701) : Int32).toInt from by have q0 := he; have q1 := hz; have q2 := hX8_0.1; have q3 := hX8_0.2; have q4 := e37; have q5 := hm39.1; have q6 := hm39.2; have q7 := hX63_0.1; have q8 := hX63_0.2.1; have q9 := hX63_0.2.2; have q10 := ti_nle b16_18; have q11 := ti_ne b30_35; have q12 := ti_le b71_42; have q13 := ti_in hE; have q14 := ti_in (iv_11701 hI); have q15 := ti_in (iv_11701 hI8); have q16 := ti_in hM8_; have q17 := ti_in r36; have q18 := ti_in r38; have q19 := ti_in (rd_s hI63 hX63_0); have q20 := ti_in hM63_; have q21 := ti_in (iv_11701 hI63); have z0 : (0 : Int32).toInt = 0 := (by decide); have z1 : (1 : Int32).toInt = 1 := (by decide); have z2 : (11701 : Int32).toInt = 11701 := (by decide); have z3 : (11702 : Int32).toInt = 11702 := (by decide); have z4 : (11703 : Int32).toInt = 11703 := (by decide); have z5 : (118 : Int32).toInt = 118 := (by decide); have z6 : (159 : Int32).toInt = 159 := (by decide); have z7 : (160 : Int32).toInt = 160 := (by decide); have z8 : (32 : Int32).toInt = 32 := (by decide); omega)⟩)⟩
              · skip
                refine R_aload_n (pc := 74) dX6_goOn_74 rfl rfl ?_
                refine g_X6_9 (pc := 75) (v := .ref 118) rfl dX6_goOn_75 (c_117 _) rfl ?_
                refine R_aload_n (pc := 78) dX6_goOn_78 rfl rfl ?_
                refine g_X6_40 (pc := 79) (v := .int (σ63.1 11702)) rfl dX6_goOn_79 (c_117 _) rfl ?_
                have hx43 : vp_in (σ63.1 11702) 160 := (vp_ti (by have q0 := he; have q1 := hz; have q2 := hX8_0.1; have q3 := hX8_0.2; have q4 := e37; have q5 := hm39.1; have q6 := hm39.2; have q7 := hX63_0.1; have q8 := hX63_0.2.1; have q9 := hX63_0.2.2; have q10 := ti_nle b16_18; have q11 := ti_ne b30_35; have q12 := ti_nle b71_42; have q13 := ti_in hE; have q14 := ti_in (iv_11701 hI); have q15 := ti_in (iv_11701 hI8); have q16 := ti_in hM8_; have q17 := ti_in r36; have q18 := ti_in r38; have q19 := ti_in (rd_s hI63 hX63_0); have q20 := ti_in hM63_; have q21 := ti_in (iv_11701 hI63); have z0 : (0 : Int32).toInt = 0 := (by decide); have z1 : (1 : Int32).toInt = 1 := (by decide); have z2 : (11701 : Int32).toInt = 11701 := (by decide); have z3 : (11702 : Int32).toInt = 11702 := (by decide); have z4 : (11703 : Int32).toInt = 11703 := (by decide); have z5 : (118 : Int32).toInt = 118 := (by decide); have z6 : (159 : Int32).toInt = 159 := (by decide); have z7 : (160 : Int32).toInt = 160 := (by decide); have z8 : (32 : Int32).toInt = 32 := (by decide); omega) (by have q0 := he; have q1 := hz; have q2 := hX8_0.1; have q3 := hX8_0.2; have q4 := e37; have q5 := hm39.1; have q6 := hm39.2; have q7 := hX63_0.1; have q8 := hX63_0.2.1; have q9 := hX63_0.2.2; have q10 := ti_nle b16_18; have q11 := ti_ne b30_35; have q12 := ti_nle b71_42; have q13 := ti_in hE; have q14 := ti_in (iv_11701 hI); have q15 := ti_in (iv_11701 hI8); have q16 := ti_in hM8_; have q17 := ti_in r36; have q18 := ti_in r38; have q19 := ti_in (rd_s hI63 hX63_0); have q20 := ti_in hM63_; have q21 := ti_in (iv_11701 hI63); have z0 : (0 : Int32).toInt = 0 := (by decide); have z1 : (1 : Int32).toInt = 1 := (by decide); have z2 : (11701 : Int32).toInt = 11701 := (by decide); have z3 : (11702 : Int32).toInt = 11702 := (by decide); have z4 : (11703 : Int32).toInt = 11703 := (by decide); have z5 : (118 : Int32).toInt = 118 := (by decide); have z6 : (159 : Int32).toInt = 159 := (by decide); have z7 : (160 : Int32).toInt = 160 := (by decide); have z8 : (32 : Int32).toInt = 32 := (by decide); omega))
                refine R_iaload (pc := 82) dX6_goOn_82 (c_118 _) hx43 ?_
                refine R_aload_n (pc := 83) dX6_goOn_83 rfl rfl ?_
                refine g_X6_9 (pc := 84) (v := .ref 118) rfl dX6_goOn_84 (c_117 _) rfl ?_
                refine R_aload_n (pc := 87) dX6_goOn_87 rfl rfl ?_
                refine g_X6_21 (pc := 88) (v := .int (σ63.1 11703)) rfl dX6_goOn_88 (c_117 _) rfl ?_
                have hx44 : vp_in (σ63.1 11703) 160 := (vp_of_inR hM63_ (by decide))
                refine R_iaload (pc := 91) dX6_goOn_91 (c_118 _) hx44 ?_
                refine k_X6_110 (pc := 92) (gx_X6_isOneRow _ _ _) rfl (by decide) (Nat.le_refl _) (Nat.le_refl _) (Nat.le_of_ble_eq_true rfl) dX6_goOn_92 (fun x w2 h => ?_)
                rcases h with ⟨rfl, rfl | rfl⟩
                · skip
                  refine R_ifeq (pc := 95) 111 dX6_goOn_95 (by decide) (fun h => absurd h (by decide)) (fun _ => ?_)
                  refine R_aload_n (pc := 98) dX6_goOn_98 rfl rfl ?_
                  refine R_dup (pc := 99) dX6_goOn_99 rfl ?_
                  refine g_X6_21 (pc := 100) (v := .int (σ63.1 11703)) rfl dX6_goOn_100 (c_117 _) rfl ?_
                  refine R_iconst (pc := 103) (v := 1) dX6_goOn_103 (by decide) ?_
                  refine R_iadd (pc := 104) dX6_goOn_104 ?_
                  have r47 : inR ((σ63.1 11703) + 1) 1 160 := inR_add (show inR (σ63.1 11703) 0 159 from hM63_) (show inR 1 1 1 from (inR_self _)) (by decide) (by decide)
                  have e48 := ti_add (l := 1) (h := 160) (show inR (σ63.1 11703) 0 159 from hM63_) (show inR 1 1 1 from (inR_self _)) (by decide) (by decide)
                  refine p_X6_21 (pc := 105) rfl dX6_goOn_105 (c_117 _) (Nat.le_of_ble_eq_true rfl) rfl rfl (s_117_3 _ _) ?_
                  have hW49 := cor_si 11703 ((σ63.1 11703) + 1) hC63 rfl
                  refine R_goto (pc := 108) 63 dX6_goOn_108 (by decide) ?_
                  exact ih63 _ (show (((σ63.1 11703) + 1) : Int32).toInt + (q : Int) = 160 from by have q0 := he; have q1 := hz; have q2 := hX8_0.1; have q3 := hX8_0.2; have q4 := e37; have q5 := hm39.1; have q6 := hm39.2; have q7 := hX63_0.1; have q8 := hX63_0.2.1; have q9 := hX63_0.2.2; have q10 := e48; have q11 := ti_nle b16_18; have q12 := ti_ne b30_35; have q13 := ti_nle b71_42; have q14 := ti_in hE; have q15 := ti_in (iv_11701 hI); have q16 := ti_in (iv_11701 hI8); have q17 := ti_in hM8_; have q18 := ti_in r36; have q19 := ti_in r38; have q20 := ti_in (rd_s hI63 hX63_0); have q21 := ti_in hM63_; have q22 := ti_in (iv_11701 hI63); have q23 := ti_in r47; have q24 := hj63; have z0 : (0 : Int32).toInt = 0 := (by decide); have z1 : (1 : Int32).toInt = 1 := (by decide); have z2 : (11701 : Int32).toInt = 11701 := (by decide); have z3 : (11702 : Int32).toInt = 11702 := (by decide); have z4 : (11703 : Int32).toInt = 11703 := (by decide); have z5 : (118 : Int32).toInt = 118 := (by decide); have z6 : (159 : Int32).toInt = 159 := (by decide); have z7 : (160 : Int32).toInt = 160 := (by decide); have z8 : (32 : Int32).toInt = 32 := (by decide); omega) (inR_up r47 (by decide) (by decide)) hI63 hW49 (show Rd (uI σ63 11703 ((σ63.1 11703) + 1)) from ⟨(show 0 ≤ ((σ63.1 11702) : Int32).toInt from by have q0 := he; have q1 := hz; have q2 := hX8_0.1; have q3 := hX8_0.2; have q4 := e37; have q5 := hm39.1; have q6 := hm39.2; have q7 := hX63_0.1; have q8 := hX63_0.2.1; have q9 := hX63_0.2.2; have q10 := e48; have q11 := ti_nle b16_18; have q12 := ti_ne b30_35; have q13 := ti_nle b71_42; have q14 := ti_in hE; have q15 := ti_in (iv_11701 hI); have q16 := ti_in (iv_11701 hI8); have q17 := ti_in hM8_; have q18 := ti_in r36; have q19 := ti_in r38; have q20 := ti_in (rd_s hI63 hX63_0); have q21 := ti_in hM63_; have q22 := ti_in (iv_11701 hI63); have q23 := ti_in r47; have z0 : (0 : Int32).toInt = 0 := (by decide); have z1 : (1 : Int32).toInt = 1 := (by decide); have z2 : (11701 : Int32).toInt = 11701 := (by decide); have z3 : (11702 : Int32).toInt = 11702 := (by decide); have z4 : (11703 : Int32).toInt = 11703 := (by decide); have z5 : (118 : Int32).toInt = 118 := (by decide); have z6 : (159 : Int32).toInt = 159 := (by decide); have z7 : (160 : Int32).toInt = 160 := (by decide); have z8 : (32 : Int32).toInt = 32 := (by decide); omega), (show ((σ63.1 11702) : Int32).toInt ≤ (((σ63.1 11703) + 1) : Int32).toInt from by have q0 := he; have q1 := hz; have q2 := hX8_0.1; have q3 := hX8_0.2; have q4 := e37; have q5 := hm39.1; have q6 := hm39.2; have q7 := hX63_0.1; have q8 := hX63_0.2.1; have q9 := hX63_0.2.2; have q10 := e48; have q11 := ti_nle b16_18; have q12 := ti_ne b30_35; have q13 := ti_nle b71_42; have q14 := ti_in hE; have q15 := ti_in (iv_11701 hI); have q16 := ti_in (iv_11701 hI8); have q17 := ti_in hM8_; have q18 := ti_in r36; have q19 := ti_in r38; have q20 := ti_in (rd_s hI63 hX63_0); have q21 := ti_in hM63_; have q22 := ti_in (iv_11701 hI63); have q23 := ti_in r47; have z0 : (0 : Int32).toInt = 0 := (by decide); have z1 : (1 : Int32).toInt = 1 := (by decide); have z2 : (11701 : Int32).toInt = 11701 := (by decide); have z3 : (11702 : Int32).toInt = 11702 := (by decide); have z4 : (11703 : Int32).toInt = 11703 := (by decide); have z5 : (118 : Int32).toInt = 118 := (by decide); have z6 : (159 : Int32).toInt = 159 := (by decide); have z7 : (160 : Int32).toInt = 160 := (by decide); have z8 : (32 : Int32).toInt = 32 := (by decide); omega), (show (((σ63.1 11703) + 1) : Int32).toInt ≤ ((σ63.1 11701) : Int32).toInt from by have q0 := he; have q1 := hz; have q2 := hX8_0.1; have q3 := hX8_0.2; have q4 := e37; have q5 := hm39.1; have q6 := hm39.2; have q7 := hX63_0.1; have q8 := hX63_0.2.1; have q9 := hX63_0.2.2; have q10 := e48; have q11 := ti_nle b16_18; have q12 := ti_ne b30_35; have q13 := ti_nle b71_42; have q14 := ti_in hE; have q15 := ti_in (iv_11701 hI); have q16 := ti_in (iv_11701 hI8); have q17 := ti_in hM8_; have q18 := ti_in r36; have q19 := ti_in r38; have q20 := ti_in (rd_s hI63 hX63_0); have q21 := ti_in hM63_; have q22 := ti_in (iv_11701 hI63); have q23 := ti_in r47; have z0 : (0 : Int32).toInt = 0 := (by decide); have z1 : (1 : Int32).toInt = 1 := (by decide); have z2 : (11701 : Int32).toInt = 11701 := (by decide); have z3 : (11702 : Int32).toInt = 11702 := (by decide); have z4 : (11703 : Int32).toInt = 11703 := (by decide); have z5 : (118 : Int32).toInt = 118 := (by decide); have z6 : (159 : Int32).toInt = 159 := (by decide); have z7 : (160 : Int32).toInt = 160 := (by decide); have z8 : (32 : Int32).toInt = 32 := (by decide); omega)⟩)
                · skip
                  refine R_ifeq (pc := 95) 111 dX6_goOn_95 (by decide) (fun _ => ?_) (fun h => absurd (by decide) h)
                  exact R_vret (pc := 111) dX6_goOn_111 rfl (Nat.zero_le _) (Nat.zero_le _) ⟨rfl, _, rfl, hI63, hC63, (show Rd σ63 from ⟨(show 0 ≤ ((σ63.1 11702) : Int32).toInt from by have q0 := he; have q1 := hz; have q2 := hX8_0.1; have q3 := hX8_0.2; have q4 := e37; have q5 := hm39.1; have q6 := hm39.2; have q7 := hX63_0.1; have q8 := hX63_0.2.1; have q9 := hX63_0.2.2; have q10 := ti_nle b16_18; have q11 := ti_ne b30_35; have q12 := ti_nle b71_42; have q13 := ti_in hE; have q14 := ti_in (iv_11701 hI); have q15 := ti_in (iv_11701 hI8); have q16 := ti_in hM8_; have q17 := ti_in r36; have q18 := ti_in r38; have q19 := ti_in (rd_s hI63 hX63_0); have q20 := ti_in hM63_; have q21 := ti_in (iv_11701 hI63); have z0 : (0 : Int32).toInt = 0 := (by decide); have z1 : (1 : Int32).toInt = 1 := (by decide); have z2 : (11701 : Int32).toInt = 11701 := (by decide); have z3 : (11702 : Int32).toInt = 11702 := (by decide); have z4 : (11703 : Int32).toInt = 11703 := (by decide); have z5 : (118 : Int32).toInt = 118 := (by decide); have z6 : (159 : Int32).toInt = 159 := (by decide); have z7 : (160 : Int32).toInt = 160 := (by decide); have z8 : (32 : Int32).toInt = 32 := (by decide); omega), (show ((σ63.1 11702) : Int32).toInt ≤ ((σ63.1 11703) : Int32).toInt from by have q0 := he; have q1 := hz; have q2 := hX8_0.1; have q3 := hX8_0.2; have q4 := e37; have q5 := hm39.1; have q6 := hm39.2; have q7 := hX63_0.1; have q8 := hX63_0.2.1; have q9 := hX63_0.2.2; have q10 := ti_nle b16_18; have q11 := ti_ne b30_35; have q12 := ti_nle b71_42; have q13 := ti_in hE; have q14 := ti_in (iv_11701 hI); have q15 := ti_in (iv_11701 hI8); have q16 := ti_in hM8_; have q17 := ti_in r36; have q18 := ti_in r38; have q19 := ti_in (rd_s hI63 hX63_0); have q20 := ti_in hM63_; have q21 := ti_in (iv_11701 hI63); have z0 : (0 : Int32).toInt = 0 := (by decide); have z1 : (1 : Int32).toInt = 1 := (by decide); have z2 : (11701 : Int32).toInt = 11701 := (by decide); have z3 : (11702 : Int32).toInt = 11702 := (by decide); have z4 : (11703 : Int32).toInt = 11703 := (by decide); have z5 : (118 : Int32).toInt = 118 := (by decide); have z6 : (159 : Int32).toInt = 159 := (by decide); have z7 : (160 : Int32).toInt = 160 := (by decide); have z8 : (32 : Int32).toInt = 32 := (by decide); omega), (show ((σ63.1 11703) : Int32).toInt ≤ ((σ63.1 11701) : Int32).toInt from by have q0 := he; have q1 := hz; have q2 := hX8_0.1; have q3 := hX8_0.2; have q4 := e37; have q5 := hm39.1; have q6 := hm39.2; have q7 := hX63_0.1; have q8 := hX63_0.2.1; have q9 := hX63_0.2.2; have q10 := ti_nle b16_18; have q11 := ti_ne b30_35; have q12 := ti_nle b71_42; have q13 := ti_in hE; have q14 := ti_in (iv_11701 hI); have q15 := ti_in (iv_11701 hI8); have q16 := ti_in hM8_; have q17 := ti_in r36; have q18 := ti_in r38; have q19 := ti_in (rd_s hI63 hX63_0); have q20 := ti_in hM63_; have q21 := ti_in (iv_11701 hI63); have z0 : (0 : Int32).toInt = 0 := (by decide); have z1 : (1 : Int32).toInt = 1 := (by decide); have z2 : (11701 : Int32).toInt = 11701 := (by decide); have z3 : (11702 : Int32).toInt = 11702 := (by decide); have z4 : (11703 : Int32).toInt = 11703 := (by decide); have z5 : (118 : Int32).toInt = 118 := (by decide); have z6 : (159 : Int32).toInt = 159 := (by decide); have z7 : (160 : Int32).toInt = 160 := (by decide); have z8 : (32 : Int32).toInt = 32 := (by decide); omega)⟩)⟩
          exact HL63 ((160 : Int) - ((if (σ8.1 11701) < ((σ8.1 11702) + 1) then (σ8.1 11701) else ((σ8.1 11702) + 1)) : Int32).toInt).toNat _ (show ((if (σ8.1 11701) < ((σ8.1 11702) + 1) then (σ8.1 11701) else ((σ8.1 11702) + 1)) : Int32).toInt + ((((160 : Int) - ((if (σ8.1 11701) < ((σ8.1 11702) + 1) then (σ8.1 11701) else ((σ8.1 11702) + 1)) : Int32).toInt).toNat : Nat) : Int) = 160 from by have q0 := he; have q1 := hz; have q2 := hX8_0.1; have q3 := hX8_0.2; have q4 := e37; have q5 := hm39.1; have q6 := hm39.2; have q7 := ti_nle b16_18; have q8 := ti_ne b30_35; have q9 := ti_in hE; have q10 := ti_in (iv_11701 hI); have q11 := ti_in (iv_11701 hI8); have q12 := ti_in hM8_; have q13 := ti_in r36; have q14 := ti_in r38; have z0 : (0 : Int32).toInt = 0 := (by decide); have z1 : (1 : Int32).toInt = 1 := (by decide); have z2 : (11701 : Int32).toInt = 11701 := (by decide); have z3 : (11702 : Int32).toInt = 11702 := (by decide); have z4 : (118 : Int32).toInt = 118 := (by decide); have z5 : (159 : Int32).toInt = 159 := (by decide); have z6 : (160 : Int32).toInt = 160 := (by decide); have z7 : (32 : Int32).toInt = 32 := (by decide); omega) r38 hI8 hW40 (show Rd (uI σ8 11703 (if (σ8.1 11701) < ((σ8.1 11702) + 1) then (σ8.1 11701) else ((σ8.1 11702) + 1))) from ⟨(show 0 ≤ ((σ8.1 11702) : Int32).toInt from by have q0 := he; have q1 := hz; have q2 := hX8_0.1; have q3 := hX8_0.2; have q4 := e37; have q5 := hm39.1; have q6 := hm39.2; have q7 := ti_nle b16_18; have q8 := ti_ne b30_35; have q9 := ti_in hE; have q10 := ti_in (iv_11701 hI); have q11 := ti_in (iv_11701 hI8); have q12 := ti_in hM8_; have q13 := ti_in r36; have q14 := ti_in r38; have z0 : (0 : Int32).toInt = 0 := (by decide); have z1 : (1 : Int32).toInt = 1 := (by decide); have z2 : (11701 : Int32).toInt = 11701 := (by decide); have z3 : (11702 : Int32).toInt = 11702 := (by decide); have z4 : (118 : Int32).toInt = 118 := (by decide); have z5 : (159 : Int32).toInt = 159 := (by decide); have z6 : (160 : Int32).toInt = 160 := (by decide); have z7 : (32 : Int32).toInt = 32 := (by decide); omega), (show ((σ8.1 11702) : Int32).toInt ≤ ((if (σ8.1 11701) < ((σ8.1 11702) + 1) then (σ8.1 11701) else ((σ8.1 11702) + 1)) : Int32).toInt from by have q0 := he; have q1 := hz; have q2 := hX8_0.1; have q3 := hX8_0.2; have q4 := e37; have q5 := hm39.1; have q6 := hm39.2; have q7 := ti_nle b16_18; have q8 := ti_ne b30_35; have q9 := ti_in hE; have q10 := ti_in (iv_11701 hI); have q11 := ti_in (iv_11701 hI8); have q12 := ti_in hM8_; have q13 := ti_in r36; have q14 := ti_in r38; have z0 : (0 : Int32).toInt = 0 := (by decide); have z1 : (1 : Int32).toInt = 1 := (by decide); have z2 : (11701 : Int32).toInt = 11701 := (by decide); have z3 : (11702 : Int32).toInt = 11702 := (by decide); have z4 : (118 : Int32).toInt = 118 := (by decide); have z5 : (159 : Int32).toInt = 159 := (by decide); have z6 : (160 : Int32).toInt = 160 := (by decide); have z7 : (32 : Int32).toInt = 32 := (by decide); omega), (show ((if (σ8.1 11701) < ((σ8.1 11702) + 1) then (σ8.1 11701) else ((σ8.1 11702) + 1)) : Int32).toInt ≤ ((σ8.1 11701) : Int32).toInt from by have q0 := he; have q1 := hz; have q2 := hX8_0.1; have q3 := hX8_0.2; have q4 := e37; have q5 := hm39.1; have q6 := hm39.2; have q7 := ti_nle b16_18; have q8 := ti_ne b30_35; have q9 := ti_in hE; have q10 := ti_in (iv_11701 hI); have q11 := ti_in (iv_11701 hI8); have q12 := ti_in hM8_; have q13 := ti_in r36; have q14 := ti_in r38; have z0 : (0 : Int32).toInt = 0 := (by decide); have z1 : (1 : Int32).toInt = 1 := (by decide); have z2 : (11701 : Int32).toInt = 11701 := (by decide); have z3 : (11702 : Int32).toInt = 11702 := (by decide); have z4 : (118 : Int32).toInt = 118 := (by decide); have z5 : (159 : Int32).toInt = 159 := (by decide); have z6 : (160 : Int32).toInt = 160 := (by decide); have z7 : (32 : Int32).toInt = 32 := (by decide); omega)⟩)
        · skip
          refine R_aload_n (pc := 33) dX6_goOn_33 rfl rfl ?_
          refine R_dup (pc := 34) dX6_goOn_34 rfl ?_
          refine g_X6_40 (pc := 35) (v := .int (σ8.1 11702)) rfl dX6_goOn_35 (c_117 _) rfl ?_
          refine R_iconst (pc := 38) (v := 1) dX6_goOn_38 (by decide) ?_
          refine R_iadd (pc := 39) dX6_goOn_39 ?_
          have r51 : inR ((σ8.1 11702) + 1) 1 160 := inR_add (show inR (σ8.1 11702) 0 159 from hM8_) (show inR 1 1 1 from (inR_self _)) (by decide) (by decide)
          have e52 := ti_add (l := 1) (h := 160) (show inR (σ8.1 11702) 0 159 from hM8_) (show inR 1 1 1 from (inR_self _)) (by decide) (by decide)
          refine p_X6_40 (pc := 40) rfl dX6_goOn_40 (c_117 _) (Nat.le_of_ble_eq_true rfl) rfl rfl (s_117_2 _ _) ?_
          have hW53 := cor_si 11702 ((σ8.1 11702) + 1) hC8 rfl
          refine R_goto (pc := 43) 8 dX6_goOn_43 (by decide) ?_
          exact ih8 _ (show (((σ8.1 11702) + 1) : Int32).toInt + (q : Int) = 160 from by have q0 := he; have q1 := hz; have q2 := hX8_0.1; have q3 := hX8_0.2; have q4 := e52; have q5 := ti_nle b16_18; have q6 := ti_eq b30_35; have q7 := ti_in hE; have q8 := ti_in (iv_11701 hI); have q9 := ti_in (iv_11701 hI8); have q10 := ti_in hM8_; have q11 := ti_in r51; have q12 := hj8; have z0 : (0 : Int32).toInt = 0 := (by decide); have z1 : (1 : Int32).toInt = 1 := (by decide); have z2 : (11701 : Int32).toInt = 11701 := (by decide); have z3 : (11702 : Int32).toInt = 11702 := (by decide); have z4 : (118 : Int32).toInt = 118 := (by decide); have z5 : (159 : Int32).toInt = 159 := (by decide); have z6 : (160 : Int32).toInt = 160 := (by decide); have z7 : (32 : Int32).toInt = 32 := (by decide); omega) (inR_up r51 (by decide) (by decide)) hI8 hW53 ⟨(show 0 ≤ (((σ8.1 11702) + 1) : Int32).toInt from by have q0 := he; have q1 := hz; have q2 := hX8_0.1; have q3 := hX8_0.2; have q4 := e52; have q5 := ti_nle b16_18; have q6 := ti_eq b30_35; have q7 := ti_in hE; have q8 := ti_in (iv_11701 hI); have q9 := ti_in (iv_11701 hI8); have q10 := ti_in hM8_; have q11 := ti_in r51; have z0 : (0 : Int32).toInt = 0 := (by decide); have z1 : (1 : Int32).toInt = 1 := (by decide); have z2 : (11701 : Int32).toInt = 11701 := (by decide); have z3 : (11702 : Int32).toInt = 11702 := (by decide); have z4 : (118 : Int32).toInt = 118 := (by decide); have z5 : (159 : Int32).toInt = 159 := (by decide); have z6 : (160 : Int32).toInt = 160 := (by decide); have z7 : (32 : Int32).toInt = 32 := (by decide); omega), (show (((σ8.1 11702) + 1) : Int32).toInt ≤ ((σ8.1 11701) : Int32).toInt from by have q0 := he; have q1 := hz; have q2 := hX8_0.1; have q3 := hX8_0.2; have q4 := e52; have q5 := ti_nle b16_18; have q6 := ti_eq b30_35; have q7 := ti_in hE; have q8 := ti_in (iv_11701 hI); have q9 := ti_in (iv_11701 hI8); have q10 := ti_in hM8_; have q11 := ti_in r51; have z0 : (0 : Int32).toInt = 0 := (by decide); have z1 : (1 : Int32).toInt = 1 := (by decide); have z2 : (11701 : Int32).toInt = 11701 := (by decide); have z3 : (11702 : Int32).toInt = 11702 := (by decide); have z4 : (118 : Int32).toInt = 118 := (by decide); have z5 : (159 : Int32).toInt = 159 := (by decide); have z6 : (160 : Int32).toInt = 160 := (by decide); have z7 : (32 : Int32).toInt = 32 := (by decide); omega)⟩
  exact HL8 ((160 : Int) - ((σ.1 11703) : Int32).toInt).toNat _ (show ((σ.1 11703) : Int32).toInt + ((((160 : Int) - ((σ.1 11703) : Int32).toInt).toNat : Nat) : Int) = 160 from by have q0 := he; have q1 := hz; have q2 := ti_in hE; have q3 := ti_in (iv_11701 hI); have z0 : (0 : Int32).toInt = 0 := (by decide); have z1 : (1 : Int32).toInt = 1 := (by decide); have z2 : (160 : Int32).toInt = 160 := (by decide); omega) hE hI hW1 ⟨(show 0 ≤ ((σ.1 11703) : Int32).toInt from by have q0 := he; have q1 := hz; have q2 := ti_in hE; have q3 := ti_in (iv_11701 hI); have z0 : (0 : Int32).toInt = 0 := (by decide); have z1 : (1 : Int32).toInt = 1 := (by decide); have z2 : (160 : Int32).toInt = 160 := (by decide); omega), (show ((σ.1 11703) : Int32).toInt ≤ ((σ.1 11701) : Int32).toInt from by have q0 := he; have q1 := hz; have q2 := ti_in hE; have q3 := ti_in (iv_11701 hI); have z0 : (0 : Int32).toInt = 0 := (by decide); have z1 : (1 : Int32).toInt = 1 := (by decide); have z2 : (160 : Int32).toInt = 160 := (by decide); omega)⟩
theorem dX6_readWord_0 : decode cX6_readWord 0 = .ok (.aload_n 0, 1) := by decide +kernel
theorem dX6_readWord_1 : decode cX6_readWord 1 = .ok (.getfield 24, 3) := by decide +kernel
theorem dX6_readWord_4 : decode cX6_readWord 4 = .ok (.iconst (-1), 1) := by decide +kernel
theorem dX6_readWord_5 : decode cX6_readWord 5 = .ok (.if_icmp .ne 18, 3) := by decide +kernel
theorem dX6_readWord_8 : decode cX6_readWord 8 = .ok (.aload_n 0, 1) := by decide +kernel
theorem dX6_readWord_9 : decode cX6_readWord 9 = .ok (.aload_n 1, 1) := by decide +kernel
theorem dX6_readWord_10 : decode cX6_readWord 10 = .ok (.invokevirtual 36, 3) := by decide +kernel
theorem dX6_readWord_13 : decode cX6_readWord 13 = .ok (.ifCond .eq 10, 3) := by decide +kernel
theorem dX6_readWord_16 : decode cX6_readWord 16 = .ok (.aload_n 0, 1) := by decide +kernel
theorem dX6_readWord_17 : decode cX6_readWord 17 = .ok (.invokevirtual 27, 3) := by decide +kernel
theorem dX6_readWord_20 : decode cX6_readWord 20 = .ok (.goto 7, 3) := by decide +kernel
theorem dX6_readWord_23 : decode cX6_readWord 23 = .ok (.aload_n 0, 1) := by decide +kernel
theorem dX6_readWord_24 : decode cX6_readWord 24 = .ok (.invokevirtual 44, 3) := by decide +kernel
theorem dX6_readWord_27 : decode cX6_readWord 27 = .ok (.return_, 1) := by decide +kernel
set_option maxRecDepth 100000 in
set_option maxHeartbeats 40000000 in
theorem gx_X6_readWord_0 {G : vG} {l : Launch} (σ : Sg)  (hI : Inv σ) (hR : Rd σ) : Sp G l yX6_readWord cX6_readWord 2 none 6 0 0 [.ref 117, .ref 1000000] (WW σ) (QV (fun w2 => ∃ σ2, w2 = WW σ2 ∧ Inv σ2 ∧ Cor σ σ2 ∧ Rd σ2)) := by
  refine Sp_of_R [(some (.ref 117)), (some (.ref 1000000))] [] rfl (by simp) rfl (Nat.le_of_ble_eq_true rfl) ?_
  refine R_aload_n (pc := 0) dX6_readWord_0 rfl rfl ?_
  refine g_X6_24 (pc := 1) (v := .int (σ.1 11704)) rfl dX6_readWord_1 (c_117 _) rfl ?_
  refine R_iconst (pc := 4) (v := (-1)) dX6_readWord_4 (by decide) ?_
  refine R_icne (pc := 5) 23 dX6_readWord_5 (by decide) (fun b5_1 => ?_) (fun b5_1 => ?_)
  · skip
    refine R_aload_n (pc := 23) dX6_readWord_23 rfl rfl ?_
    refine k_X6_44 (pc := 24) (gx_X6_findWrong _ hI hR) rfl (c_117 _) (by decide) (Nat.le_refl _) (Nat.le_refl _) (Nat.le_of_ble_eq_true rfl) dX6_readWord_24 (fun w2 h => ?_)
    obtain ⟨σx4, rfl, hV3, hW6, hR5⟩ := h
    have hW7 := Cor.trans (show Cor σ σ from Cor.rfl' σ) hW6
    exact R_vret (pc := 27) dX6_readWord_27 rfl (Nat.zero_le _) (Nat.zero_le _) ⟨rfl, _, rfl, hV3, hW7, (show Rd σx4 from ⟨(show 0 ≤ ((σx4.1 11702) : Int32).toInt from by have q0 := hR.1; have q1 := hR.2.1; have q2 := hR.2.2; have q3 := hR5.1; have q4 := hR5.2.1; have q5 := hR5.2.2; have q6 := ti_ne b5_1; have q7 := ti_in (rd_s hI hR); have q8 := ti_in (rd_e hI hR); have q9 := ti_in (iv_11701 hI); have q10 := ti_in (rd_s hV3 hR5); have q11 := ti_in (rd_e hV3 hR5); have q12 := ti_in (iv_11701 hV3); have z0 : (-1 : Int32).toInt = -1 := (by decide); have z1 : (0 : Int32).toInt = 0 := (by decide); have z2 : (1 : Int32).toInt = 1 := (by decide); have z3 : (11704 : Int32).toInt = 11704 := (by decide); have z4 : (160 : Int32).toInt = 160 := (by decide); omega), (show ((σx4.1 11702) : Int32).toInt ≤ ((σx4.1 11703) : Int32).toInt from by have q0 := hR.1; have q1 := hR.2.1; have q2 := hR.2.2; have q3 := hR5.1; have q4 := hR5.2.1; have q5 := hR5.2.2; have q6 := ti_ne b5_1; have q7 := ti_in (rd_s hI hR); have q8 := ti_in (rd_e hI hR); have q9 := ti_in (iv_11701 hI); have q10 := ti_in (rd_s hV3 hR5); have q11 := ti_in (rd_e hV3 hR5); have q12 := ti_in (iv_11701 hV3); have z0 : (-1 : Int32).toInt = -1 := (by decide); have z1 : (0 : Int32).toInt = 0 := (by decide); have z2 : (1 : Int32).toInt = 1 := (by decide); have z3 : (11704 : Int32).toInt = 11704 := (by decide); have z4 : (160 : Int32).toInt = 160 := (by decide); omega), (show ((σx4.1 11703) : Int32).toInt ≤ ((σx4.1 11701) : Int32).toInt from by have q0 := hR.1; have q1 := hR.2.1; have q2 := hR.2.2; have q3 := hR5.1; have q4 := hR5.2.1; have q5 := hR5.2.2; have q6 := ti_ne b5_1; have q7 := ti_in (rd_s hI hR); have q8 := ti_in (rd_e hI hR); have q9 := ti_in (iv_11701 hI); have q10 := ti_in (rd_s hV3 hR5); have q11 := ti_in (rd_e hV3 hR5); have q12 := ti_in (iv_11701 hV3); have z0 : (-1 : Int32).toInt = -1 := (by decide); have z1 : (0 : Int32).toInt = 0 := (by decide); have z2 : (1 : Int32).toInt = 1 := (by decide); have z3 : (11704 : Int32).toInt = 11704 := (by decide); have z4 : (160 : Int32).toInt = 160 := (by decide); omega)⟩)⟩
  · skip
    refine R_aload_n (pc := 8) dX6_readWord_8 rfl rfl ?_
    refine R_aload_n (pc := 9) dX6_readWord_9 rfl rfl ?_
    refine k_X6_36 (pc := 10) (gx_X6_isAt_0 _ hI hR) rfl (c_117 _) (by decide) (Nat.le_refl _) (Nat.le_refl _) (Nat.le_of_ble_eq_true rfl) dX6_readWord_10 (fun x w2 h => ?_)
    rcases h with ⟨rfl, rfl | rfl⟩
    · skip
      refine R_ifeq (pc := 13) 23 dX6_readWord_13 (by decide) (fun h => absurd h (by decide)) (fun _ => ?_)
      refine R_aload_n (pc := 16) dX6_readWord_16 rfl rfl ?_
      refine k_X6_27 (pc := 17) (gx_X6_goOn _ hI (show 0 ≤ ((σ.1 11703) : Int32).toInt from by have q0 := hR.1; have q1 := hR.2.1; have q2 := hR.2.2; have q3 := ti_eq b5_1; have q4 := ti_in (rd_s hI hR); have q5 := ti_in (rd_e hI hR); have q6 := ti_in (iv_11701 hI); have z0 : (-1 : Int32).toInt = -1 := (by decide); have z1 : (0 : Int32).toInt = 0 := (by decide); have z2 : (1 : Int32).toInt = 1 := (by decide); have z3 : (11704 : Int32).toInt = 11704 := (by decide); have z4 : (160 : Int32).toInt = 160 := (by decide); omega) (show ((σ.1 11703) : Int32).toInt ≤ ((σ.1 11701) : Int32).toInt from by have q0 := hR.1; have q1 := hR.2.1; have q2 := hR.2.2; have q3 := ti_eq b5_1; have q4 := ti_in (rd_s hI hR); have q5 := ti_in (rd_e hI hR); have q6 := ti_in (iv_11701 hI); have z0 : (-1 : Int32).toInt = -1 := (by decide); have z1 : (0 : Int32).toInt = 0 := (by decide); have z2 : (1 : Int32).toInt = 1 := (by decide); have z3 : (11704 : Int32).toInt = 11704 := (by decide); have z4 : (160 : Int32).toInt = 160 := (by decide); omega) (rd_e hI hR)) rfl (c_117 _) (by decide) (Nat.le_refl _) (Nat.le_refl _) (Nat.le_of_ble_eq_true rfl) dX6_readWord_17 (fun w2 h => ?_)
      obtain ⟨σx12, rfl, hV11, hW14, hR13⟩ := h
      have hW15 := Cor.trans (show Cor σ σ from Cor.rfl' σ) hW14
      refine R_goto (pc := 20) 27 dX6_readWord_20 (by decide) ?_
      exact R_vret (pc := 27) dX6_readWord_27 rfl (Nat.zero_le _) (Nat.zero_le _) ⟨rfl, _, rfl, hV11, hW15, (show Rd σx12 from ⟨(show 0 ≤ ((σx12.1 11702) : Int32).toInt from by have q0 := hR.1; have q1 := hR.2.1; have q2 := hR.2.2; have q3 := hR13.1; have q4 := hR13.2.1; have q5 := hR13.2.2; have q6 := ti_eq b5_1; have q7 := ti_in (rd_s hI hR); have q8 := ti_in (rd_e hI hR); have q9 := ti_in (iv_11701 hI); have q10 := ti_in (rd_s hV11 hR13); have q11 := ti_in (rd_e hV11 hR13); have q12 := ti_in (iv_11701 hV11); have z0 : (-1 : Int32).toInt = -1 := (by decide); have z1 : (0 : Int32).toInt = 0 := (by decide); have z2 : (1 : Int32).toInt = 1 := (by decide); have z3 : (11704 : Int32).toInt = 11704 := (by decide); have z4 : (160 : Int32).toInt = 160 := (by decide); omega), (show ((σx12.1 11702) : Int32).toInt ≤ ((σx12.1 11703) : Int32).toInt from by have q0 := hR.1; have q1 := hR.2.1; have q2 := hR.2.2; have q3 := hR13.1; have q4 := hR13.2.1; have q5 := hR13.2.2; have q6 := ti_eq b5_1; have q7 := ti_in (rd_s hI hR); have q8 := ti_in (rd_e hI hR); have q9 := ti_in (iv_11701 hI); have q10 := ti_in (rd_s hV11 hR13); have q11 := ti_in (rd_e hV11 hR13); have q12 := ti_in (iv_11701 hV11); have z0 : (-1 : Int32).toInt = -1 := (by decide); have z1 : (0 : Int32).toInt = 0 := (by decide); have z2 : (1 : Int32).toInt = 1 := (by decide); have z3 : (11704 : Int32).toInt = 11704 := (by decide); have z4 : (160 : Int32).toInt = 160 := (by decide); omega), (show ((σx12.1 11703) : Int32).toInt ≤ ((σx12.1 11701) : Int32).toInt from by have q0 := hR.1; have q1 := hR.2.1; have q2 := hR.2.2; have q3 := hR13.1; have q4 := hR13.2.1; have q5 := hR13.2.2; have q6 := ti_eq b5_1; have q7 := ti_in (rd_s hI hR); have q8 := ti_in (rd_e hI hR); have q9 := ti_in (iv_11701 hI); have q10 := ti_in (rd_s hV11 hR13); have q11 := ti_in (rd_e hV11 hR13); have q12 := ti_in (iv_11701 hV11); have z0 : (-1 : Int32).toInt = -1 := (by decide); have z1 : (0 : Int32).toInt = 0 := (by decide); have z2 : (1 : Int32).toInt = 1 := (by decide); have z3 : (11704 : Int32).toInt = 11704 := (by decide); have z4 : (160 : Int32).toInt = 160 := (by decide); omega)⟩)⟩
    · skip
      refine R_ifeq (pc := 13) 23 dX6_readWord_13 (by decide) (fun _ => ?_) (fun h => absurd (by decide) h)
      refine R_aload_n (pc := 23) dX6_readWord_23 rfl rfl ?_
      refine k_X6_44 (pc := 24) (gx_X6_findWrong _ hI hR) rfl (c_117 _) (by decide) (Nat.le_refl _) (Nat.le_refl _) (Nat.le_of_ble_eq_true rfl) dX6_readWord_24 (fun w2 h => ?_)
      obtain ⟨σx19, rfl, hV18, hW21, hR20⟩ := h
      have hW22 := Cor.trans (show Cor σ σ from Cor.rfl' σ) hW21
      exact R_vret (pc := 27) dX6_readWord_27 rfl (Nat.zero_le _) (Nat.zero_le _) ⟨rfl, _, rfl, hV18, hW22, (show Rd σx19 from ⟨(show 0 ≤ ((σx19.1 11702) : Int32).toInt from by have q0 := hR.1; have q1 := hR.2.1; have q2 := hR.2.2; have q3 := hR20.1; have q4 := hR20.2.1; have q5 := hR20.2.2; have q6 := ti_eq b5_1; have q7 := ti_in (rd_s hI hR); have q8 := ti_in (rd_e hI hR); have q9 := ti_in (iv_11701 hI); have q10 := ti_in (rd_s hV18 hR20); have q11 := ti_in (rd_e hV18 hR20); have q12 := ti_in (iv_11701 hV18); have z0 : (-1 : Int32).toInt = -1 := (by decide); have z1 : (0 : Int32).toInt = 0 := (by decide); have z2 : (1 : Int32).toInt = 1 := (by decide); have z3 : (11704 : Int32).toInt = 11704 := (by decide); have z4 : (160 : Int32).toInt = 160 := (by decide); omega), (show ((σx19.1 11702) : Int32).toInt ≤ ((σx19.1 11703) : Int32).toInt from by have q0 := hR.1; have q1 := hR.2.1; have q2 := hR.2.2; have q3 := hR20.1; have q4 := hR20.2.1; have q5 := hR20.2.2; have q6 := ti_eq b5_1; have q7 := ti_in (rd_s hI hR); have q8 := ti_in (rd_e hI hR); have q9 := ti_in (iv_11701 hI); have q10 := ti_in (rd_s hV18 hR20); have q11 := ti_in (rd_e hV18 hR20); have q12 := ti_in (iv_11701 hV18); have z0 : (-1 : Int32).toInt = -1 := (by decide); have z1 : (0 : Int32).toInt = 0 := (by decide); have z2 : (1 : Int32).toInt = 1 := (by decide); have z3 : (11704 : Int32).toInt = 11704 := (by decide); have z4 : (160 : Int32).toInt = 160 := (by decide); omega), (show ((σx19.1 11703) : Int32).toInt ≤ ((σx19.1 11701) : Int32).toInt from by have q0 := hR.1; have q1 := hR.2.1; have q2 := hR.2.2; have q3 := hR20.1; have q4 := hR20.2.1; have q5 := hR20.2.2; have q6 := ti_eq b5_1; have q7 := ti_in (rd_s hI hR); have q8 := ti_in (rd_e hI hR); have q9 := ti_in (iv_11701 hI); have q10 := ti_in (rd_s hV18 hR20); have q11 := ti_in (rd_e hV18 hR20); have q12 := ti_in (iv_11701 hV18); have z0 : (-1 : Int32).toInt = -1 := (by decide); have z1 : (0 : Int32).toInt = 0 := (by decide); have z2 : (1 : Int32).toInt = 1 := (by decide); have z3 : (11704 : Int32).toInt = 11704 := (by decide); have z4 : (160 : Int32).toInt = 160 := (by decide); omega)⟩)⟩
set_option maxRecDepth 100000 in
set_option maxHeartbeats 40000000 in
theorem gx_X6_readWord_1 {G : vG} {l : Launch} (σ : Sg)  (hI : Inv σ) (hR : Rd σ) : Sp G l yX6_readWord cX6_readWord 2 none 6 0 0 [.ref 117, .ref 1000001] (WW σ) (QV (fun w2 => ∃ σ2, w2 = WW σ2 ∧ Inv σ2 ∧ Cor σ σ2 ∧ Rd σ2)) := by
  refine Sp_of_R [(some (.ref 117)), (some (.ref 1000001))] [] rfl (by simp) rfl (Nat.le_of_ble_eq_true rfl) ?_
  refine R_aload_n (pc := 0) dX6_readWord_0 rfl rfl ?_
  refine g_X6_24 (pc := 1) (v := .int (σ.1 11704)) rfl dX6_readWord_1 (c_117 _) rfl ?_
  refine R_iconst (pc := 4) (v := (-1)) dX6_readWord_4 (by decide) ?_
  refine R_icne (pc := 5) 23 dX6_readWord_5 (by decide) (fun b5_1 => ?_) (fun b5_1 => ?_)
  · skip
    refine R_aload_n (pc := 23) dX6_readWord_23 rfl rfl ?_
    refine k_X6_44 (pc := 24) (gx_X6_findWrong _ hI hR) rfl (c_117 _) (by decide) (Nat.le_refl _) (Nat.le_refl _) (Nat.le_of_ble_eq_true rfl) dX6_readWord_24 (fun w2 h => ?_)
    obtain ⟨σx4, rfl, hV3, hW6, hR5⟩ := h
    have hW7 := Cor.trans (show Cor σ σ from Cor.rfl' σ) hW6
    exact R_vret (pc := 27) dX6_readWord_27 rfl (Nat.zero_le _) (Nat.zero_le _) ⟨rfl, _, rfl, hV3, hW7, (show Rd σx4 from ⟨(show 0 ≤ ((σx4.1 11702) : Int32).toInt from by have q0 := hR.1; have q1 := hR.2.1; have q2 := hR.2.2; have q3 := hR5.1; have q4 := hR5.2.1; have q5 := hR5.2.2; have q6 := ti_ne b5_1; have q7 := ti_in (rd_s hI hR); have q8 := ti_in (rd_e hI hR); have q9 := ti_in (iv_11701 hI); have q10 := ti_in (rd_s hV3 hR5); have q11 := ti_in (rd_e hV3 hR5); have q12 := ti_in (iv_11701 hV3); have z0 : (-1 : Int32).toInt = -1 := (by decide); have z1 : (0 : Int32).toInt = 0 := (by decide); have z2 : (1 : Int32).toInt = 1 := (by decide); have z3 : (11704 : Int32).toInt = 11704 := (by decide); have z4 : (160 : Int32).toInt = 160 := (by decide); omega), (show ((σx4.1 11702) : Int32).toInt ≤ ((σx4.1 11703) : Int32).toInt from by have q0 := hR.1; have q1 := hR.2.1; have q2 := hR.2.2; have q3 := hR5.1; have q4 := hR5.2.1; have q5 := hR5.2.2; have q6 := ti_ne b5_1; have q7 := ti_in (rd_s hI hR); have q8 := ti_in (rd_e hI hR); have q9 := ti_in (iv_11701 hI); have q10 := ti_in (rd_s hV3 hR5); have q11 := ti_in (rd_e hV3 hR5); have q12 := ti_in (iv_11701 hV3); have z0 : (-1 : Int32).toInt = -1 := (by decide); have z1 : (0 : Int32).toInt = 0 := (by decide); have z2 : (1 : Int32).toInt = 1 := (by decide); have z3 : (11704 : Int32).toInt = 11704 := (by decide); have z4 : (160 : Int32).toInt = 160 := (by decide); omega), (show ((σx4.1 11703) : Int32).toInt ≤ ((σx4.1 11701) : Int32).toInt from by have q0 := hR.1; have q1 := hR.2.1; have q2 := hR.2.2; have q3 := hR5.1; have q4 := hR5.2.1; have q5 := hR5.2.2; have q6 := ti_ne b5_1; have q7 := ti_in (rd_s hI hR); have q8 := ti_in (rd_e hI hR); have q9 := ti_in (iv_11701 hI); have q10 := ti_in (rd_s hV3 hR5); have q11 := ti_in (rd_e hV3 hR5); have q12 := ti_in (iv_11701 hV3); have z0 : (-1 : Int32).toInt = -1 := (by decide); have z1 : (0 : Int32).toInt = 0 := (by decide); have z2 : (1 : Int32).toInt = 1 := (by decide); have z3 : (11704 : Int32).toInt = 11704 := (by decide); have z4 : (160 : Int32).toInt = 160 := (by decide); omega)⟩)⟩
  · skip
    refine R_aload_n (pc := 8) dX6_readWord_8 rfl rfl ?_
    refine R_aload_n (pc := 9) dX6_readWord_9 rfl rfl ?_
    refine k_X6_36 (pc := 10) (gx_X6_isAt_1 _ hI hR) rfl (c_117 _) (by decide) (Nat.le_refl _) (Nat.le_refl _) (Nat.le_of_ble_eq_true rfl) dX6_readWord_10 (fun x w2 h => ?_)
    rcases h with ⟨rfl, rfl | rfl⟩
    · skip
      refine R_ifeq (pc := 13) 23 dX6_readWord_13 (by decide) (fun h => absurd h (by decide)) (fun _ => ?_)
      refine R_aload_n (pc := 16) dX6_readWord_16 rfl rfl ?_
      refine k_X6_27 (pc := 17) (gx_X6_goOn _ hI (show 0 ≤ ((σ.1 11703) : Int32).toInt from by have q0 := hR.1; have q1 := hR.2.1; have q2 := hR.2.2; have q3 := ti_eq b5_1; have q4 := ti_in (rd_s hI hR); have q5 := ti_in (rd_e hI hR); have q6 := ti_in (iv_11701 hI); have z0 : (-1 : Int32).toInt = -1 := (by decide); have z1 : (0 : Int32).toInt = 0 := (by decide); have z2 : (1 : Int32).toInt = 1 := (by decide); have z3 : (11704 : Int32).toInt = 11704 := (by decide); have z4 : (160 : Int32).toInt = 160 := (by decide); omega) (show ((σ.1 11703) : Int32).toInt ≤ ((σ.1 11701) : Int32).toInt from by have q0 := hR.1; have q1 := hR.2.1; have q2 := hR.2.2; have q3 := ti_eq b5_1; have q4 := ti_in (rd_s hI hR); have q5 := ti_in (rd_e hI hR); have q6 := ti_in (iv_11701 hI); have z0 : (-1 : Int32).toInt = -1 := (by decide); have z1 : (0 : Int32).toInt = 0 := (by decide); have z2 : (1 : Int32).toInt = 1 := (by decide); have z3 : (11704 : Int32).toInt = 11704 := (by decide); have z4 : (160 : Int32).toInt = 160 := (by decide); omega) (rd_e hI hR)) rfl (c_117 _) (by decide) (Nat.le_refl _) (Nat.le_refl _) (Nat.le_of_ble_eq_true rfl) dX6_readWord_17 (fun w2 h => ?_)
      obtain ⟨σx12, rfl, hV11, hW14, hR13⟩ := h
      have hW15 := Cor.trans (show Cor σ σ from Cor.rfl' σ) hW14
      refine R_goto (pc := 20) 27 dX6_readWord_20 (by decide) ?_
      exact R_vret (pc := 27) dX6_readWord_27 rfl (Nat.zero_le _) (Nat.zero_le _) ⟨rfl, _, rfl, hV11, hW15, (show Rd σx12 from ⟨(show 0 ≤ ((σx12.1 11702) : Int32).toInt from by have q0 := hR.1; have q1 := hR.2.1; have q2 := hR.2.2; have q3 := hR13.1; have q4 := hR13.2.1; have q5 := hR13.2.2; have q6 := ti_eq b5_1; have q7 := ti_in (rd_s hI hR); have q8 := ti_in (rd_e hI hR); have q9 := ti_in (iv_11701 hI); have q10 := ti_in (rd_s hV11 hR13); have q11 := ti_in (rd_e hV11 hR13); have q12 := ti_in (iv_11701 hV11); have z0 : (-1 : Int32).toInt = -1 := (by decide); have z1 : (0 : Int32).toInt = 0 := (by decide); have z2 : (1 : Int32).toInt = 1 := (by decide); have z3 : (11704 : Int32).toInt = 11704 := (by decide); have z4 : (160 : Int32).toInt = 160 := (by decide); omega), (show ((σx12.1 11702) : Int32).toInt ≤ ((σx12.1 11703) : Int32).toInt from by have q0 := hR.1; have q1 := hR.2.1; have q2 := hR.2.2; have q3 := hR13.1; have q4 := hR13.2.1; have q5 := hR13.2.2; have q6 := ti_eq b5_1; have q7 := ti_in (rd_s hI hR); have q8 := ti_in (rd_e hI hR); have q9 := ti_in (iv_11701 hI); have q10 := ti_in (rd_s hV11 hR13); have q11 := ti_in (rd_e hV11 hR13); have q12 := ti_in (iv_11701 hV11); have z0 : (-1 : Int32).toInt = -1 := (by decide); have z1 : (0 : Int32).toInt = 0 := (by decide); have z2 : (1 : Int32).toInt = 1 := (by decide); have z3 : (11704 : Int32).toInt = 11704 := (by decide); have z4 : (160 : Int32).toInt = 160 := (by decide); omega), (show ((σx12.1 11703) : Int32).toInt ≤ ((σx12.1 11701) : Int32).toInt from by have q0 := hR.1; have q1 := hR.2.1; have q2 := hR.2.2; have q3 := hR13.1; have q4 := hR13.2.1; have q5 := hR13.2.2; have q6 := ti_eq b5_1; have q7 := ti_in (rd_s hI hR); have q8 := ti_in (rd_e hI hR); have q9 := ti_in (iv_11701 hI); have q10 := ti_in (rd_s hV11 hR13); have q11 := ti_in (rd_e hV11 hR13); have q12 := ti_in (iv_11701 hV11); have z0 : (-1 : Int32).toInt = -1 := (by decide); have z1 : (0 : Int32).toInt = 0 := (by decide); have z2 : (1 : Int32).toInt = 1 := (by decide); have z3 : (11704 : Int32).toInt = 11704 := (by decide); have z4 : (160 : Int32).toInt = 160 := (by decide); omega)⟩)⟩
    · skip
      refine R_ifeq (pc := 13) 23 dX6_readWord_13 (by decide) (fun _ => ?_) (fun h => absurd (by decide) h)
      refine R_aload_n (pc := 23) dX6_readWord_23 rfl rfl ?_
      refine k_X6_44 (pc := 24) (gx_X6_findWrong _ hI hR) rfl (c_117 _) (by decide) (Nat.le_refl _) (Nat.le_refl _) (Nat.le_of_ble_eq_true rfl) dX6_readWord_24 (fun w2 h => ?_)
      obtain ⟨σx19, rfl, hV18, hW21, hR20⟩ := h
      have hW22 := Cor.trans (show Cor σ σ from Cor.rfl' σ) hW21
      exact R_vret (pc := 27) dX6_readWord_27 rfl (Nat.zero_le _) (Nat.zero_le _) ⟨rfl, _, rfl, hV18, hW22, (show Rd σx19 from ⟨(show 0 ≤ ((σx19.1 11702) : Int32).toInt from by have q0 := hR.1; have q1 := hR.2.1; have q2 := hR.2.2; have q3 := hR20.1; have q4 := hR20.2.1; have q5 := hR20.2.2; have q6 := ti_eq b5_1; have q7 := ti_in (rd_s hI hR); have q8 := ti_in (rd_e hI hR); have q9 := ti_in (iv_11701 hI); have q10 := ti_in (rd_s hV18 hR20); have q11 := ti_in (rd_e hV18 hR20); have q12 := ti_in (iv_11701 hV18); have z0 : (-1 : Int32).toInt = -1 := (by decide); have z1 : (0 : Int32).toInt = 0 := (by decide); have z2 : (1 : Int32).toInt = 1 := (by decide); have z3 : (11704 : Int32).toInt = 11704 := (by decide); have z4 : (160 : Int32).toInt = 160 := (by decide); omega), (show ((σx19.1 11702) : Int32).toInt ≤ ((σx19.1 11703) : Int32).toInt from by have q0 := hR.1; have q1 := hR.2.1; have q2 := hR.2.2; have q3 := hR20.1; have q4 := hR20.2.1; have q5 := hR20.2.2; have q6 := ti_eq b5_1; have q7 := ti_in (rd_s hI hR); have q8 := ti_in (rd_e hI hR); have q9 := ti_in (iv_11701 hI); have q10 := ti_in (rd_s hV18 hR20); have q11 := ti_in (rd_e hV18 hR20); have q12 := ti_in (iv_11701 hV18); have z0 : (-1 : Int32).toInt = -1 := (by decide); have z1 : (0 : Int32).toInt = 0 := (by decide); have z2 : (1 : Int32).toInt = 1 := (by decide); have z3 : (11704 : Int32).toInt = 11704 := (by decide); have z4 : (160 : Int32).toInt = 160 := (by decide); omega), (show ((σx19.1 11703) : Int32).toInt ≤ ((σx19.1 11701) : Int32).toInt from by have q0 := hR.1; have q1 := hR.2.1; have q2 := hR.2.2; have q3 := hR20.1; have q4 := hR20.2.1; have q5 := hR20.2.2; have q6 := ti_eq b5_1; have q7 := ti_in (rd_s hI hR); have q8 := ti_in (rd_e hI hR); have q9 := ti_in (iv_11701 hI); have q10 := ti_in (rd_s hV18 hR20); have q11 := ti_in (rd_e hV18 hR20); have q12 := ti_in (iv_11701 hV18); have z0 : (-1 : Int32).toInt = -1 := (by decide); have z1 : (0 : Int32).toInt = 0 := (by decide); have z2 : (1 : Int32).toInt = 1 := (by decide); have z3 : (11704 : Int32).toInt = 11704 := (by decide); have z4 : (160 : Int32).toInt = 160 := (by decide); omega)⟩)⟩
set_option maxRecDepth 100000 in
set_option maxHeartbeats 40000000 in
theorem gx_X6_readWord_2 {G : vG} {l : Launch} (σ : Sg)  (hI : Inv σ) (hR : Rd σ) : Sp G l yX6_readWord cX6_readWord 2 none 6 0 0 [.ref 117, .ref 1000002] (WW σ) (QV (fun w2 => ∃ σ2, w2 = WW σ2 ∧ Inv σ2 ∧ Cor σ σ2 ∧ Rd σ2)) := by
  refine Sp_of_R [(some (.ref 117)), (some (.ref 1000002))] [] rfl (by simp) rfl (Nat.le_of_ble_eq_true rfl) ?_
  refine R_aload_n (pc := 0) dX6_readWord_0 rfl rfl ?_
  refine g_X6_24 (pc := 1) (v := .int (σ.1 11704)) rfl dX6_readWord_1 (c_117 _) rfl ?_
  refine R_iconst (pc := 4) (v := (-1)) dX6_readWord_4 (by decide) ?_
  refine R_icne (pc := 5) 23 dX6_readWord_5 (by decide) (fun b5_1 => ?_) (fun b5_1 => ?_)
  · skip
    refine R_aload_n (pc := 23) dX6_readWord_23 rfl rfl ?_
    refine k_X6_44 (pc := 24) (gx_X6_findWrong _ hI hR) rfl (c_117 _) (by decide) (Nat.le_refl _) (Nat.le_refl _) (Nat.le_of_ble_eq_true rfl) dX6_readWord_24 (fun w2 h => ?_)
    obtain ⟨σx4, rfl, hV3, hW6, hR5⟩ := h
    have hW7 := Cor.trans (show Cor σ σ from Cor.rfl' σ) hW6
    exact R_vret (pc := 27) dX6_readWord_27 rfl (Nat.zero_le _) (Nat.zero_le _) ⟨rfl, _, rfl, hV3, hW7, (show Rd σx4 from ⟨(show 0 ≤ ((σx4.1 11702) : Int32).toInt from by have q0 := hR.1; have q1 := hR.2.1; have q2 := hR.2.2; have q3 := hR5.1; have q4 := hR5.2.1; have q5 := hR5.2.2; have q6 := ti_ne b5_1; have q7 := ti_in (rd_s hI hR); have q8 := ti_in (rd_e hI hR); have q9 := ti_in (iv_11701 hI); have q10 := ti_in (rd_s hV3 hR5); have q11 := ti_in (rd_e hV3 hR5); have q12 := ti_in (iv_11701 hV3); have z0 : (-1 : Int32).toInt = -1 := (by decide); have z1 : (0 : Int32).toInt = 0 := (by decide); have z2 : (1 : Int32).toInt = 1 := (by decide); have z3 : (11704 : Int32).toInt = 11704 := (by decide); have z4 : (160 : Int32).toInt = 160 := (by decide); omega), (show ((σx4.1 11702) : Int32).toInt ≤ ((σx4.1 11703) : Int32).toInt from by have q0 := hR.1; have q1 := hR.2.1; have q2 := hR.2.2; have q3 := hR5.1; have q4 := hR5.2.1; have q5 := hR5.2.2; have q6 := ti_ne b5_1; have q7 := ti_in (rd_s hI hR); have q8 := ti_in (rd_e hI hR); have q9 := ti_in (iv_11701 hI); have q10 := ti_in (rd_s hV3 hR5); have q11 := ti_in (rd_e hV3 hR5); have q12 := ti_in (iv_11701 hV3); have z0 : (-1 : Int32).toInt = -1 := (by decide); have z1 : (0 : Int32).toInt = 0 := (by decide); have z2 : (1 : Int32).toInt = 1 := (by decide); have z3 : (11704 : Int32).toInt = 11704 := (by decide); have z4 : (160 : Int32).toInt = 160 := (by decide); omega), (show ((σx4.1 11703) : Int32).toInt ≤ ((σx4.1 11701) : Int32).toInt from by have q0 := hR.1; have q1 := hR.2.1; have q2 := hR.2.2; have q3 := hR5.1; have q4 := hR5.2.1; have q5 := hR5.2.2; have q6 := ti_ne b5_1; have q7 := ti_in (rd_s hI hR); have q8 := ti_in (rd_e hI hR); have q9 := ti_in (iv_11701 hI); have q10 := ti_in (rd_s hV3 hR5); have q11 := ti_in (rd_e hV3 hR5); have q12 := ti_in (iv_11701 hV3); have z0 : (-1 : Int32).toInt = -1 := (by decide); have z1 : (0 : Int32).toInt = 0 := (by decide); have z2 : (1 : Int32).toInt = 1 := (by decide); have z3 : (11704 : Int32).toInt = 11704 := (by decide); have z4 : (160 : Int32).toInt = 160 := (by decide); omega)⟩)⟩
  · skip
    refine R_aload_n (pc := 8) dX6_readWord_8 rfl rfl ?_
    refine R_aload_n (pc := 9) dX6_readWord_9 rfl rfl ?_
    refine k_X6_36 (pc := 10) (gx_X6_isAt_2 _ hI hR) rfl (c_117 _) (by decide) (Nat.le_refl _) (Nat.le_refl _) (Nat.le_of_ble_eq_true rfl) dX6_readWord_10 (fun x w2 h => ?_)
    rcases h with ⟨rfl, rfl | rfl⟩
    · skip
      refine R_ifeq (pc := 13) 23 dX6_readWord_13 (by decide) (fun h => absurd h (by decide)) (fun _ => ?_)
      refine R_aload_n (pc := 16) dX6_readWord_16 rfl rfl ?_
      refine k_X6_27 (pc := 17) (gx_X6_goOn _ hI (show 0 ≤ ((σ.1 11703) : Int32).toInt from by have q0 := hR.1; have q1 := hR.2.1; have q2 := hR.2.2; have q3 := ti_eq b5_1; have q4 := ti_in (rd_s hI hR); have q5 := ti_in (rd_e hI hR); have q6 := ti_in (iv_11701 hI); have z0 : (-1 : Int32).toInt = -1 := (by decide); have z1 : (0 : Int32).toInt = 0 := (by decide); have z2 : (1 : Int32).toInt = 1 := (by decide); have z3 : (11704 : Int32).toInt = 11704 := (by decide); have z4 : (160 : Int32).toInt = 160 := (by decide); omega) (show ((σ.1 11703) : Int32).toInt ≤ ((σ.1 11701) : Int32).toInt from by have q0 := hR.1; have q1 := hR.2.1; have q2 := hR.2.2; have q3 := ti_eq b5_1; have q4 := ti_in (rd_s hI hR); have q5 := ti_in (rd_e hI hR); have q6 := ti_in (iv_11701 hI); have z0 : (-1 : Int32).toInt = -1 := (by decide); have z1 : (0 : Int32).toInt = 0 := (by decide); have z2 : (1 : Int32).toInt = 1 := (by decide); have z3 : (11704 : Int32).toInt = 11704 := (by decide); have z4 : (160 : Int32).toInt = 160 := (by decide); omega) (rd_e hI hR)) rfl (c_117 _) (by decide) (Nat.le_refl _) (Nat.le_refl _) (Nat.le_of_ble_eq_true rfl) dX6_readWord_17 (fun w2 h => ?_)
      obtain ⟨σx12, rfl, hV11, hW14, hR13⟩ := h
      have hW15 := Cor.trans (show Cor σ σ from Cor.rfl' σ) hW14
      refine R_goto (pc := 20) 27 dX6_readWord_20 (by decide) ?_
      exact R_vret (pc := 27) dX6_readWord_27 rfl (Nat.zero_le _) (Nat.zero_le _) ⟨rfl, _, rfl, hV11, hW15, (show Rd σx12 from ⟨(show 0 ≤ ((σx12.1 11702) : Int32).toInt from by have q0 := hR.1; have q1 := hR.2.1; have q2 := hR.2.2; have q3 := hR13.1; have q4 := hR13.2.1; have q5 := hR13.2.2; have q6 := ti_eq b5_1; have q7 := ti_in (rd_s hI hR); have q8 := ti_in (rd_e hI hR); have q9 := ti_in (iv_11701 hI); have q10 := ti_in (rd_s hV11 hR13); have q11 := ti_in (rd_e hV11 hR13); have q12 := ti_in (iv_11701 hV11); have z0 : (-1 : Int32).toInt = -1 := (by decide); have z1 : (0 : Int32).toInt = 0 := (by decide); have z2 : (1 : Int32).toInt = 1 := (by decide); have z3 : (11704 : Int32).toInt = 11704 := (by decide); have z4 : (160 : Int32).toInt = 160 := (by decide); omega), (show ((σx12.1 11702) : Int32).toInt ≤ ((σx12.1 11703) : Int32).toInt from by have q0 := hR.1; have q1 := hR.2.1; have q2 := hR.2.2; have q3 := hR13.1; have q4 := hR13.2.1; have q5 := hR13.2.2; have q6 := ti_eq b5_1; have q7 := ti_in (rd_s hI hR); have q8 := ti_in (rd_e hI hR); have q9 := ti_in (iv_11701 hI); have q10 := ti_in (rd_s hV11 hR13); have q11 := ti_in (rd_e hV11 hR13); have q12 := ti_in (iv_11701 hV11); have z0 : (-1 : Int32).toInt = -1 := (by decide); have z1 : (0 : Int32).toInt = 0 := (by decide); have z2 : (1 : Int32).toInt = 1 := (by decide); have z3 : (11704 : Int32).toInt = 11704 := (by decide); have z4 : (160 : Int32).toInt = 160 := (by decide); omega), (show ((σx12.1 11703) : Int32).toInt ≤ ((σx12.1 11701) : Int32).toInt from by have q0 := hR.1; have q1 := hR.2.1; have q2 := hR.2.2; have q3 := hR13.1; have q4 := hR13.2.1; have q5 := hR13.2.2; have q6 := ti_eq b5_1; have q7 := ti_in (rd_s hI hR); have q8 := ti_in (rd_e hI hR); have q9 := ti_in (iv_11701 hI); have q10 := ti_in (rd_s hV11 hR13); have q11 := ti_in (rd_e hV11 hR13); have q12 := ti_in (iv_11701 hV11); have z0 : (-1 : Int32).toInt = -1 := (by decide); have z1 : (0 : Int32).toInt = 0 := (by decide); have z2 : (1 : Int32).toInt = 1 := (by decide); have z3 : (11704 : Int32).toInt = 11704 := (by decide); have z4 : (160 : Int32).toInt = 160 := (by decide); omega)⟩)⟩
    · skip
      refine R_ifeq (pc := 13) 23 dX6_readWord_13 (by decide) (fun _ => ?_) (fun h => absurd (by decide) h)
      refine R_aload_n (pc := 23) dX6_readWord_23 rfl rfl ?_
      refine k_X6_44 (pc := 24) (gx_X6_findWrong _ hI hR) rfl (c_117 _) (by decide) (Nat.le_refl _) (Nat.le_refl _) (Nat.le_of_ble_eq_true rfl) dX6_readWord_24 (fun w2 h => ?_)
      obtain ⟨σx19, rfl, hV18, hW21, hR20⟩ := h
      have hW22 := Cor.trans (show Cor σ σ from Cor.rfl' σ) hW21
      exact R_vret (pc := 27) dX6_readWord_27 rfl (Nat.zero_le _) (Nat.zero_le _) ⟨rfl, _, rfl, hV18, hW22, (show Rd σx19 from ⟨(show 0 ≤ ((σx19.1 11702) : Int32).toInt from by have q0 := hR.1; have q1 := hR.2.1; have q2 := hR.2.2; have q3 := hR20.1; have q4 := hR20.2.1; have q5 := hR20.2.2; have q6 := ti_eq b5_1; have q7 := ti_in (rd_s hI hR); have q8 := ti_in (rd_e hI hR); have q9 := ti_in (iv_11701 hI); have q10 := ti_in (rd_s hV18 hR20); have q11 := ti_in (rd_e hV18 hR20); have q12 := ti_in (iv_11701 hV18); have z0 : (-1 : Int32).toInt = -1 := (by decide); have z1 : (0 : Int32).toInt = 0 := (by decide); have z2 : (1 : Int32).toInt = 1 := (by decide); have z3 : (11704 : Int32).toInt = 11704 := (by decide); have z4 : (160 : Int32).toInt = 160 := (by decide); omega), (show ((σx19.1 11702) : Int32).toInt ≤ ((σx19.1 11703) : Int32).toInt from by have q0 := hR.1; have q1 := hR.2.1; have q2 := hR.2.2; have q3 := hR20.1; have q4 := hR20.2.1; have q5 := hR20.2.2; have q6 := ti_eq b5_1; have q7 := ti_in (rd_s hI hR); have q8 := ti_in (rd_e hI hR); have q9 := ti_in (iv_11701 hI); have q10 := ti_in (rd_s hV18 hR20); have q11 := ti_in (rd_e hV18 hR20); have q12 := ti_in (iv_11701 hV18); have z0 : (-1 : Int32).toInt = -1 := (by decide); have z1 : (0 : Int32).toInt = 0 := (by decide); have z2 : (1 : Int32).toInt = 1 := (by decide); have z3 : (11704 : Int32).toInt = 11704 := (by decide); have z4 : (160 : Int32).toInt = 160 := (by decide); omega), (show ((σx19.1 11703) : Int32).toInt ≤ ((σx19.1 11701) : Int32).toInt from by have q0 := hR.1; have q1 := hR.2.1; have q2 := hR.2.2; have q3 := hR20.1; have q4 := hR20.2.1; have q5 := hR20.2.2; have q6 := ti_eq b5_1; have q7 := ti_in (rd_s hI hR); have q8 := ti_in (rd_e hI hR); have q9 := ti_in (iv_11701 hI); have q10 := ti_in (rd_s hV18 hR20); have q11 := ti_in (rd_e hV18 hR20); have q12 := ti_in (iv_11701 hV18); have z0 : (-1 : Int32).toInt = -1 := (by decide); have z1 : (0 : Int32).toInt = 0 := (by decide); have z2 : (1 : Int32).toInt = 1 := (by decide); have z3 : (11704 : Int32).toInt = 11704 := (by decide); have z4 : (160 : Int32).toInt = 160 := (by decide); omega)⟩)⟩
set_option maxRecDepth 100000 in
set_option maxHeartbeats 40000000 in
theorem gx_X6_readWord_3 {G : vG} {l : Launch} (σ : Sg)  (hI : Inv σ) (hR : Rd σ) : Sp G l yX6_readWord cX6_readWord 2 none 6 0 0 [.ref 117, .ref 1000003] (WW σ) (QV (fun w2 => ∃ σ2, w2 = WW σ2 ∧ Inv σ2 ∧ Cor σ σ2 ∧ Rd σ2)) := by
  refine Sp_of_R [(some (.ref 117)), (some (.ref 1000003))] [] rfl (by simp) rfl (Nat.le_of_ble_eq_true rfl) ?_
  refine R_aload_n (pc := 0) dX6_readWord_0 rfl rfl ?_
  refine g_X6_24 (pc := 1) (v := .int (σ.1 11704)) rfl dX6_readWord_1 (c_117 _) rfl ?_
  refine R_iconst (pc := 4) (v := (-1)) dX6_readWord_4 (by decide) ?_
  refine R_icne (pc := 5) 23 dX6_readWord_5 (by decide) (fun b5_1 => ?_) (fun b5_1 => ?_)
  · skip
    refine R_aload_n (pc := 23) dX6_readWord_23 rfl rfl ?_
    refine k_X6_44 (pc := 24) (gx_X6_findWrong _ hI hR) rfl (c_117 _) (by decide) (Nat.le_refl _) (Nat.le_refl _) (Nat.le_of_ble_eq_true rfl) dX6_readWord_24 (fun w2 h => ?_)
    obtain ⟨σx4, rfl, hV3, hW6, hR5⟩ := h
    have hW7 := Cor.trans (show Cor σ σ from Cor.rfl' σ) hW6
    exact R_vret (pc := 27) dX6_readWord_27 rfl (Nat.zero_le _) (Nat.zero_le _) ⟨rfl, _, rfl, hV3, hW7, (show Rd σx4 from ⟨(show 0 ≤ ((σx4.1 11702) : Int32).toInt from by have q0 := hR.1; have q1 := hR.2.1; have q2 := hR.2.2; have q3 := hR5.1; have q4 := hR5.2.1; have q5 := hR5.2.2; have q6 := ti_ne b5_1; have q7 := ti_in (rd_s hI hR); have q8 := ti_in (rd_e hI hR); have q9 := ti_in (iv_11701 hI); have q10 := ti_in (rd_s hV3 hR5); have q11 := ti_in (rd_e hV3 hR5); have q12 := ti_in (iv_11701 hV3); have z0 : (-1 : Int32).toInt = -1 := (by decide); have z1 : (0 : Int32).toInt = 0 := (by decide); have z2 : (1 : Int32).toInt = 1 := (by decide); have z3 : (11704 : Int32).toInt = 11704 := (by decide); have z4 : (160 : Int32).toInt = 160 := (by decide); omega), (show ((σx4.1 11702) : Int32).toInt ≤ ((σx4.1 11703) : Int32).toInt from by have q0 := hR.1; have q1 := hR.2.1; have q2 := hR.2.2; have q3 := hR5.1; have q4 := hR5.2.1; have q5 := hR5.2.2; have q6 := ti_ne b5_1; have q7 := ti_in (rd_s hI hR); have q8 := ti_in (rd_e hI hR); have q9 := ti_in (iv_11701 hI); have q10 := ti_in (rd_s hV3 hR5); have q11 := ti_in (rd_e hV3 hR5); have q12 := ti_in (iv_11701 hV3); have z0 : (-1 : Int32).toInt = -1 := (by decide); have z1 : (0 : Int32).toInt = 0 := (by decide); have z2 : (1 : Int32).toInt = 1 := (by decide); have z3 : (11704 : Int32).toInt = 11704 := (by decide); have z4 : (160 : Int32).toInt = 160 := (by decide); omega), (show ((σx4.1 11703) : Int32).toInt ≤ ((σx4.1 11701) : Int32).toInt from by have q0 := hR.1; have q1 := hR.2.1; have q2 := hR.2.2; have q3 := hR5.1; have q4 := hR5.2.1; have q5 := hR5.2.2; have q6 := ti_ne b5_1; have q7 := ti_in (rd_s hI hR); have q8 := ti_in (rd_e hI hR); have q9 := ti_in (iv_11701 hI); have q10 := ti_in (rd_s hV3 hR5); have q11 := ti_in (rd_e hV3 hR5); have q12 := ti_in (iv_11701 hV3); have z0 : (-1 : Int32).toInt = -1 := (by decide); have z1 : (0 : Int32).toInt = 0 := (by decide); have z2 : (1 : Int32).toInt = 1 := (by decide); have z3 : (11704 : Int32).toInt = 11704 := (by decide); have z4 : (160 : Int32).toInt = 160 := (by decide); omega)⟩)⟩
  · skip
    refine R_aload_n (pc := 8) dX6_readWord_8 rfl rfl ?_
    refine R_aload_n (pc := 9) dX6_readWord_9 rfl rfl ?_
    refine k_X6_36 (pc := 10) (gx_X6_isAt_3 _ hI hR) rfl (c_117 _) (by decide) (Nat.le_refl _) (Nat.le_refl _) (Nat.le_of_ble_eq_true rfl) dX6_readWord_10 (fun x w2 h => ?_)
    rcases h with ⟨rfl, rfl | rfl⟩
    · skip
      refine R_ifeq (pc := 13) 23 dX6_readWord_13 (by decide) (fun h => absurd h (by decide)) (fun _ => ?_)
      refine R_aload_n (pc := 16) dX6_readWord_16 rfl rfl ?_
      refine k_X6_27 (pc := 17) (gx_X6_goOn _ hI (show 0 ≤ ((σ.1 11703) : Int32).toInt from by have q0 := hR.1; have q1 := hR.2.1; have q2 := hR.2.2; have q3 := ti_eq b5_1; have q4 := ti_in (rd_s hI hR); have q5 := ti_in (rd_e hI hR); have q6 := ti_in (iv_11701 hI); have z0 : (-1 : Int32).toInt = -1 := (by decide); have z1 : (0 : Int32).toInt = 0 := (by decide); have z2 : (1 : Int32).toInt = 1 := (by decide); have z3 : (11704 : Int32).toInt = 11704 := (by decide); have z4 : (160 : Int32).toInt = 160 := (by decide); omega) (show ((σ.1 11703) : Int32).toInt ≤ ((σ.1 11701) : Int32).toInt from by have q0 := hR.1; have q1 := hR.2.1; have q2 := hR.2.2; have q3 := ti_eq b5_1; have q4 := ti_in (rd_s hI hR); have q5 := ti_in (rd_e hI hR); have q6 := ti_in (iv_11701 hI); have z0 : (-1 : Int32).toInt = -1 := (by decide); have z1 : (0 : Int32).toInt = 0 := (by decide); have z2 : (1 : Int32).toInt = 1 := (by decide); have z3 : (11704 : Int32).toInt = 11704 := (by decide); have z4 : (160 : Int32).toInt = 160 := (by decide); omega) (rd_e hI hR)) rfl (c_117 _) (by decide) (Nat.le_refl _) (Nat.le_refl _) (Nat.le_of_ble_eq_true rfl) dX6_readWord_17 (fun w2 h => ?_)
      obtain ⟨σx12, rfl, hV11, hW14, hR13⟩ := h
      have hW15 := Cor.trans (show Cor σ σ from Cor.rfl' σ) hW14
      refine R_goto (pc := 20) 27 dX6_readWord_20 (by decide) ?_
      exact R_vret (pc := 27) dX6_readWord_27 rfl (Nat.zero_le _) (Nat.zero_le _) ⟨rfl, _, rfl, hV11, hW15, (show Rd σx12 from ⟨(show 0 ≤ ((σx12.1 11702) : Int32).toInt from by have q0 := hR.1; have q1 := hR.2.1; have q2 := hR.2.2; have q3 := hR13.1; have q4 := hR13.2.1; have q5 := hR13.2.2; have q6 := ti_eq b5_1; have q7 := ti_in (rd_s hI hR); have q8 := ti_in (rd_e hI hR); have q9 := ti_in (iv_11701 hI); have q10 := ti_in (rd_s hV11 hR13); have q11 := ti_in (rd_e hV11 hR13); have q12 := ti_in (iv_11701 hV11); have z0 : (-1 : Int32).toInt = -1 := (by decide); have z1 : (0 : Int32).toInt = 0 := (by decide); have z2 : (1 : Int32).toInt = 1 := (by decide); have z3 : (11704 : Int32).toInt = 11704 := (by decide); have z4 : (160 : Int32).toInt = 160 := (by decide); omega), (show ((σx12.1 11702) : Int32).toInt ≤ ((σx12.1 11703) : Int32).toInt from by have q0 := hR.1; have q1 := hR.2.1; have q2 := hR.2.2; have q3 := hR13.1; have q4 := hR13.2.1; have q5 := hR13.2.2; have q6 := ti_eq b5_1; have q7 := ti_in (rd_s hI hR); have q8 := ti_in (rd_e hI hR); have q9 := ti_in (iv_11701 hI); have q10 := ti_in (rd_s hV11 hR13); have q11 := ti_in (rd_e hV11 hR13); have q12 := ti_in (iv_11701 hV11); have z0 : (-1 : Int32).toInt = -1 := (by decide); have z1 : (0 : Int32).toInt = 0 := (by decide); have z2 : (1 : Int32).toInt = 1 := (by decide); have z3 : (11704 : Int32).toInt = 11704 := (by decide); have z4 : (160 : Int32).toInt = 160 := (by decide); omega), (show ((σx12.1 11703) : Int32).toInt ≤ ((σx12.1 11701) : Int32).toInt from by have q0 := hR.1; have q1 := hR.2.1; have q2 := hR.2.2; have q3 := hR13.1; have q4 := hR13.2.1; have q5 := hR13.2.2; have q6 := ti_eq b5_1; have q7 := ti_in (rd_s hI hR); have q8 := ti_in (rd_e hI hR); have q9 := ti_in (iv_11701 hI); have q10 := ti_in (rd_s hV11 hR13); have q11 := ti_in (rd_e hV11 hR13); have q12 := ti_in (iv_11701 hV11); have z0 : (-1 : Int32).toInt = -1 := (by decide); have z1 : (0 : Int32).toInt = 0 := (by decide); have z2 : (1 : Int32).toInt = 1 := (by decide); have z3 : (11704 : Int32).toInt = 11704 := (by decide); have z4 : (160 : Int32).toInt = 160 := (by decide); omega)⟩)⟩
    · skip
      refine R_ifeq (pc := 13) 23 dX6_readWord_13 (by decide) (fun _ => ?_) (fun h => absurd (by decide) h)
      refine R_aload_n (pc := 23) dX6_readWord_23 rfl rfl ?_
      refine k_X6_44 (pc := 24) (gx_X6_findWrong _ hI hR) rfl (c_117 _) (by decide) (Nat.le_refl _) (Nat.le_refl _) (Nat.le_of_ble_eq_true rfl) dX6_readWord_24 (fun w2 h => ?_)
      obtain ⟨σx19, rfl, hV18, hW21, hR20⟩ := h
      have hW22 := Cor.trans (show Cor σ σ from Cor.rfl' σ) hW21
      exact R_vret (pc := 27) dX6_readWord_27 rfl (Nat.zero_le _) (Nat.zero_le _) ⟨rfl, _, rfl, hV18, hW22, (show Rd σx19 from ⟨(show 0 ≤ ((σx19.1 11702) : Int32).toInt from by have q0 := hR.1; have q1 := hR.2.1; have q2 := hR.2.2; have q3 := hR20.1; have q4 := hR20.2.1; have q5 := hR20.2.2; have q6 := ti_eq b5_1; have q7 := ti_in (rd_s hI hR); have q8 := ti_in (rd_e hI hR); have q9 := ti_in (iv_11701 hI); have q10 := ti_in (rd_s hV18 hR20); have q11 := ti_in (rd_e hV18 hR20); have q12 := ti_in (iv_11701 hV18); have z0 : (-1 : Int32).toInt = -1 := (by decide); have z1 : (0 : Int32).toInt = 0 := (by decide); have z2 : (1 : Int32).toInt = 1 := (by decide); have z3 : (11704 : Int32).toInt = 11704 := (by decide); have z4 : (160 : Int32).toInt = 160 := (by decide); omega), (show ((σx19.1 11702) : Int32).toInt ≤ ((σx19.1 11703) : Int32).toInt from by have q0 := hR.1; have q1 := hR.2.1; have q2 := hR.2.2; have q3 := hR20.1; have q4 := hR20.2.1; have q5 := hR20.2.2; have q6 := ti_eq b5_1; have q7 := ti_in (rd_s hI hR); have q8 := ti_in (rd_e hI hR); have q9 := ti_in (iv_11701 hI); have q10 := ti_in (rd_s hV18 hR20); have q11 := ti_in (rd_e hV18 hR20); have q12 := ti_in (iv_11701 hV18); have z0 : (-1 : Int32).toInt = -1 := (by decide); have z1 : (0 : Int32).toInt = 0 := (by decide); have z2 : (1 : Int32).toInt = 1 := (by decide); have z3 : (11704 : Int32).toInt = 11704 := (by decide); have z4 : (160 : Int32).toInt = 160 := (by decide); omega), (show ((σx19.1 11703) : Int32).toInt ≤ ((σx19.1 11701) : Int32).toInt from by have q0 := hR.1; have q1 := hR.2.1; have q2 := hR.2.2; have q3 := hR20.1; have q4 := hR20.2.1; have q5 := hR20.2.2; have q6 := ti_eq b5_1; have q7 := ti_in (rd_s hI hR); have q8 := ti_in (rd_e hI hR); have q9 := ti_in (iv_11701 hI); have q10 := ti_in (rd_s hV18 hR20); have q11 := ti_in (rd_e hV18 hR20); have q12 := ti_in (iv_11701 hV18); have z0 : (-1 : Int32).toInt = -1 := (by decide); have z1 : (0 : Int32).toInt = 0 := (by decide); have z2 : (1 : Int32).toInt = 1 := (by decide); have z3 : (11704 : Int32).toInt = 11704 := (by decide); have z4 : (160 : Int32).toInt = 160 := (by decide); omega)⟩)⟩
set_option maxRecDepth 100000 in
set_option maxHeartbeats 40000000 in
theorem gx_X6_readWord_4 {G : vG} {l : Launch} (σ : Sg)  (hI : Inv σ) (hR : Rd σ) : Sp G l yX6_readWord cX6_readWord 2 none 6 0 0 [.ref 117, .ref 1000004] (WW σ) (QV (fun w2 => ∃ σ2, w2 = WW σ2 ∧ Inv σ2 ∧ Cor σ σ2 ∧ Rd σ2)) := by
  refine Sp_of_R [(some (.ref 117)), (some (.ref 1000004))] [] rfl (by simp) rfl (Nat.le_of_ble_eq_true rfl) ?_
  refine R_aload_n (pc := 0) dX6_readWord_0 rfl rfl ?_
  refine g_X6_24 (pc := 1) (v := .int (σ.1 11704)) rfl dX6_readWord_1 (c_117 _) rfl ?_
  refine R_iconst (pc := 4) (v := (-1)) dX6_readWord_4 (by decide) ?_
  refine R_icne (pc := 5) 23 dX6_readWord_5 (by decide) (fun b5_1 => ?_) (fun b5_1 => ?_)
  · skip
    refine R_aload_n (pc := 23) dX6_readWord_23 rfl rfl ?_
    refine k_X6_44 (pc := 24) (gx_X6_findWrong _ hI hR) rfl (c_117 _) (by decide) (Nat.le_refl _) (Nat.le_refl _) (Nat.le_of_ble_eq_true rfl) dX6_readWord_24 (fun w2 h => ?_)
    obtain ⟨σx4, rfl, hV3, hW6, hR5⟩ := h
    have hW7 := Cor.trans (show Cor σ σ from Cor.rfl' σ) hW6
    exact R_vret (pc := 27) dX6_readWord_27 rfl (Nat.zero_le _) (Nat.zero_le _) ⟨rfl, _, rfl, hV3, hW7, (show Rd σx4 from ⟨(show 0 ≤ ((σx4.1 11702) : Int32).toInt from by have q0 := hR.1; have q1 := hR.2.1; have q2 := hR.2.2; have q3 := hR5.1; have q4 := hR5.2.1; have q5 := hR5.2.2; have q6 := ti_ne b5_1; have q7 := ti_in (rd_s hI hR); have q8 := ti_in (rd_e hI hR); have q9 := ti_in (iv_11701 hI); have q10 := ti_in (rd_s hV3 hR5); have q11 := ti_in (rd_e hV3 hR5); have q12 := ti_in (iv_11701 hV3); have z0 : (-1 : Int32).toInt = -1 := (by decide); have z1 : (0 : Int32).toInt = 0 := (by decide); have z2 : (1 : Int32).toInt = 1 := (by decide); have z3 : (11704 : Int32).toInt = 11704 := (by decide); have z4 : (160 : Int32).toInt = 160 := (by decide); omega), (show ((σx4.1 11702) : Int32).toInt ≤ ((σx4.1 11703) : Int32).toInt from by have q0 := hR.1; have q1 := hR.2.1; have q2 := hR.2.2; have q3 := hR5.1; have q4 := hR5.2.1; have q5 := hR5.2.2; have q6 := ti_ne b5_1; have q7 := ti_in (rd_s hI hR); have q8 := ti_in (rd_e hI hR); have q9 := ti_in (iv_11701 hI); have q10 := ti_in (rd_s hV3 hR5); have q11 := ti_in (rd_e hV3 hR5); have q12 := ti_in (iv_11701 hV3); have z0 : (-1 : Int32).toInt = -1 := (by decide); have z1 : (0 : Int32).toInt = 0 := (by decide); have z2 : (1 : Int32).toInt = 1 := (by decide); have z3 : (11704 : Int32).toInt = 11704 := (by decide); have z4 : (160 : Int32).toInt = 160 := (by decide); omega), (show ((σx4.1 11703) : Int32).toInt ≤ ((σx4.1 11701) : Int32).toInt from by have q0 := hR.1; have q1 := hR.2.1; have q2 := hR.2.2; have q3 := hR5.1; have q4 := hR5.2.1; have q5 := hR5.2.2; have q6 := ti_ne b5_1; have q7 := ti_in (rd_s hI hR); have q8 := ti_in (rd_e hI hR); have q9 := ti_in (iv_11701 hI); have q10 := ti_in (rd_s hV3 hR5); have q11 := ti_in (rd_e hV3 hR5); have q12 := ti_in (iv_11701 hV3); have z0 : (-1 : Int32).toInt = -1 := (by decide); have z1 : (0 : Int32).toInt = 0 := (by decide); have z2 : (1 : Int32).toInt = 1 := (by decide); have z3 : (11704 : Int32).toInt = 11704 := (by decide); have z4 : (160 : Int32).toInt = 160 := (by decide); omega)⟩)⟩
  · skip
    refine R_aload_n (pc := 8) dX6_readWord_8 rfl rfl ?_
    refine R_aload_n (pc := 9) dX6_readWord_9 rfl rfl ?_
    refine k_X6_36 (pc := 10) (gx_X6_isAt_4 _ hI hR) rfl (c_117 _) (by decide) (Nat.le_refl _) (Nat.le_refl _) (Nat.le_of_ble_eq_true rfl) dX6_readWord_10 (fun x w2 h => ?_)
    rcases h with ⟨rfl, rfl | rfl⟩
    · skip
      refine R_ifeq (pc := 13) 23 dX6_readWord_13 (by decide) (fun h => absurd h (by decide)) (fun _ => ?_)
      refine R_aload_n (pc := 16) dX6_readWord_16 rfl rfl ?_
      refine k_X6_27 (pc := 17) (gx_X6_goOn _ hI (show 0 ≤ ((σ.1 11703) : Int32).toInt from by have q0 := hR.1; have q1 := hR.2.1; have q2 := hR.2.2; have q3 := ti_eq b5_1; have q4 := ti_in (rd_s hI hR); have q5 := ti_in (rd_e hI hR); have q6 := ti_in (iv_11701 hI); have z0 : (-1 : Int32).toInt = -1 := (by decide); have z1 : (0 : Int32).toInt = 0 := (by decide); have z2 : (1 : Int32).toInt = 1 := (by decide); have z3 : (11704 : Int32).toInt = 11704 := (by decide); have z4 : (160 : Int32).toInt = 160 := (by decide); omega) (show ((σ.1 11703) : Int32).toInt ≤ ((σ.1 11701) : Int32).toInt from by have q0 := hR.1; have q1 := hR.2.1; have q2 := hR.2.2; have q3 := ti_eq b5_1; have q4 := ti_in (rd_s hI hR); have q5 := ti_in (rd_e hI hR); have q6 := ti_in (iv_11701 hI); have z0 : (-1 : Int32).toInt = -1 := (by decide); have z1 : (0 : Int32).toInt = 0 := (by decide); have z2 : (1 : Int32).toInt = 1 := (by decide); have z3 : (11704 : Int32).toInt = 11704 := (by decide); have z4 : (160 : Int32).toInt = 160 := (by decide); omega) (rd_e hI hR)) rfl (c_117 _) (by decide) (Nat.le_refl _) (Nat.le_refl _) (Nat.le_of_ble_eq_true rfl) dX6_readWord_17 (fun w2 h => ?_)
      obtain ⟨σx12, rfl, hV11, hW14, hR13⟩ := h
      have hW15 := Cor.trans (show Cor σ σ from Cor.rfl' σ) hW14
      refine R_goto (pc := 20) 27 dX6_readWord_20 (by decide) ?_
      exact R_vret (pc := 27) dX6_readWord_27 rfl (Nat.zero_le _) (Nat.zero_le _) ⟨rfl, _, rfl, hV11, hW15, (show Rd σx12 from ⟨(show 0 ≤ ((σx12.1 11702) : Int32).toInt from by have q0 := hR.1; have q1 := hR.2.1; have q2 := hR.2.2; have q3 := hR13.1; have q4 := hR13.2.1; have q5 := hR13.2.2; have q6 := ti_eq b5_1; have q7 := ti_in (rd_s hI hR); have q8 := ti_in (rd_e hI hR); have q9 := ti_in (iv_11701 hI); have q10 := ti_in (rd_s hV11 hR13); have q11 := ti_in (rd_e hV11 hR13); have q12 := ti_in (iv_11701 hV11); have z0 : (-1 : Int32).toInt = -1 := (by decide); have z1 : (0 : Int32).toInt = 0 := (by decide); have z2 : (1 : Int32).toInt = 1 := (by decide); have z3 : (11704 : Int32).toInt = 11704 := (by decide); have z4 : (160 : Int32).toInt = 160 := (by decide); omega), (show ((σx12.1 11702) : Int32).toInt ≤ ((σx12.1 11703) : Int32).toInt from by have q0 := hR.1; have q1 := hR.2.1; have q2 := hR.2.2; have q3 := hR13.1; have q4 := hR13.2.1; have q5 := hR13.2.2; have q6 := ti_eq b5_1; have q7 := ti_in (rd_s hI hR); have q8 := ti_in (rd_e hI hR); have q9 := ti_in (iv_11701 hI); have q10 := ti_in (rd_s hV11 hR13); have q11 := ti_in (rd_e hV11 hR13); have q12 := ti_in (iv_11701 hV11); have z0 : (-1 : Int32).toInt = -1 := (by decide); have z1 : (0 : Int32).toInt = 0 := (by decide); have z2 : (1 : Int32).toInt = 1 := (by decide); have z3 : (11704 : Int32).toInt = 11704 := (by decide); have z4 : (160 : Int32).toInt = 160 := (by decide); omega), (show ((σx12.1 11703) : Int32).toInt ≤ ((σx12.1 11701) : Int32).toInt from by have q0 := hR.1; have q1 := hR.2.1; have q2 := hR.2.2; have q3 := hR13.1; have q4 := hR13.2.1; have q5 := hR13.2.2; have q6 := ti_eq b5_1; have q7 := ti_in (rd_s hI hR); have q8 := ti_in (rd_e hI hR); have q9 := ti_in (iv_11701 hI); have q10 := ti_in (rd_s hV11 hR13); have q11 := ti_in (rd_e hV11 hR13); have q12 := ti_in (iv_11701 hV11); have z0 : (-1 : Int32).toInt = -1 := (by decide); have z1 : (0 : Int32).toInt = 0 := (by decide); have z2 : (1 : Int32).toInt = 1 := (by decide); have z3 : (11704 : Int32).toInt = 11704 := (by decide); have z4 : (160 : Int32).toInt = 160 := (by decide); omega)⟩)⟩
    · skip
      refine R_ifeq (pc := 13) 23 dX6_readWord_13 (by decide) (fun _ => ?_) (fun h => absurd (by decide) h)
      refine R_aload_n (pc := 23) dX6_readWord_23 rfl rfl ?_
      refine k_X6_44 (pc := 24) (gx_X6_findWrong _ hI hR) rfl (c_117 _) (by decide) (Nat.le_refl _) (Nat.le_refl _) (Nat.le_of_ble_eq_true rfl) dX6_readWord_24 (fun w2 h => ?_)
      obtain ⟨σx19, rfl, hV18, hW21, hR20⟩ := h
      have hW22 := Cor.trans (show Cor σ σ from Cor.rfl' σ) hW21
      exact R_vret (pc := 27) dX6_readWord_27 rfl (Nat.zero_le _) (Nat.zero_le _) ⟨rfl, _, rfl, hV18, hW22, (show Rd σx19 from ⟨(show 0 ≤ ((σx19.1 11702) : Int32).toInt from by have q0 := hR.1; have q1 := hR.2.1; have q2 := hR.2.2; have q3 := hR20.1; have q4 := hR20.2.1; have q5 := hR20.2.2; have q6 := ti_eq b5_1; have q7 := ti_in (rd_s hI hR); have q8 := ti_in (rd_e hI hR); have q9 := ti_in (iv_11701 hI); have q10 := ti_in (rd_s hV18 hR20); have q11 := ti_in (rd_e hV18 hR20); have q12 := ti_in (iv_11701 hV18); have z0 : (-1 : Int32).toInt = -1 := (by decide); have z1 : (0 : Int32).toInt = 0 := (by decide); have z2 : (1 : Int32).toInt = 1 := (by decide); have z3 : (11704 : Int32).toInt = 11704 := (by decide); have z4 : (160 : Int32).toInt = 160 := (by decide); omega), (show ((σx19.1 11702) : Int32).toInt ≤ ((σx19.1 11703) : Int32).toInt from by have q0 := hR.1; have q1 := hR.2.1; have q2 := hR.2.2; have q3 := hR20.1; have q4 := hR20.2.1; have q5 := hR20.2.2; have q6 := ti_eq b5_1; have q7 := ti_in (rd_s hI hR); have q8 := ti_in (rd_e hI hR); have q9 := ti_in (iv_11701 hI); have q10 := ti_in (rd_s hV18 hR20); have q11 := ti_in (rd_e hV18 hR20); have q12 := ti_in (iv_11701 hV18); have z0 : (-1 : Int32).toInt = -1 := (by decide); have z1 : (0 : Int32).toInt = 0 := (by decide); have z2 : (1 : Int32).toInt = 1 := (by decide); have z3 : (11704 : Int32).toInt = 11704 := (by decide); have z4 : (160 : Int32).toInt = 160 := (by decide); omega), (show ((σx19.1 11703) : Int32).toInt ≤ ((σx19.1 11701) : Int32).toInt from by have q0 := hR.1; have q1 := hR.2.1; have q2 := hR.2.2; have q3 := hR20.1; have q4 := hR20.2.1; have q5 := hR20.2.2; have q6 := ti_eq b5_1; have q7 := ti_in (rd_s hI hR); have q8 := ti_in (rd_e hI hR); have q9 := ti_in (iv_11701 hI); have q10 := ti_in (rd_s hV18 hR20); have q11 := ti_in (rd_e hV18 hR20); have q12 := ti_in (iv_11701 hV18); have z0 : (-1 : Int32).toInt = -1 := (by decide); have z1 : (0 : Int32).toInt = 0 := (by decide); have z2 : (1 : Int32).toInt = 1 := (by decide); have z3 : (11704 : Int32).toInt = 11704 := (by decide); have z4 : (160 : Int32).toInt = 160 := (by decide); omega)⟩)⟩
theorem dX6_readNumber_0 : decode cX6_readNumber 0 = .ok (.aload_n 0, 1) := by decide +kernel
theorem dX6_readNumber_1 : decode cX6_readNumber 1 = .ok (.invokevirtual 84, 3) := by decide +kernel
theorem dX6_readNumber_4 : decode cX6_readNumber 4 = .ok (.istore_n 3, 1) := by decide +kernel
theorem dX6_readNumber_5 : decode cX6_readNumber 5 = .ok (.aload_n 0, 1) := by decide +kernel
theorem dX6_readNumber_6 : decode cX6_readNumber 6 = .ok (.getfield 24, 3) := by decide +kernel
theorem dX6_readNumber_9 : decode cX6_readNumber 9 = .ok (.iconst (-1), 1) := by decide +kernel
theorem dX6_readNumber_10 : decode cX6_readNumber 10 = .ok (.if_icmp .ne 12, 3) := by decide +kernel
theorem dX6_readNumber_13 : decode cX6_readNumber 13 = .ok (.iload_n 3, 1) := by decide +kernel
theorem dX6_readNumber_14 : decode cX6_readNumber 14 = .ok (.iload_n 1, 1) := by decide +kernel
theorem dX6_readNumber_15 : decode cX6_readNumber 15 = .ok (.iload_n 2, 1) := by decide +kernel
theorem dX6_readNumber_16 : decode cX6_readNumber 16 = .ok (.invokestatic 88, 3) := by decide +kernel
theorem dX6_readNumber_19 : decode cX6_readNumber 19 = .ok (.ifCond .ne 9, 3) := by decide +kernel
theorem dX6_readNumber_22 : decode cX6_readNumber 22 = .ok (.aload_n 0, 1) := by decide +kernel
theorem dX6_readNumber_23 : decode cX6_readNumber 23 = .ok (.invokevirtual 44, 3) := by decide +kernel
theorem dX6_readNumber_26 : decode cX6_readNumber 26 = .ok (.iload_n 1, 1) := by decide +kernel
theorem dX6_readNumber_27 : decode cX6_readNumber 27 = .ok (.ireturn, 1) := by decide +kernel
theorem dX6_readNumber_28 : decode cX6_readNumber 28 = .ok (.aload_n 0, 1) := by decide +kernel
theorem dX6_readNumber_29 : decode cX6_readNumber 29 = .ok (.invokevirtual 27, 3) := by decide +kernel
theorem dX6_readNumber_32 : decode cX6_readNumber 32 = .ok (.iload_n 3, 1) := by decide +kernel
theorem dX6_readNumber_33 : decode cX6_readNumber 33 = .ok (.ireturn, 1) := by decide +kernel
set_option maxRecDepth 100000 in
set_option maxHeartbeats 40000000 in
theorem gx_X6_readNumber {G : vG} {l : Launch} (σ : Sg) (a b : Int32) (hI : Inv σ) (hR : Rd σ) : Sp G l yX6_readNumber cX6_readNumber 4 (some .int) 3 0 0 [.ref 117, .int a, .int b] (WW σ) (QI (fun _ w2 => ∃ σ2, w2 = WW σ2 ∧ Inv σ2 ∧ Cor σ σ2 ∧ Rd σ2)) := by
  refine Sp_of_R [(some (.ref 117)), (some (.int a)), (some (.int b)), none] [none] rfl (by simp) rfl (Nat.le_of_ble_eq_true rfl) ?_
  refine R_aload_n (pc := 0) dX6_readNumber_0 rfl rfl ?_
  refine k_X6_84 (pc := 1) (gx_X6_numberAt _ hI hR) rfl (c_117 _) (by decide) (Nat.le_refl _) (Nat.le_refl _) (Nat.le_of_ble_eq_true rfl) dX6_readNumber_1 (fun y1 w2 h => ?_)
  subst h
  refine st_4_3_i_i (pc := 4) dX6_readNumber_4 ?_
  refine R_aload_n (pc := 5) dX6_readNumber_5 rfl rfl ?_
  refine g_X6_24 (pc := 6) (v := .int (σ.1 11704)) rfl dX6_readNumber_6 (c_117 _) rfl ?_
  refine R_iconst (pc := 9) (v := (-1)) dX6_readNumber_9 (by decide) ?_
  refine R_icne (pc := 10) 22 dX6_readNumber_10 (by decide) (fun b10_2 => ?_) (fun b10_2 => ?_)
  · skip
    refine R_aload_n (pc := 22) dX6_readNumber_22 rfl rfl ?_
    refine k_X6_44 (pc := 23) (gx_X6_findWrong _ hI hR) rfl (c_117 _) (by decide) (Nat.le_refl _) (Nat.le_refl _) (Nat.le_of_ble_eq_true rfl) dX6_readNumber_23 (fun w2 h => ?_)
    obtain ⟨σx5, rfl, hV4, hW7, hR6⟩ := h
    have hW8 := Cor.trans (show Cor σ σ from Cor.rfl' σ) hW7
    refine R_iload_n (pc := 26) dX6_readNumber_26 rfl rfl ?_
    exact R_iret (pc := 27) dX6_readNumber_27 rfl rfl (Nat.zero_le _) (Nat.zero_le _) ⟨_, rfl, _, rfl, hV4, hW8, (show Rd σx5 from ⟨(show 0 ≤ ((σx5.1 11702) : Int32).toInt from by have q0 := hR.1; have q1 := hR.2.1; have q2 := hR.2.2; have q3 := hR6.1; have q4 := hR6.2.1; have q5 := hR6.2.2; have q6 := ti_ne b10_2; have q7 := ti_in (rd_s hI hR); have q8 := ti_in (rd_e hI hR); have q9 := ti_in (iv_11701 hI); have q10 := ti_in (rd_s hV4 hR6); have q11 := ti_in (rd_e hV4 hR6); have q12 := ti_in (iv_11701 hV4); have z0 : (-1 : Int32).toInt = -1 := (by decide); have z1 : (0 : Int32).toInt = 0 := (by decide); have z2 : (1 : Int32).toInt = 1 := (by decide); have z3 : (11704 : Int32).toInt = 11704 := (by decide); have z4 : (160 : Int32).toInt = 160 := (by decide); omega), (show ((σx5.1 11702) : Int32).toInt ≤ ((σx5.1 11703) : Int32).toInt from by have q0 := hR.1; have q1 := hR.2.1; have q2 := hR.2.2; have q3 := hR6.1; have q4 := hR6.2.1; have q5 := hR6.2.2; have q6 := ti_ne b10_2; have q7 := ti_in (rd_s hI hR); have q8 := ti_in (rd_e hI hR); have q9 := ti_in (iv_11701 hI); have q10 := ti_in (rd_s hV4 hR6); have q11 := ti_in (rd_e hV4 hR6); have q12 := ti_in (iv_11701 hV4); have z0 : (-1 : Int32).toInt = -1 := (by decide); have z1 : (0 : Int32).toInt = 0 := (by decide); have z2 : (1 : Int32).toInt = 1 := (by decide); have z3 : (11704 : Int32).toInt = 11704 := (by decide); have z4 : (160 : Int32).toInt = 160 := (by decide); omega), (show ((σx5.1 11703) : Int32).toInt ≤ ((σx5.1 11701) : Int32).toInt from by have q0 := hR.1; have q1 := hR.2.1; have q2 := hR.2.2; have q3 := hR6.1; have q4 := hR6.2.1; have q5 := hR6.2.2; have q6 := ti_ne b10_2; have q7 := ti_in (rd_s hI hR); have q8 := ti_in (rd_e hI hR); have q9 := ti_in (iv_11701 hI); have q10 := ti_in (rd_s hV4 hR6); have q11 := ti_in (rd_e hV4 hR6); have q12 := ti_in (iv_11701 hV4); have z0 : (-1 : Int32).toInt = -1 := (by decide); have z1 : (0 : Int32).toInt = 0 := (by decide); have z2 : (1 : Int32).toInt = 1 := (by decide); have z3 : (11704 : Int32).toInt = 11704 := (by decide); have z4 : (160 : Int32).toInt = 160 := (by decide); omega)⟩)⟩
  · skip
    refine R_iload_n (pc := 13) dX6_readNumber_13 rfl rfl ?_
    refine R_iload_n (pc := 14) dX6_readNumber_14 rfl rfl ?_
    refine R_iload_n (pc := 15) dX6_readNumber_15 rfl rfl ?_
    refine k_X6_88 (pc := 16) (sp_X8_isWithin _ _ _ _) rfl (by decide) (Nat.le_refl _) (Nat.le_refl _) (Nat.le_of_ble_eq_true rfl) dX6_readNumber_16 (fun x w2 h => ?_)
    rcases h with ⟨rfl, ⟨h9, rfl⟩ | ⟨h9, rfl⟩⟩
    · skip
      refine R_ifne (pc := 19) 28 dX6_readNumber_19 (by decide) (fun _ => ?_) (fun h => absurd h (by decide))
      refine R_aload_n (pc := 28) dX6_readNumber_28 rfl rfl ?_
      refine k_X6_27 (pc := 29) (gx_X6_goOn _ hI (show 0 ≤ ((σ.1 11703) : Int32).toInt from by have q0 := hR.1; have q1 := hR.2.1; have q2 := hR.2.2; have q3 := ti_in h9; have q4 := ti_eq b10_2; have q5 := ti_in (rd_s hI hR); have q6 := ti_in (rd_e hI hR); have q7 := ti_in (iv_11701 hI); have z0 : (-1 : Int32).toInt = -1 := (by decide); have z1 : (0 : Int32).toInt = 0 := (by decide); have z2 : (1 : Int32).toInt = 1 := (by decide); have z3 : (11704 : Int32).toInt = 11704 := (by decide); have z4 : (160 : Int32).toInt = 160 := (by decide); omega) (show ((σ.1 11703) : Int32).toInt ≤ ((σ.1 11701) : Int32).toInt from by have q0 := hR.1; have q1 := hR.2.1; have q2 := hR.2.2; have q3 := ti_in h9; have q4 := ti_eq b10_2; have q5 := ti_in (rd_s hI hR); have q6 := ti_in (rd_e hI hR); have q7 := ti_in (iv_11701 hI); have z0 : (-1 : Int32).toInt = -1 := (by decide); have z1 : (0 : Int32).toInt = 0 := (by decide); have z2 : (1 : Int32).toInt = 1 := (by decide); have z3 : (11704 : Int32).toInt = 11704 := (by decide); have z4 : (160 : Int32).toInt = 160 := (by decide); omega) (rd_e hI hR)) rfl (c_117 _) (by decide) (Nat.le_refl _) (Nat.le_refl _) (Nat.le_of_ble_eq_true rfl) dX6_readNumber_29 (fun w2 h => ?_)
      obtain ⟨σx13, rfl, hV12, hW15, hR14⟩ := h
      have hW16 := Cor.trans (show Cor σ σ from Cor.rfl' σ) hW15
      refine R_iload_n (pc := 32) dX6_readNumber_32 rfl rfl ?_
      exact R_iret (pc := 33) dX6_readNumber_33 rfl rfl (Nat.zero_le _) (Nat.zero_le _) ⟨_, rfl, _, rfl, hV12, hW16, (show Rd σx13 from ⟨(show 0 ≤ ((σx13.1 11702) : Int32).toInt from by have q0 := hR.1; have q1 := hR.2.1; have q2 := hR.2.2; have q3 := ti_in h9; have q4 := hR14.1; have q5 := hR14.2.1; have q6 := hR14.2.2; have q7 := ti_eq b10_2; have q8 := ti_in (rd_s hI hR); have q9 := ti_in (rd_e hI hR); have q10 := ti_in (iv_11701 hI); have q11 := ti_in (rd_s hV12 hR14); have q12 := ti_in (rd_e hV12 hR14); have q13 := ti_in (iv_11701 hV12); have z0 : (-1 : Int32).toInt = -1 := (by decide); have z1 : (0 : Int32).toInt = 0 := (by decide); have z2 : (1 : Int32).toInt = 1 := (by decide); have z3 : (11704 : Int32).toInt = 11704 := (by decide); have z4 : (160 : Int32).toInt = 160 := (by decide); omega), (show ((σx13.1 11702) : Int32).toInt ≤ ((σx13.1 11703) : Int32).toInt from by have q0 := hR.1; have q1 := hR.2.1; have q2 := hR.2.2; have q3 := ti_in h9; have q4 := hR14.1; have q5 := hR14.2.1; have q6 := hR14.2.2; have q7 := ti_eq b10_2; have q8 := ti_in (rd_s hI hR); have q9 := ti_in (rd_e hI hR); have q10 := ti_in (iv_11701 hI); have q11 := ti_in (rd_s hV12 hR14); have q12 := ti_in (rd_e hV12 hR14); have q13 := ti_in (iv_11701 hV12); have z0 : (-1 : Int32).toInt = -1 := (by decide); have z1 : (0 : Int32).toInt = 0 := (by decide); have z2 : (1 : Int32).toInt = 1 := (by decide); have z3 : (11704 : Int32).toInt = 11704 := (by decide); have z4 : (160 : Int32).toInt = 160 := (by decide); omega), (show ((σx13.1 11703) : Int32).toInt ≤ ((σx13.1 11701) : Int32).toInt from by have q0 := hR.1; have q1 := hR.2.1; have q2 := hR.2.2; have q3 := ti_in h9; have q4 := hR14.1; have q5 := hR14.2.1; have q6 := hR14.2.2; have q7 := ti_eq b10_2; have q8 := ti_in (rd_s hI hR); have q9 := ti_in (rd_e hI hR); have q10 := ti_in (iv_11701 hI); have q11 := ti_in (rd_s hV12 hR14); have q12 := ti_in (rd_e hV12 hR14); have q13 := ti_in (iv_11701 hV12); have z0 : (-1 : Int32).toInt = -1 := (by decide); have z1 : (0 : Int32).toInt = 0 := (by decide); have z2 : (1 : Int32).toInt = 1 := (by decide); have z3 : (11704 : Int32).toInt = 11704 := (by decide); have z4 : (160 : Int32).toInt = 160 := (by decide); omega)⟩)⟩
    · skip
      refine R_ifne (pc := 19) 28 dX6_readNumber_19 (by decide) (fun h => absurd (by decide) h) (fun _ => ?_)
      refine R_aload_n (pc := 22) dX6_readNumber_22 rfl rfl ?_
      refine k_X6_44 (pc := 23) (gx_X6_findWrong _ hI hR) rfl (c_117 _) (by decide) (Nat.le_refl _) (Nat.le_refl _) (Nat.le_of_ble_eq_true rfl) dX6_readNumber_23 (fun w2 h => ?_)
      obtain ⟨σx20, rfl, hV19, hW22, hR21⟩ := h
      have hW23 := Cor.trans (show Cor σ σ from Cor.rfl' σ) hW22
      refine R_iload_n (pc := 26) dX6_readNumber_26 rfl rfl ?_
      exact R_iret (pc := 27) dX6_readNumber_27 rfl rfl (Nat.zero_le _) (Nat.zero_le _) ⟨_, rfl, _, rfl, hV19, hW23, (show Rd σx20 from ⟨(show 0 ≤ ((σx20.1 11702) : Int32).toInt from by have q0 := hR.1; have q1 := hR.2.1; have q2 := hR.2.2; have q3 := hR21.1; have q4 := hR21.2.1; have q5 := hR21.2.2; have q6 := ti_eq b10_2; have q7 := ti_in (rd_s hI hR); have q8 := ti_in (rd_e hI hR); have q9 := ti_in (iv_11701 hI); have q10 := ti_in (rd_s hV19 hR21); have q11 := ti_in (rd_e hV19 hR21); have q12 := ti_in (iv_11701 hV19); have z0 : (-1 : Int32).toInt = -1 := (by decide); have z1 : (0 : Int32).toInt = 0 := (by decide); have z2 : (1 : Int32).toInt = 1 := (by decide); have z3 : (11704 : Int32).toInt = 11704 := (by decide); have z4 : (160 : Int32).toInt = 160 := (by decide); omega), (show ((σx20.1 11702) : Int32).toInt ≤ ((σx20.1 11703) : Int32).toInt from by have q0 := hR.1; have q1 := hR.2.1; have q2 := hR.2.2; have q3 := hR21.1; have q4 := hR21.2.1; have q5 := hR21.2.2; have q6 := ti_eq b10_2; have q7 := ti_in (rd_s hI hR); have q8 := ti_in (rd_e hI hR); have q9 := ti_in (iv_11701 hI); have q10 := ti_in (rd_s hV19 hR21); have q11 := ti_in (rd_e hV19 hR21); have q12 := ti_in (iv_11701 hV19); have z0 : (-1 : Int32).toInt = -1 := (by decide); have z1 : (0 : Int32).toInt = 0 := (by decide); have z2 : (1 : Int32).toInt = 1 := (by decide); have z3 : (11704 : Int32).toInt = 11704 := (by decide); have z4 : (160 : Int32).toInt = 160 := (by decide); omega), (show ((σx20.1 11703) : Int32).toInt ≤ ((σx20.1 11701) : Int32).toInt from by have q0 := hR.1; have q1 := hR.2.1; have q2 := hR.2.2; have q3 := hR21.1; have q4 := hR21.2.1; have q5 := hR21.2.2; have q6 := ti_eq b10_2; have q7 := ti_in (rd_s hI hR); have q8 := ti_in (rd_e hI hR); have q9 := ti_in (iv_11701 hI); have q10 := ti_in (rd_s hV19 hR21); have q11 := ti_in (rd_e hV19 hR21); have q12 := ti_in (iv_11701 hV19); have z0 : (-1 : Int32).toInt = -1 := (by decide); have z1 : (0 : Int32).toInt = 0 := (by decide); have z2 : (1 : Int32).toInt = 1 := (by decide); have z3 : (11704 : Int32).toInt = 11704 := (by decide); have z4 : (160 : Int32).toInt = 160 := (by decide); omega)⟩)⟩
