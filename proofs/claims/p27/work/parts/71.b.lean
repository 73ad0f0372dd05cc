/-! methods on any state that keeps the invariant -/
def seesM (w : Int64) (a b : Int32) : Bool := nwB w (pM a b) (gAB a b).toNatClampNeg
theorem seesM_eq (w : Int64) (a b : Int32) : seesM w a b = seesB w a b := by unfold seesM seesB; rw [p_eq]
set_option maxRecDepth 100000 in
set_option maxHeartbeats 40000000 in
theorem ge_X9_isWall {G : vG} {l : Launch} (σ : Sg) (a : Int32) (hI : Inv σ) : Sp G l yX9_isWall cX9_isWall 2 (some .boolean) 0 0 0 [.ref 140, .int a] (WW σ) (QI (fun x w2 => w2 = WW σ ∧ (wB (σ.2.1 14034) a = true ∧ x = 1 ∨ wB (σ.2.1 14034) a = false ∧ x = 0))) := by
  refine Sp_of_R [(some (.ref 140)), (some (.int a))] [] rfl (by simp) rfl (Nat.le_of_ble_eq_true rfl) ?_
  refine R_aload_n (pc := 0) dX9_isWall_0 rfl rfl ?_
  refine g_X9_232 (pc := 1) (v := .long (σ.2.1 14034)) rfl dX9_isWall_1 (c_140 _) rfl ?_
  refine R_iload_n (pc := 4) dX9_isWall_4 rfl rfl ?_
  refine R_lshr (pc := 5) dX9_isWall_5 ?_
  refine R_lconst (pc := 6) (v := 1) dX9_isWall_6 (by decide) ?_
  refine R_land (pc := 7) dX9_isWall_7 ?_
  refine R_lconst (pc := 8) (v := 1) dX9_isWall_8 (by decide) ?_
  refine R_lcmp (pc := 9) dX9_isWall_9 ?_
  refine R_ifne (pc := 10) 17 dX9_isWall_10 (by decide) (fun b10_1 => ?_) (fun b10_1 => ?_)
  · skip
    refine R_iconst (pc := 17) (v := 0) dX9_isWall_17 (by decide) ?_
    exact R_iret (pc := 18) dX9_isWall_18 rfl rfl (Nat.zero_le _) (Nat.zero_le _) ⟨_, rfl, rfl, Or.inr ⟨decide_eq_false b10_1, rfl⟩⟩
  · skip
    refine R_iconst (pc := 13) (v := 1) dX9_isWall_13 (by decide) ?_
    refine R_goto (pc := 14) 18 dX9_isWall_14 (by decide) ?_
    exact R_iret (pc := 18) dX9_isWall_18 rfl rfl (Nat.zero_le _) (Nat.zero_le _) ⟨_, rfl, rfl, Or.inl ⟨decide_eq_true b10_1, rfl⟩⟩
set_option maxRecDepth 100000 in
set_option maxHeartbeats 40000000 in
theorem ge_X9_isOrdered {G : vG} {l : Launch} (σ : Sg) (a b c : Int32) (hI : Inv σ) : Sp G l yX9_isOrdered cX9_isOrdered 8 (some .boolean) 0 0 0 [.ref 140, .int a, .int b, .int c] (WW σ) (QI (fun x w2 => w2 = WW σ ∧ (lofB a b c = true ∧ x = 1 ∨ lofB a b c = false ∧ x = 0))) := by
  refine Sp_of_R [(some (.ref 140)), (some (.int a)), (some (.int b)), (some (.int c)), none, none, none, none] [none, none, none, none] rfl (by simp) rfl (Nat.le_of_ble_eq_true rfl) ?_
  refine R_iload_n (pc := 0) dX9_isOrdered_0 rfl rfl ?_
  refine R_bipush (pc := 1) (v := 8) dX9_isOrdered_1 (by decide) ?_
  refine R_irem (pc := 3) dX9_isOrdered_3 (by decide) ?_
  refine R_iload_n (pc := 4) dX9_isOrdered_4 rfl rfl ?_
  refine R_bipush (pc := 5) (v := 8) dX9_isOrdered_5 (by decide) ?_
  refine R_irem (pc := 7) dX9_isOrdered_7 (by decide) ?_
  refine R_isub (pc := 8) dX9_isOrdered_8 ?_
  refine st_8_4_i_i (pc := 9) dX9_isOrdered_9 ?_
  refine R_iload_n (pc := 11) dX9_isOrdered_11 rfl rfl ?_
  refine R_bipush (pc := 12) (v := 8) dX9_isOrdered_12 (by decide) ?_
  refine R_idiv (pc := 14) dX9_isOrdered_14 (by decide) ?_
  refine R_iload_n (pc := 15) dX9_isOrdered_15 rfl rfl ?_
  refine R_bipush (pc := 16) (v := 8) dX9_isOrdered_16 (by decide) ?_
  refine R_idiv (pc := 18) dX9_isOrdered_18 (by decide) ?_
  refine R_isub (pc := 19) dX9_isOrdered_19 ?_
  refine st_8_5_i_i (pc := 20) dX9_isOrdered_20 ?_
  refine R_iload_n (pc := 22) dX9_isOrdered_22 rfl rfl ?_
  refine R_bipush (pc := 23) (v := 8) dX9_isOrdered_23 (by decide) ?_
  refine R_irem (pc := 25) dX9_isOrdered_25 (by decide) ?_
  refine R_iload_n (pc := 26) dX9_isOrdered_26 rfl rfl ?_
  refine R_bipush (pc := 27) (v := 8) dX9_isOrdered_27 (by decide) ?_
  refine R_irem (pc := 29) dX9_isOrdered_29 (by decide) ?_
  refine R_isub (pc := 30) dX9_isOrdered_30 ?_
  refine st_8_6_i_i (pc := 31) dX9_isOrdered_31 ?_
  refine R_iload_n (pc := 33) dX9_isOrdered_33 rfl rfl ?_
  refine R_bipush (pc := 34) (v := 8) dX9_isOrdered_34 (by decide) ?_
  refine R_idiv (pc := 36) dX9_isOrdered_36 (by decide) ?_
  refine R_iload_n (pc := 37) dX9_isOrdered_37 rfl rfl ?_
  refine R_bipush (pc := 38) (v := 8) dX9_isOrdered_38 (by decide) ?_
  refine R_idiv (pc := 40) dX9_isOrdered_40 (by decide) ?_
  refine R_isub (pc := 41) dX9_isOrdered_41 ?_
  refine st_8_7_i_i (pc := 42) dX9_isOrdered_42 ?_
  refine R_iload (pc := 44) dX9_isOrdered_44 rfl ?_
  refine R_iload (pc := 46) dX9_isOrdered_46 rfl ?_
  refine R_imul (pc := 48) dX9_isOrdered_48 ?_
  refine R_iload (pc := 49) dX9_isOrdered_49 rfl ?_
  refine R_iload (pc := 51) dX9_isOrdered_51 rfl ?_
  refine R_imul (pc := 53) dX9_isOrdered_53 ?_
  refine R_isub (pc := 54) dX9_isOrdered_54 ?_
  refine R_ifle (pc := 55) 62 dX9_isOrdered_55 (by decide) (fun b55_1 => ?_) (fun b55_1 => ?_)
  · skip
    refine R_iconst (pc := 62) (v := 0) dX9_isOrdered_62 (by decide) ?_
    exact R_iret (pc := 63) dX9_isOrdered_63 rfl rfl (Nat.zero_le _) (Nat.zero_le _) ⟨_, rfl, rfl, Or.inr ⟨decide_eq_false (Int32.not_lt.mpr b55_1), rfl⟩⟩
  · skip
    refine R_iconst (pc := 58) (v := 1) dX9_isOrdered_58 (by decide) ?_
    refine R_goto (pc := 59) 63 dX9_isOrdered_59 (by decide) ?_
    exact R_iret (pc := 63) dX9_isOrdered_63 rfl rfl (Nat.zero_le _) (Nat.zero_le _) ⟨_, rfl, rfl, Or.inl ⟨decide_eq_true (Int32.not_le.mp b55_1), rfl⟩⟩
set_option maxRecDepth 100000 in
set_option maxHeartbeats 40000000 in
theorem ge_X9_common {G : vG} {l : Launch} (w : VW) (a b : Int32) (ha : 0 ≤ a.toInt) (hb : 0 ≤ b.toInt) : Sp G l yX9_common cX9_common 5 (some .int) 0 0 0 [.int a, .int b] (w) (QI (fun x w2 => w2 = w ∧ x = cdR b.toInt.toNat a b)) := by
  refine Sp_of_R [(some (.int a)), (some (.int b)), none, none, none] [none, none, none] rfl (by simp) rfl (Nat.le_of_ble_eq_true rfl) ?_
  refine R_iload_n (pc := 0) dX9_common_0 rfl rfl ?_
  refine st_5_2_i_i (pc := 1) dX9_common_1 ?_
  refine R_iload_n (pc := 2) dX9_common_2 rfl rfl ?_
  refine st_5_3_i_i (pc := 3) dX9_common_3 ?_
  have HL : ∀ (q : Nat) (u v : Int32) (o : Option Value), v.toInt ≤ (q : Int) → 0 ≤ u.toInt → 0 ≤ v.toInt → cdR b.toInt.toNat a b = cdR q u v → R G l yX9_common cX9_common 5 (some .int) 0 0 0 (QI (fun x w2 => w2 = w ∧ x = cdR b.toInt.toNat a b)) 4 [(some (.int a)), (some (.int b)), (some (.int u)), (some (.int v)), o] [] (w) 0 0 := by
    intro q
    induction q with
    | zero =>
      intro u v o hq hu hv he
      obtain rfl : v = 0 := Int32.toInt_inj.mp (by have z : (0 : Int32).toInt = 0 := (by decide); omega)
      refine R_iload_n (pc := 4) dX9_common_4 rfl rfl ?_
      refine R_ifeq (pc := 5) 21 dX9_common_5 (by decide) (fun _ => ?_) (fun h => absurd (by decide) h)
      refine R_iload_n (pc := 21) dX9_common_21 rfl rfl ?_
      exact R_iret (pc := 22) dX9_common_22 rfl rfl (Nat.zero_le _) (Nat.zero_le _) ⟨_, rfl, rfl, (by first | exact cd_end0 he | exact cd_end he (by assumption))⟩
    | succ q ih =>
      intro u v o hq hu hv he
      refine R_iload_n (pc := 4) dX9_common_4 rfl rfl ?_
      refine R_ifeq (pc := 5) 21 dX9_common_5 (by decide) (fun b5_2 => ?_) (fun b5_2 => ?_)
      · skip
        refine R_iload_n (pc := 21) dX9_common_21 rfl rfl ?_
        exact R_iret (pc := 22) dX9_common_22 rfl rfl (Nat.zero_le _) (Nat.zero_le _) ⟨_, rfl, rfl, (by first | exact cd_end0 he | exact cd_end he (by assumption))⟩
      · skip
        refine R_iload_n (pc := 8) dX9_common_8 rfl rfl ?_
        refine R_iload_n (pc := 9) dX9_common_9 rfl rfl ?_
        refine R_irem (pc := 10) dX9_common_10 b5_2 ?_
        refine st_5_4_i_i (pc := 11) dX9_common_11 ?_
        refine R_iload_n (pc := 13) dX9_common_13 rfl rfl ?_
        refine st_5_2_i_i (pc := 14) dX9_common_14 ?_
        refine R_iload (pc := 15) dX9_common_15 rfl ?_
        refine st_5_3_i_i (pc := 17) dX9_common_17 ?_
        refine R_goto (pc := 18) 4 dX9_common_18 (by decide) ?_
        have hp : 0 < v.toInt := by have := ti_ne b5_2; have z : (0 : Int32).toInt = 0 := (by decide); omega
        have hr := rem_in hu hp
        exact ih v _ _ (by omega) hv hr.1 (cd_step he b5_2)
  exact HL b.toInt.toNat a b _ (by omega) ha hb rfl
theorem gne_of {g : Int32} {j : Nat} (h : ¬ g ≤ nI j) (hj : j < 20) : ¬ g = 0 := fun e => h (by rw [e]; exact nI_pos' (by omega))
set_option maxRecDepth 100000 in
set_option maxHeartbeats 40000000 in
theorem ge_X9_isSeen {G : vG} {l : Launch} (σ : Sg) (a b : Int32) (hI : Inv σ) (ha : inR a 0 63) (hb : inR b 0 63) : Sp G l yX9_isSeen cX9_isSeen 8 (some .boolean) 1 0 0 [.ref 140, .int a, .int b] (WW σ) (QI (fun x w2 => w2 = WW σ ∧ (seesM (σ.2.1 14034) a b = true ∧ x = 1 ∨ seesM (σ.2.1 14034) a b = false ∧ x = 0))) := by
  refine Sp_of_R [(some (.ref 140)), (some (.int a)), (some (.int b)), none, none, none, none, none] [none, none, none, none, none] rfl (by simp) rfl (Nat.le_of_ble_eq_true rfl) ?_
  refine R_iload_n (pc := 0) dX9_isSeen_0 rfl rfl ?_
  refine R_bipush (pc := 1) (v := 8) dX9_isSeen_1 (by decide) ?_
  refine R_irem (pc := 3) dX9_isSeen_3 (by decide) ?_
  refine R_iload_n (pc := 4) dX9_isSeen_4 rfl rfl ?_
  refine R_bipush (pc := 5) (v := 8) dX9_isSeen_5 (by decide) ?_
  refine R_irem (pc := 7) dX9_isSeen_7 (by decide) ?_
  refine R_isub (pc := 8) dX9_isSeen_8 ?_
  have r1 : inR ((b - b / 8 * 8) - (a - a / 8 * 8)) (-7) 7 := inR_sub (show inR (b - b / 8 * 8) 0 7 from (rem8_s hb)) (show inR (a - a / 8 * 8) 0 7 from (rem8_s ha)) (by decide) (by decide)
  have e2 := ti_sub (l := (-7)) (h := 7) (show inR (b - b / 8 * 8) 0 7 from (rem8_s hb)) (show inR (a - a / 8 * 8) 0 7 from (rem8_s ha)) (by decide) (by decide)
  refine st_8_3_i_i (pc := 9) dX9_isSeen_9 ?_
  refine R_iload_n (pc := 10) dX9_isSeen_10 rfl rfl ?_
  refine R_bipush (pc := 11) (v := 8) dX9_isSeen_11 (by decide) ?_
  refine R_idiv (pc := 13) dX9_isSeen_13 (by decide) ?_
  refine R_iload_n (pc := 14) dX9_isSeen_14 rfl rfl ?_
  refine R_bipush (pc := 15) (v := 8) dX9_isSeen_15 (by decide) ?_
  refine R_idiv (pc := 17) dX9_isSeen_17 (by decide) ?_
  refine R_isub (pc := 18) dX9_isSeen_18 ?_
  have r3 : inR ((b / 8) - (a / 8)) (-7) 7 := inR_sub (show inR (b / 8) 0 7 from (div8_s hb)) (show inR (a / 8) 0 7 from (div8_s ha)) (by decide) (by decide)
  have e4 := ti_sub (l := (-7)) (h := 7) (show inR (b / 8) 0 7 from (div8_s hb)) (show inR (a / 8) 0 7 from (div8_s ha)) (by decide) (by decide)
  refine st_8_4_i_i (pc := 19) dX9_isSeen_19 ?_
  refine R_iload_n (pc := 21) dX9_isSeen_21 rfl rfl ?_
  refine R_ifge (pc := 22) 30 dX9_isSeen_22 (by decide) (fun b22_5 => ?_) (fun b22_5 => ?_)
  · skip
    refine R_iload_n (pc := 30) dX9_isSeen_30 rfl rfl ?_
    refine R_iload (pc := 31) dX9_isSeen_31 rfl ?_
    refine R_ifge (pc := 33) 42 dX9_isSeen_33 (by decide) (fun b33_6 => ?_) (fun b33_6 => ?_)
    · skip
      refine R_iload (pc := 42) dX9_isSeen_42 rfl ?_
      refine k_X9_191 (pc := 44) (ge_X9_common _ _ _ (by have q0 := e2; have q1 := e4; have q2 := ti_le b22_5; have q3 := ti_le b33_6; have q4 := ti_in ha; have q5 := ti_in hb; have q6 := ti_in (rem8_s hb); have q7 := ti_in (rem8_s ha); have q8 := ti_in r1; have q9 := ti_in (div8_s hb); have q10 := ti_in (div8_s ha); have q11 := ti_in r3; have z0 : (-7 : Int32).toInt = -7 := (by decide); have z1 : (0 : Int32).toInt = 0 := (by decide); have z2 : (1 : Int32).toInt = 1 := (by decide); have z3 : (63 : Int32).toInt = 63 := (by decide); have z4 : (7 : Int32).toInt = 7 := (by decide); have z5 : (8 : Int32).toInt = 8 := (by decide); omega) (by have q0 := e2; have q1 := e4; have q2 := ti_le b22_5; have q3 := ti_le b33_6; have q4 := ti_in ha; have q5 := ti_in hb; have q6 := ti_in (rem8_s hb); have q7 := ti_in (rem8_s ha); have q8 := ti_in r1; have q9 := ti_in (div8_s hb); have q10 := ti_in (div8_s ha); have q11 := ti_in r3; have z0 : (-7 : Int32).toInt = -7 := (by decide); have z1 : (0 : Int32).toInt = 0 := (by decide); have z2 : (1 : Int32).toInt = 1 := (by decide); have z3 : (63 : Int32).toInt = 63 := (by decide); have z4 : (7 : Int32).toInt = 7 := (by decide); have z5 : (8 : Int32).toInt = 8 := (by decide); omega)) rfl (by decide) (Nat.le_refl _) (Nat.le_refl _) (Nat.le_of_ble_eq_true rfl) dX9_isSeen_44 (fun x w2 h => ?_)
      obtain ⟨rfl, rfl⟩ := h
      refine R_cv (gAB a b) (by rw [← (show absI ((b - b / 8 * 8) - (a - a / 8 * 8)) = _ from (abs_p b22_5)), ← (show absI ((b / 8) - (a / 8)) = _ from (abs_p b33_6))]; exact gM_eq (dX_in ha hb) (dY_in ha hb)) ?_
      refine st_8_5_i_i (pc := 47) dX9_isSeen_47 ?_
      refine R_iconst (pc := 49) (v := 1) dX9_isSeen_49 (by decide) ?_
      refine st_8_6_i_i (pc := 50) dX9_isSeen_50 ?_
      refine R_iconst (pc := 52) (v := 1) dX9_isSeen_52 (by decide) ?_
      refine st_8_7_i_i (pc := 53) dX9_isSeen_53 ?_
      have HL55 : ∀ (q j55 : Nat) (g6_55 : Int32), j55 + q = 8 → 1 ≤ j55 → inR g6_55 0 1 → (g6_55 = 1 ∧ nwB (σ.2.1 14034) (pM a b) j55 = true ∨ g6_55 = 0 ∧ nwB (σ.2.1 14034) (pM a b) j55 = false) → (nI j55 ≤ (gAB a b) ∨ j55 = 1) → R G l yX9_isSeen cX9_isSeen 8 (some .boolean) 1 0 0 (QI (fun x w2 => w2 = WW σ ∧ (seesM (σ.2.1 14034) a b = true ∧ x = 1 ∨ seesM (σ.2.1 14034) a b = false ∧ x = 0))) 55 [(some (.ref 140)), (some (.int a)), (some (.int b)), (some (.int ((b - b / 8 * 8) - (a - a / 8 * 8)))), (some (.int ((b / 8) - (a / 8)))), (some (.int (gAB a b))), (some (.int g6_55)), (some (.int (nI j55)))] [] (WW σ) 0 0 := by
        intro q
        induction q with
        | zero =>
          intro j55 g6_55 hj hs55 hg6_55 hX55_0 hX55_1
          obtain rfl : j55 = 8 := by omega
          refine R_iload (pc := 55) dX9_isSeen_55 rfl ?_
          refine R_iload (pc := 57) dX9_isSeen_57 rfl ?_
          refine R_icge (pc := 59) 108 dX9_isSeen_59 (by decide) (fun _ => ?_) (fun h => absurd (Int32.not_lt.mp (inR_up (gAB_in ha hb) (Int32.le_refl _) (by decide)).2) h)
          refine R_iload (pc := 108) dX9_isSeen_108 rfl ?_
          exact R_iret (pc := 110) dX9_isSeen_110 rfl (nar01 hg6_55) (Nat.zero_le _) (Nat.zero_le _) ⟨_, rfl, rfl, hX55_0.imp (fun q => ⟨(nw_end (w := (σ.2.1 14034)) (p := (pM a b)) (by omega) (by omega) hX55_1 (by first | assumption | exact le_in (gAB_in ha hb)) (gAB_in ha hb)).trans q.2, q.1⟩) (fun q => ⟨(nw_end (w := (σ.2.1 14034)) (p := (pM a b)) (by omega) (by omega) hX55_1 (by first | assumption | exact le_in (gAB_in ha hb)) (gAB_in ha hb)).trans q.2, q.1⟩)⟩
        | succ q ih55 =>
          intro j55 g6_55 hj hs55 hg6_55 hX55_0 hX55_1
          have hrg55 : inR (nI j55) 1 7 := inR_ix hs55 (show j55 < 8 by omega) (by decide) (by decide) (by decide)
          have hlt55 : j55 < 8 := by omega
          refine R_iload (pc := 55) dX9_isSeen_55 rfl ?_
          refine R_iload (pc := 57) dX9_isSeen_57 rfl ?_
          refine R_icge (pc := 59) 108 dX9_isSeen_59 (by decide) (fun b59_8 => ?_) (fun b59_8 => ?_)
          · skip
            refine R_iload (pc := 108) dX9_isSeen_108 rfl ?_
            exact R_iret (pc := 110) dX9_isSeen_110 rfl (nar01 hg6_55) (Nat.zero_le _) (Nat.zero_le _) ⟨_, rfl, rfl, hX55_0.imp (fun q => ⟨(nw_end (w := (σ.2.1 14034)) (p := (pM a b)) (by omega) (by omega) hX55_1 (by first | assumption | exact le_in (gAB_in ha hb)) (gAB_in ha hb)).trans q.2, q.1⟩) (fun q => ⟨(nw_end (w := (σ.2.1 14034)) (p := (pM a b)) (by omega) (by omega) hX55_1 (by first | assumption | exact le_in (gAB_in ha hb)) (gAB_in ha hb)).trans q.2, q.1⟩)⟩
          · skip
            refine R_iload (pc := 62) dX9_isSeen_62 rfl ?_
            refine R_ifeq (pc := 64) 99 dX9_isSeen_64 (by decide) (fun b64_9 => ?_) (fun b64_9 => ?_)
            · skip
              refine R_iconst (pc := 99) (v := 0) dX9_isSeen_99 (by decide) ?_
              refine st_8_6_i_i (pc := 100) dX9_isSeen_100 ?_
              refine inc_8_7_1_i (pc := 102) dX9_isSeen_102 ?_
              have r10 : inR ((nI j55) + 1) 2 8 := inR_add (show inR (nI j55) 1 7 from hrg55) (show inR 1 1 1 from (inR_self _)) (by decide) (by decide)
              have e11 := ti_add (l := 2) (h := 8) (show inR (nI j55) 1 7 from hrg55) (show inR 1 1 1 from (inR_self _)) (by decide) (by decide)
              refine R_goto (pc := 105) 55 dX9_isSeen_105 (by decide) ?_
              rw [nI_1]
              exact ih55 (j55 + 1) _ (by omega) (by omega) (show inR 0 0 1 from ⟨by decide, by decide⟩) (Or.inr ⟨rfl, nw_k (hX55_0.resolve_left (fun e => absurd (e.1.symm.trans b64_9) (by decide))).2⟩) (Or.inl (nI_sle (by omega) b59_8))
            · skip
              refine R_aload_n (pc := 67) dX9_isSeen_67 rfl rfl ?_
              refine R_iload_n (pc := 68) dX9_isSeen_68 rfl rfl ?_
              refine R_iload (pc := 69) dX9_isSeen_69 rfl ?_
              refine R_iload_n (pc := 71) dX9_isSeen_71 rfl rfl ?_
              refine R_iload (pc := 72) dX9_isSeen_72 rfl ?_
              refine R_idiv (pc := 74) dX9_isSeen_74 (gne_of b59_8 (by omega)) ?_
              refine R_imul (pc := 75) dX9_isSeen_75 ?_
              refine R_iadd (pc := 76) dX9_isSeen_76 ?_
              refine R_bipush (pc := 77) (v := 8) dX9_isSeen_77 (by decide) ?_
              refine R_iload (pc := 79) dX9_isSeen_79 rfl ?_
              refine R_imul (pc := 81) dX9_isSeen_81 ?_
              have r12 : inR (8 * (nI j55)) 8 56 := inR_mulc (c := 8) (l := 8) (h := 56) 8 (by decide) (show inR (nI j55) 1 7 from hrg55) (by decide) (by decide)
              have e13 := ti_mulc (c := 8) (l := 8) (h := 56) 8 (by decide) (show inR (nI j55) 1 7 from hrg55) (by decide) (by decide)
              refine R_iload (pc := 82) dX9_isSeen_82 rfl ?_
              refine R_iload (pc := 84) dX9_isSeen_84 rfl ?_
              refine R_idiv (pc := 86) dX9_isSeen_86 (gne_of b59_8 (by omega)) ?_
              refine R_imul (pc := 87) dX9_isSeen_87 ?_
              refine R_iadd (pc := 88) dX9_isSeen_88 ?_
              refine k_X9_236 (pc := 89) (ge_X9_isWall _ _ hI) rfl (c_140 _) (by decide) (Nat.le_refl _) (Nat.le_refl _) (Nat.le_of_ble_eq_true rfl) dX9_isSeen_89 (fun x w2 h => ?_)
              rcases h with ⟨rfl, ⟨h14, rfl⟩ | ⟨h14, rfl⟩⟩
              · skip
                refine R_ifne (pc := 92) 99 dX9_isSeen_92 (by decide) (fun _ => ?_) (fun h => absurd h (by decide))
                refine R_iconst (pc := 99) (v := 0) dX9_isSeen_99 (by decide) ?_
                refine st_8_6_i_i (pc := 100) dX9_isSeen_100 ?_
                refine inc_8_7_1_i (pc := 102) dX9_isSeen_102 ?_
                have r16 : inR ((nI j55) + 1) 2 8 := inR_add (show inR (nI j55) 1 7 from hrg55) (show inR 1 1 1 from (inR_self _)) (by decide) (by decide)
                have e17 := ti_add (l := 2) (h := 8) (show inR (nI j55) 1 7 from hrg55) (show inR 1 1 1 from (inR_self _)) (by decide) (by decide)
                refine R_goto (pc := 105) 55 dX9_isSeen_105 (by decide) ?_
                rw [nI_1]
                exact ih55 (j55 + 1) _ (by omega) (by omega) (show inR 0 0 1 from ⟨by decide, by decide⟩) (Or.inr ⟨rfl, nw_f (p := (pM a b)) (by omega) (of_decide_eq_true (show wB (σ.2.1 14034) ((pM a b) (nI j55)) = true from h14))⟩) (Or.inl (nI_sle (by omega) b59_8))
              · skip
                refine R_ifne (pc := 92) 99 dX9_isSeen_92 (by decide) (fun h => absurd (by decide) h) (fun _ => ?_)
                refine R_iconst (pc := 95) (v := 1) dX9_isSeen_95 (by decide) ?_
                refine R_goto (pc := 96) 100 dX9_isSeen_96 (by decide) ?_
                refine st_8_6_i_i (pc := 100) dX9_isSeen_100 ?_
                refine inc_8_7_1_i (pc := 102) dX9_isSeen_102 ?_
                have r19 : inR ((nI j55) + 1) 2 8 := inR_add (show inR (nI j55) 1 7 from hrg55) (show inR 1 1 1 from (inR_self _)) (by decide) (by decide)
                have e20 := ti_add (l := 2) (h := 8) (show inR (nI j55) 1 7 from hrg55) (show inR 1 1 1 from (inR_self _)) (by decide) (by decide)
                refine R_goto (pc := 105) 55 dX9_isSeen_105 (by decide) ?_
                rw [nI_1]
                exact ih55 (j55 + 1) _ (by omega) (by omega) (show inR 1 0 1 from ⟨by decide, by decide⟩) (Or.inl ⟨rfl, nw_t (p := (pM a b)) (hX55_0.resolve_right (fun e => absurd e.1 b64_9)).2 (of_decide_eq_false (show wB (σ.2.1 14034) ((pM a b) (nI j55)) = false from h14))⟩) (Or.inl (nI_sle (by omega) b59_8))
      exact HL55 7 1 _ (by omega) (by omega) (show inR 1 0 1 from ⟨by decide, by decide⟩) (Or.inl ⟨rfl, nw_1 _ _⟩) (Or.inr rfl)
    · skip
      refine R_iload (pc := 36) dX9_isSeen_36 rfl ?_
      refine R_ineg (pc := 38) dX9_isSeen_38 ?_
      have e21 := ti_neg (show inR ((b / 8) - (a / 8)) (-7) 7 from r3) (by decide)
      refine R_goto (pc := 39) 44 dX9_isSeen_39 (by decide) ?_
      refine k_X9_191 (pc := 44) (ge_X9_common _ _ _ (by have q0 := e2; have q1 := e4; have q2 := e21; have q3 := ti_le b22_5; have q4 := ti_nle b33_6; have q5 := ti_in ha; have q6 := ti_in hb; have q7 := ti_in (rem8_s hb); have q8 := ti_in (rem8_s ha); have q9 := ti_in r1; have q10 := ti_in (div8_s hb); have q11 := ti_in (div8_s ha); have q12 := ti_in r3; have z0 : (-7 : Int32).toInt = -7 := (by decide); have z1 : (0 : Int32).toInt = 0 := (by decide); have z2 : (1 : Int32).toInt = 1 := (by decide); have z3 : (63 : Int32).toInt = 63 := (by decide); have z4 : (7 : Int32).toInt = 7 := (by decide); have z5 : (8 : Int32).toInt = 8 := (by decide); omega) (by have q0 := e2; have q1 := e4; have q2 := e21; have q3 := ti_le b22_5; have q4 := ti_nle b33_6; have q5 := ti_in ha; have q6 := ti_in hb; have q7 := ti_in (rem8_s hb); have q8 := ti_in (rem8_s ha); have q9 := ti_in r1; have q10 := ti_in (div8_s hb); have q11 := ti_in (div8_s ha); have q12 := ti_in r3; have z0 : (-7 : Int32).toInt = -7 := (by decide); have z1 : (0 : Int32).toInt = 0 := (by decide); have z2 : (1 : Int32).toInt = 1 := (by decide); have z3 : (63 : Int32).toInt = 63 := (by decide); have z4 : (7 : Int32).toInt = 7 := (by decide); have z5 : (8 : Int32).toInt = 8 := (by decide); omega)) rfl (by decide) (Nat.le_refl _) (Nat.le_refl _) (Nat.le_of_ble_eq_true rfl) dX9_isSeen_44 (fun x w2 h => ?_)
      obtain ⟨rfl, rfl⟩ := h
      refine R_cv (gAB a b) (by rw [← (show absI ((b - b / 8 * 8) - (a - a / 8 * 8)) = _ from (abs_p b22_5)), ← (show absI ((b / 8) - (a / 8)) = _ from (abs_n b33_6))]; exact gM_eq (dX_in ha hb) (dY_in ha hb)) ?_
      refine st_8_5_i_i (pc := 47) dX9_isSeen_47 ?_
      refine R_iconst (pc := 49) (v := 1) dX9_isSeen_49 (by decide) ?_
      refine st_8_6_i_i (pc := 50) dX9_isSeen_50 ?_
      refine R_iconst (pc := 52) (v := 1) dX9_isSeen_52 (by decide) ?_
      refine st_8_7_i_i (pc := 53) dX9_isSeen_53 ?_
      have HL55 : ∀ (q j55 : Nat) (g6_55 : Int32), j55 + q = 8 → 1 ≤ j55 → inR g6_55 0 1 → (g6_55 = 1 ∧ nwB (σ.2.1 14034) (pM a b) j55 = true ∨ g6_55 = 0 ∧ nwB (σ.2.1 14034) (pM a b) j55 = false) → (nI j55 ≤ (gAB a b) ∨ j55 = 1) → R G l yX9_isSeen cX9_isSeen 8 (some .boolean) 1 0 0 (QI (fun x w2 => w2 = WW σ ∧ (seesM (σ.2.1 14034) a b = true ∧ x = 1 ∨ seesM (σ.2.1 14034) a b = false ∧ x = 0))) 55 [(some (.ref 140)), (some (.int a)), (some (.int b)), (some (.int ((b - b / 8 * 8) - (a - a / 8 * 8)))), (some (.int ((b / 8) - (a / 8)))), (some (.int (gAB a b))), (some (.int g6_55)), (some (.int (nI j55)))] [] (WW σ) 0 0 := by
        intro q
        induction q with
        | zero =>
          intro j55 g6_55 hj hs55 hg6_55 hX55_0 hX55_1
          obtain rfl : j55 = 8 := by omega
          refine R_iload (pc := 55) dX9_isSeen_55 rfl ?_
          refine R_iload (pc := 57) dX9_isSeen_57 rfl ?_
          refine R_icge (pc := 59) 108 dX9_isSeen_59 (by decide) (fun _ => ?_) (fun h => absurd (Int32.not_lt.mp (inR_up (gAB_in ha hb) (Int32.le_refl _) (by decide)).2) h)
          refine R_iload (pc := 108) dX9_isSeen_108 rfl ?_
          exact R_iret (pc := 110) dX9_isSeen_110 rfl (nar01 hg6_55) (Nat.zero_le _) (Nat.zero_le _) ⟨_, rfl, rfl, hX55_0.imp (fun q => ⟨(nw_end (w := (σ.2.1 14034)) (p := (pM a b)) (by omega) (by omega) hX55_1 (by first | assumption | exact le_in (gAB_in ha hb)) (gAB_in ha hb)).trans q.2, q.1⟩) (fun q => ⟨(nw_end (w := (σ.2.1 14034)) (p := (pM a b)) (by omega) (by omega) hX55_1 (by first | assumption | exact le_in (gAB_in ha hb)) (gAB_in ha hb)).trans q.2, q.1⟩)⟩
        | succ q ih55 =>
          intro j55 g6_55 hj hs55 hg6_55 hX55_0 hX55_1
          have hrg55 : inR (nI j55) 1 7 := inR_ix hs55 (show j55 < 8 by omega) (by decide) (by decide) (by decide)
          have hlt55 : j55 < 8 := by omega
          refine R_iload (pc := 55) dX9_isSeen_55 rfl ?_
          refine R_iload (pc := 57) dX9_isSeen_57 rfl ?_
          refine R_icge (pc := 59) 108 dX9_isSeen_59 (by decide) (fun b59_23 => ?_) (fun b59_23 => ?_)
          · skip
            refine R_iload (pc := 108) dX9_isSeen_108 rfl ?_
            exact R_iret (pc := 110) dX9_isSeen_110 rfl (nar01 hg6_55) (Nat.zero_le _) (Nat.zero_le _) ⟨_, rfl, rfl, hX55_0.imp (fun q => ⟨(nw_end (w := (σ.2.1 14034)) (p := (pM a b)) (by omega) (by omega) hX55_1 (by first | assumption | exact le_in (gAB_in ha hb)) (gAB_in ha hb)).trans q.2, q.1⟩) (fun q => ⟨(nw_end (w := (σ.2.1 14034)) (p := (pM a b)) (by omega) (by omega) hX55_1 (by first | assumption | exact le_in (gAB_in ha hb)) (gAB_in ha hb)).trans q.2, q.1⟩)⟩
          · skip
            refine R_iload (pc := 62) dX9_isSeen_62 rfl ?_
            refine R_ifeq (pc := 64) 99 dX9_isSeen_64 (by decide) (fun b64_24 => ?_) (fun b64_24 => ?_)
            · skip
              refine R_iconst (pc := 99) (v := 0) dX9_isSeen_99 (by decide) ?_
              refine st_8_6_i_i (pc := 100) dX9_isSeen_100 ?_
              refine inc_8_7_1_i (pc := 102) dX9_isSeen_102 ?_
              have r25 : inR ((nI j55) + 1) 2 8 := inR_add (show inR (nI j55) 1 7 from hrg55) (show inR 1 1 1 from (inR_self _)) (by decide) (by decide)
              have e26 := ti_add (l := 2) (h := 8) (show inR (nI j55) 1 7 from hrg55) (show inR 1 1 1 from (inR_self _)) (by decide) (by decide)
              refine R_goto (pc := 105) 55 dX9_isSeen_105 (by decide) ?_
              rw [nI_1]
              exact ih55 (j55 + 1) _ (by omega) (by omega) (show inR 0 0 1 from ⟨by decide, by decide⟩) (Or.inr ⟨rfl, nw_k (hX55_0.resolve_left (fun e => absurd (e.1.symm.trans b64_24) (by decide))).2⟩) (Or.inl (nI_sle (by omega) b59_23))
            · skip
              refine R_aload_n (pc := 67) dX9_isSeen_67 rfl rfl ?_
              refine R_iload_n (pc := 68) dX9_isSeen_68 rfl rfl ?_
              refine R_iload (pc := 69) dX9_isSeen_69 rfl ?_
              refine R_iload_n (pc := 71) dX9_isSeen_71 rfl rfl ?_
              refine R_iload (pc := 72) dX9_isSeen_72 rfl ?_
              refine R_idiv (pc := 74) dX9_isSeen_74 (gne_of b59_23 (by omega)) ?_
              refine R_imul (pc := 75) dX9_isSeen_75 ?_
              refine R_iadd (pc := 76) dX9_isSeen_76 ?_
              refine R_bipush (pc := 77) (v := 8) dX9_isSeen_77 (by decide) ?_
              refine R_iload (pc := 79) dX9_isSeen_79 rfl ?_
              refine R_imul (pc := 81) dX9_isSeen_81 ?_
              have r27 : inR (8 * (nI j55)) 8 56 := inR_mulc (c := 8) (l := 8) (h := 56) 8 (by decide) (show inR (nI j55) 1 7 from hrg55) (by decide) (by decide)
              have e28 := ti_mulc (c := 8) (l := 8) (h := 56) 8 (by decide) (show inR (nI j55) 1 7 from hrg55) (by decide) (by decide)
              refine R_iload (pc := 82) dX9_isSeen_82 rfl ?_
              refine R_iload (pc := 84) dX9_isSeen_84 rfl ?_
              refine R_idiv (pc := 86) dX9_isSeen_86 (gne_of b59_23 (by omega)) ?_
              refine R_imul (pc := 87) dX9_isSeen_87 ?_
              refine R_iadd (pc := 88) dX9_isSeen_88 ?_
              refine k_X9_236 (pc := 89) (ge_X9_isWall _ _ hI) rfl (c_140 _) (by decide) (Nat.le_refl _) (Nat.le_refl _) (Nat.le_of_ble_eq_true rfl) dX9_isSeen_89 (fun x w2 h => ?_)
              rcases h with ⟨rfl, ⟨h29, rfl⟩ | ⟨h29, rfl⟩⟩
              · skip
                refine R_ifne (pc := 92) 99 dX9_isSeen_92 (by decide) (fun _ => ?_) (fun h => absurd h (by decide))
                refine R_iconst (pc := 99) (v := 0) dX9_isSeen_99 (by decide) ?_
                refine st_8_6_i_i (pc := 100) dX9_isSeen_100 ?_
                refine inc_8_7_1_i (pc := 102) dX9_isSeen_102 ?_
                have r31 : inR ((nI j55) + 1) 2 8 := inR_add (show inR (nI j55) 1 7 from hrg55) (show inR 1 1 1 from (inR_self _)) (by decide) (by decide)
                have e32 := ti_add (l := 2) (h := 8) (show inR (nI j55) 1 7 from hrg55) (show inR 1 1 1 from (inR_self _)) (by decide) (by decide)
                refine R_goto (pc := 105) 55 dX9_isSeen_105 (by decide) ?_
                rw [nI_1]
                exact ih55 (j55 + 1) _ (by omega) (by omega) (show inR 0 0 1 from ⟨by decide, by decide⟩) (Or.inr ⟨rfl, nw_f (p := (pM a b)) (by omega) (of_decide_eq_true (show wB (σ.2.1 14034) ((pM a b) (nI j55)) = true from h29))⟩) (Or.inl (nI_sle (by omega) b59_23))
              · skip
                refine R_ifne (pc := 92) 99 dX9_isSeen_92 (by decide) (fun h => absurd (by decide) h) (fun _ => ?_)
                refine R_iconst (pc := 95) (v := 1) dX9_isSeen_95 (by decide) ?_
                refine R_goto (pc := 96) 100 dX9_isSeen_96 (by decide) ?_
                refine st_8_6_i_i (pc := 100) dX9_isSeen_100 ?_
                refine inc_8_7_1_i (pc := 102) dX9_isSeen_102 ?_
                have r34 : inR ((nI j55) + 1) 2 8 := inR_add (show inR (nI j55) 1 7 from hrg55) (show inR 1 1 1 from (inR_self _)) (by decide) (by decide)
                have e35 := ti_add (l := 2) (h := 8) (show inR (nI j55) 1 7 from hrg55) (show inR 1 1 1 from (inR_self _)) (by decide) (by decide)
                refine R_goto (pc := 105) 55 dX9_isSeen_105 (by decide) ?_
                rw [nI_1]
                exact ih55 (j55 + 1) _ (by omega) (by omega) (show inR 1 0 1 from ⟨by decide, by decide⟩) (Or.inl ⟨rfl, nw_t (p := (pM a b)) (hX55_0.resolve_right (fun e => absurd e.1 b64_24)).2 (of_decide_eq_false (show wB (σ.2.1 14034) ((pM a b) (nI j55)) = false from h29))⟩) (Or.inl (nI_sle (by omega) b59_23))
      exact HL55 7 1 _ (by omega) (by omega) (show inR 1 0 1 from ⟨by decide, by decide⟩) (Or.inl ⟨rfl, nw_1 _ _⟩) (Or.inr rfl)
  · skip
    refine R_iload_n (pc := 25) dX9_isSeen_25 rfl rfl ?_
    refine R_ineg (pc := 26) dX9_isSeen_26 ?_
    have e36 := ti_neg (show inR ((b - b / 8 * 8) - (a - a / 8 * 8)) (-7) 7 from r1) (by decide)
    refine R_goto (pc := 27) 31 dX9_isSeen_27 (by decide) ?_
    refine R_iload (pc := 31) dX9_isSeen_31 rfl ?_
    refine R_ifge (pc := 33) 42 dX9_isSeen_33 (by decide) (fun b33_37 => ?_) (fun b33_37 => ?_)
    · skip
      refine R_iload (pc := 42) dX9_isSeen_42 rfl ?_
      refine k_X9_191 (pc := 44) (ge_X9_common _ _ _ (by have q0 := e2; have q1 := e4; have q2 := e36; have q3 := ti_nle b22_5; have q4 := ti_le b33_37; have q5 := ti_in ha; have q6 := ti_in hb; have q7 := ti_in (rem8_s hb); have q8 := ti_in (rem8_s ha); have q9 := ti_in r1; have q10 := ti_in (div8_s hb); have q11 := ti_in (div8_s ha); have q12 := ti_in r3; have z0 : (-7 : Int32).toInt = -7 := (by decide); have z1 : (0 : Int32).toInt = 0 := (by decide); have z2 : (1 : Int32).toInt = 1 := (by decide); have z3 : (63 : Int32).toInt = 63 := (by decide); have z4 : (7 : Int32).toInt = 7 := (by decide); have z5 : (8 : Int32).toInt = 8 := (by decide); omega) (by have q0 := e2; have q1 := e4; have q2 := e36; have q3 := ti_nle b22_5; have q4 := ti_le b33_37; have q5 := ti_in ha; have q6 := ti_in hb; have q7 := ti_in (rem8_s hb); have q8 := ti_in (rem8_s ha); have q9 := ti_in r1; have q10 := ti_in (div8_s hb); have q11 := ti_in (div8_s ha); have q12 := ti_in r3; have z0 : (-7 : Int32).toInt = -7 := (by decide); have z1 : (0 : Int32).toInt = 0 := (by decide); have z2 : (1 : Int32).toInt = 1 := (by decide); have z3 : (63 : Int32).toInt = 63 := (by decide); have z4 : (7 : Int32).toInt = 7 := (by decide); have z5 : (8 : Int32).toInt = 8 := (by decide); omega)) rfl (by decide) (Nat.le_refl _) (Nat.le_refl _) (Nat.le_of_ble_eq_true rfl) dX9_isSeen_44 (fun x w2 h => ?_)
      obtain ⟨rfl, rfl⟩ := h
      refine R_cv (gAB a b) (by rw [← (show absI ((b - b / 8 * 8) - (a - a / 8 * 8)) = _ from (abs_n b22_5)), ← (show absI ((b / 8) - (a / 8)) = _ from (abs_p b33_37))]; exact gM_eq (dX_in ha hb) (dY_in ha hb)) ?_
      refine st_8_5_i_i (pc := 47) dX9_isSeen_47 ?_
      refine R_iconst (pc := 49) (v := 1) dX9_isSeen_49 (by decide) ?_
      refine st_8_6_i_i (pc := 50) dX9_isSeen_50 ?_
      refine R_iconst (pc := 52) (v := 1) dX9_isSeen_52 (by decide) ?_
      refine st_8_7_i_i (pc := 53) dX9_isSeen_53 ?_
      have HL55 : ∀ (q j55 : Nat) (g6_55 : Int32), j55 + q = 8 → 1 ≤ j55 → inR g6_55 0 1 → (g6_55 = 1 ∧ nwB (σ.2.1 14034) (pM a b) j55 = true ∨ g6_55 = 0 ∧ nwB (σ.2.1 14034) (pM a b) j55 = false) → (nI j55 ≤ (gAB a b) ∨ j55 = 1) → R G l yX9_isSeen cX9_isSeen 8 (some .boolean) 1 0 0 (QI (fun x w2 => w2 = WW σ ∧ (seesM (σ.2.1 14034) a b = true ∧ x = 1 ∨ seesM (σ.2.1 14034) a b = false ∧ x = 0))) 55 [(some (.ref 140)), (some (.int a)), (some (.int b)), (some (.int ((b - b / 8 * 8) - (a - a / 8 * 8)))), (some (.int ((b / 8) - (a / 8)))), (some (.int (gAB a b))), (some (.int g6_55)), (some (.int (nI j55)))] [] (WW σ) 0 0 := by
        intro q
        induction q with
        | zero =>
          intro j55 g6_55 hj hs55 hg6_55 hX55_0 hX55_1
          obtain rfl : j55 = 8 := by omega
          refine R_iload (pc := 55) dX9_isSeen_55 rfl ?_
          refine R_iload (pc := 57) dX9_isSeen_57 rfl ?_
          refine R_icge (pc := 59) 108 dX9_isSeen_59 (by decide) (fun _ => ?_) (fun h => absurd (Int32.not_lt.mp (inR_up (gAB_in ha hb) (Int32.le_refl _) (by decide)).2) h)
          refine R_iload (pc := 108) dX9_isSeen_108 rfl ?_
          exact R_iret (pc := 110) dX9_isSeen_110 rfl (nar01 hg6_55) (Nat.zero_le _) (Nat.zero_le _) ⟨_, rfl, rfl, hX55_0.imp (fun q => ⟨(nw_end (w := (σ.2.1 14034)) (p := (pM a b)) (by omega) (by omega) hX55_1 (by first | assumption | exact le_in (gAB_in ha hb)) (gAB_in ha hb)).trans q.2, q.1⟩) (fun q => ⟨(nw_end (w := (σ.2.1 14034)) (p := (pM a b)) (by omega) (by omega) hX55_1 (by first | assumption | exact le_in (gAB_in ha hb)) (gAB_in ha hb)).trans q.2, q.1⟩)⟩
        | succ q ih55 =>
          intro j55 g6_55 hj hs55 hg6_55 hX55_0 hX55_1
          have hrg55 : inR (nI j55) 1 7 := inR_ix hs55 (show j55 < 8 by omega) (by decide) (by decide) (by decide)
          have hlt55 : j55 < 8 := by omega
          refine R_iload (pc := 55) dX9_isSeen_55 rfl ?_
          refine R_iload (pc := 57) dX9_isSeen_57 rfl ?_
          refine R_icge (pc := 59) 108 dX9_isSeen_59 (by decide) (fun b59_39 => ?_) (fun b59_39 => ?_)
          · skip
            refine R_iload (pc := 108) dX9_isSeen_108 rfl ?_
            exact R_iret (pc := 110) dX9_isSeen_110 rfl (nar01 hg6_55) (Nat.zero_le _) (Nat.zero_le _) ⟨_, rfl, rfl, hX55_0.imp (fun q => ⟨(nw_end (w := (σ.2.1 14034)) (p := (pM a b)) (by omega) (by omega) hX55_1 (by first | assumption | exact le_in (gAB_in ha hb)) (gAB_in ha hb)).trans q.2, q.1⟩) (fun q => ⟨(nw_end (w := (σ.2.1 14034)) (p := (pM a b)) (by omega) (by omega) hX55_1 (by first | assumption | exact le_in (gAB_in ha hb)) (gAB_in ha hb)).trans q.2, q.1⟩)⟩
          · skip
            refine R_iload (pc := 62) dX9_isSeen_62 rfl ?_
            refine R_ifeq (pc := 64) 99 dX9_isSeen_64 (by decide) (fun b64_40 => ?_) (fun b64_40 => ?_)
            · skip
              refine R_iconst (pc := 99) (v := 0) dX9_isSeen_99 (by decide) ?_
              refine st_8_6_i_i (pc := 100) dX9_isSeen_100 ?_
              refine inc_8_7_1_i (pc := 102) dX9_isSeen_102 ?_
              have r41 : inR ((nI j55) + 1) 2 8 := inR_add (show inR (nI j55) 1 7 from hrg55) (show inR 1 1 1 from (inR_self _)) (by decide) (by decide)
              have e42 := ti_add (l := 2) (h := 8) (show inR (nI j55) 1 7 from hrg55) (show inR 1 1 1 from (inR_self _)) (by decide) (by decide)
              refine R_goto (pc := 105) 55 dX9_isSeen_105 (by decide) ?_
              rw [nI_1]
              exact ih55 (j55 + 1) _ (by omega) (by omega) (show inR 0 0 1 from ⟨by decide, by decide⟩) (Or.inr ⟨rfl, nw_k (hX55_0.resolve_left (fun e => absurd (e.1.symm.trans b64_40) (by decide))).2⟩) (Or.inl (nI_sle (by omega) b59_39))
            · skip
              refine R_aload_n (pc := 67) dX9_isSeen_67 rfl rfl ?_
              refine R_iload_n (pc := 68) dX9_isSeen_68 rfl rfl ?_
              refine R_iload (pc := 69) dX9_isSeen_69 rfl ?_
              refine R_iload_n (pc := 71) dX9_isSeen_71 rfl rfl ?_
              refine R_iload (pc := 72) dX9_isSeen_72 rfl ?_
              refine R_idiv (pc := 74) dX9_isSeen_74 (gne_of b59_39 (by omega)) ?_
              refine R_imul (pc := 75) dX9_isSeen_75 ?_
              refine R_iadd (pc := 76) dX9_isSeen_76 ?_
              refine R_bipush (pc := 77) (v := 8) dX9_isSeen_77 (by decide) ?_
              refine R_iload (pc := 79) dX9_isSeen_79 rfl ?_
              refine R_imul (pc := 81) dX9_isSeen_81 ?_
              have r43 : inR (8 * (nI j55)) 8 56 := inR_mulc (c := 8) (l := 8) (h := 56) 8 (by decide) (show inR (nI j55) 1 7 from hrg55) (by decide) (by decide)
              have e44 := ti_mulc (c := 8) (l := 8) (h := 56) 8 (by decide) (show inR (nI j55) 1 7 from hrg55) (by decide) (by decide)
              refine R_iload (pc := 82) dX9_isSeen_82 rfl ?_
              refine R_iload (pc := 84) dX9_isSeen_84 rfl ?_
              refine R_idiv (pc := 86) dX9_isSeen_86 (gne_of b59_39 (by omega)) ?_
              refine R_imul (pc := 87) dX9_isSeen_87 ?_
              refine R_iadd (pc := 88) dX9_isSeen_88 ?_
              refine k_X9_236 (pc := 89) (ge_X9_isWall _ _ hI) rfl (c_140 _) (by decide) (Nat.le_refl _) (Nat.le_refl _) (Nat.le_of_ble_eq_true rfl) dX9_isSeen_89 (fun x w2 h => ?_)
              rcases h with ⟨rfl, ⟨h45, rfl⟩ | ⟨h45, rfl⟩⟩
              · skip
                refine R_ifne (pc := 92) 99 dX9_isSeen_92 (by decide) (fun _ => ?_) (fun h => absurd h (by decide))
                refine R_iconst (pc := 99) (v := 0) dX9_isSeen_99 (by decide) ?_
                refine st_8_6_i_i (pc := 100) dX9_isSeen_100 ?_
                refine inc_8_7_1_i (pc := 102) dX9_isSeen_102 ?_
                have r47 : inR ((nI j55) + 1) 2 8 := inR_add (show inR (nI j55) 1 7 from hrg55) (show inR 1 1 1 from (inR_self _)) (by decide) (by decide)
                have e48 := ti_add (l := 2) (h := 8) (show inR (nI j55) 1 7 from hrg55) (show inR 1 1 1 from (inR_self _)) (by decide) (by decide)
                refine R_goto (pc := 105) 55 dX9_isSeen_105 (by decide) ?_
                rw [nI_1]
                exact ih55 (j55 + 1) _ (by omega) (by omega) (show inR 0 0 1 from ⟨by decide, by decide⟩) (Or.inr ⟨rfl, nw_f (p := (pM a b)) (by omega) (of_decide_eq_true (show wB (σ.2.1 14034) ((pM a b) (nI j55)) = true from h45))⟩) (Or.inl (nI_sle (by omega) b59_39))
              · skip
                refine R_ifne (pc := 92) 99 dX9_isSeen_92 (by decide) (fun h => absurd (by decide) h) (fun _ => ?_)
                refine R_iconst (pc := 95) (v := 1) dX9_isSeen_95 (by decide) ?_
                refine R_goto (pc := 96) 100 dX9_isSeen_96 (by decide) ?_
                refine st_8_6_i_i (pc := 100) dX9_isSeen_100 ?_
                refine inc_8_7_1_i (pc := 102) dX9_isSeen_102 ?_
                have r50 : inR ((nI j55) + 1) 2 8 := inR_add (show inR (nI j55) 1 7 from hrg55) (show inR 1 1 1 from (inR_self _)) (by decide) (by decide)
                have e51 := ti_add (l := 2) (h := 8) (show inR (nI j55) 1 7 from hrg55) (show inR 1 1 1 from (inR_self _)) (by decide) (by decide)
                refine R_goto (pc := 105) 55 dX9_isSeen_105 (by decide) ?_
                rw [nI_1]
                exact ih55 (j55 + 1) _ (by omega) (by omega) (show inR 1 0 1 from ⟨by decide, by decide⟩) (Or.inl ⟨rfl, nw_t (p := (pM a b)) (hX55_0.resolve_right (fun e => absurd e.1 b64_40)).2 (of_decide_eq_false (show wB (σ.2.1 14034) ((pM a b) (nI j55)) = false from h45))⟩) (Or.inl (nI_sle (by omega) b59_39))
      exact HL55 7 1 _ (by omega) (by omega) (show inR 1 0 1 from ⟨by decide, by decide⟩) (Or.inl ⟨rfl, nw_1 _ _⟩) (Or.inr rfl)
    · skip
      refine R_iload (pc := 36) dX9_isSeen_36 rfl ?_
      refine R_ineg (pc := 38) dX9_isSeen_38 ?_
      have e52 := ti_neg (show inR ((b / 8) - (a / 8)) (-7) 7 from r3) (by decide)
      refine R_goto (pc := 39) 44 dX9_isSeen_39 (by decide) ?_
      refine k_X9_191 (pc := 44) (ge_X9_common _ _ _ (by have q0 := e2; have q1 := e4; have q2 := e36; have q3 := e52; have q4 := ti_nle b22_5; have q5 := ti_nle b33_37; have q6 := ti_in ha; have q7 := ti_in hb; have q8 := ti_in (rem8_s hb); have q9 := ti_in (rem8_s ha); have q10 := ti_in r1; have q11 := ti_in (div8_s hb); have q12 := ti_in (div8_s ha); have q13 := ti_in r3; have z0 : (-7 : Int32).toInt = -7 := (by decide); have z1 : (0 : Int32).toInt = 0 := (by decide); have z2 : (1 : Int32).toInt = 1 := (by decide); have z3 : (63 : Int32).toInt = 63 := (by decide); have z4 : (7 : Int32).toInt = 7 := (by decide); have z5 : (8 : Int32).toInt = 8 := (by decide); omega) (by have q0 := e2; have q1 := e4; have q2 := e36; have q3 := e52; have q4 := ti_nle b22_5; have q5 := ti_nle b33_37; have q6 := ti_in ha; have q7 := ti_in hb; have q8 := ti_in (rem8_s hb); have q9 := ti_in (rem8_s ha); have q10 := ti_in r1; have q11 := ti_in (div8_s hb); have q12 := ti_in (div8_s ha); have q13 := ti_in r3; have z0 : (-7 : Int32).toInt = -7 := (by decide); have z1 : (0 : Int32).toInt = 0 := (by decide); have z2 : (1 : Int32).toInt = 1 := (by decide); have z3 : (63 : Int32).toInt = 63 := (by decide); have z4 : (7 : Int32).toInt = 7 := (by decide); have z5 : (8 : Int32).toInt = 8 := (by decide); omega)) rfl (by decide) (Nat.le_refl _) (Nat.le_refl _) (Nat.le_of_ble_eq_true rfl) dX9_isSeen_44 (fun x w2 h => ?_)
      obtain ⟨rfl, rfl⟩ := h
      refine R_cv (gAB a b) (by rw [← (show absI ((b - b / 8 * 8) - (a - a / 8 * 8)) = _ from (abs_n b22_5)), ← (show absI ((b / 8) - (a / 8)) = _ from (abs_n b33_37))]; exact gM_eq (dX_in ha hb) (dY_in ha hb)) ?_
      refine st_8_5_i_i (pc := 47) dX9_isSeen_47 ?_
      refine R_iconst (pc := 49) (v := 1) dX9_isSeen_49 (by decide) ?_
      refine st_8_6_i_i (pc := 50) dX9_isSeen_50 ?_
      refine R_iconst (pc := 52) (v := 1) dX9_isSeen_52 (by decide) ?_
      refine st_8_7_i_i (pc := 53) dX9_isSeen_53 ?_
      have HL55 : ∀ (q j55 : Nat) (g6_55 : Int32), j55 + q = 8 → 1 ≤ j55 → inR g6_55 0 1 → (g6_55 = 1 ∧ nwB (σ.2.1 14034) (pM a b) j55 = true ∨ g6_55 = 0 ∧ nwB (σ.2.1 14034) (pM a b) j55 = false) → (nI j55 ≤ (gAB a b) ∨ j55 = 1) → R G l yX9_isSeen cX9_isSeen 8 (some .boolean) 1 0 0 (QI (fun x w2 => w2 = WW σ ∧ (seesM (σ.2.1 14034) a b = true ∧ x = 1 ∨ seesM (σ.2.1 14034) a b = false ∧ x = 0))) 55 [(some (.ref 140)), (some (.int a)), (some (.int b)), (some (.int ((b - b / 8 * 8) - (a - a / 8 * 8)))), (some (.int ((b / 8) - (a / 8)))), (some (.int (gAB a b))), (some (.int g6_55)), (some (.int (nI j55)))] [] (WW σ) 0 0 := by
        intro q
        induction q with
        | zero =>
          intro j55 g6_55 hj hs55 hg6_55 hX55_0 hX55_1
          obtain rfl : j55 = 8 := by omega
          refine R_iload (pc := 55) dX9_isSeen_55 rfl ?_
          refine R_iload (pc := 57) dX9_isSeen_57 rfl ?_
          refine R_icge (pc := 59) 108 dX9_isSeen_59 (by decide) (fun _ => ?_) (fun h => absurd (Int32.not_lt.mp (inR_up (gAB_in ha hb) (Int32.le_refl _) (by decide)).2) h)
          refine R_iload (pc := 108) dX9_isSeen_108 rfl ?_
          exact R_iret (pc := 110) dX9_isSeen_110 rfl (nar01 hg6_55) (Nat.zero_le _) (Nat.zero_le _) ⟨_, rfl, rfl, hX55_0.imp (fun q => ⟨(nw_end (w := (σ.2.1 14034)) (p := (pM a b)) (by omega) (by omega) hX55_1 (by first | assumption | exact le_in (gAB_in ha hb)) (gAB_in ha hb)).trans q.2, q.1⟩) (fun q => ⟨(nw_end (w := (σ.2.1 14034)) (p := (pM a b)) (by omega) (by omega) hX55_1 (by first | assumption | exact le_in (gAB_in ha hb)) (gAB_in ha hb)).trans q.2, q.1⟩)⟩
        | succ q ih55 =>
          intro j55 g6_55 hj hs55 hg6_55 hX55_0 hX55_1
          have hrg55 : inR (nI j55) 1 7 := inR_ix hs55 (show j55 < 8 by omega) (by decide) (by decide) (by decide)
          have hlt55 : j55 < 8 := by omega
          refine R_iload (pc := 55) dX9_isSeen_55 rfl ?_
          refine R_iload (pc := 57) dX9_isSeen_57 rfl ?_
          refine R_icge (pc := 59) 108 dX9_isSeen_59 (by decide) (fun b59_54 => ?_) (fun b59_54 => ?_)
          · skip
            refine R_iload (pc := 108) dX9_isSeen_108 rfl ?_
            exact R_iret (pc := 110) dX9_isSeen_110 rfl (nar01 hg6_55) (Nat.zero_le _) (Nat.zero_le _) ⟨_, rfl, rfl, hX55_0.imp (fun q => ⟨(nw_end (w := (σ.2.1 14034)) (p := (pM a b)) (by omega) (by omega) hX55_1 (by first | assumption | exact le_in (gAB_in ha hb)) (gAB_in ha hb)).trans q.2, q.1⟩) (fun q => ⟨(nw_end (w := (σ.2.1 14034)) (p := (pM a b)) (by omega) (by omega) hX55_1 (by first | assumption | exact le_in (gAB_in ha hb)) (gAB_in ha hb)).trans q.2, q.1⟩)⟩
          · skip
            refine R_iload (pc := 62) dX9_isSeen_62 rfl ?_
            refine R_ifeq (pc := 64) 99 dX9_isSeen_64 (by decide) (fun b64_55 => ?_) (fun b64_55 => ?_)
            · skip
              refine R_iconst (pc := 99) (v := 0) dX9_isSeen_99 (by decide) ?_
              refine st_8_6_i_i (pc := 100) dX9_isSeen_100 ?_
              refine inc_8_7_1_i (pc := 102) dX9_isSeen_102 ?_
              have r56 : inR ((nI j55) + 1) 2 8 := inR_add (show inR (nI j55) 1 7 from hrg55) (show inR 1 1 1 from (inR_self _)) (by decide) (by decide)
              have e57 := ti_add (l := 2) (h := 8) (show inR (nI j55) 1 7 from hrg55) (show inR 1 1 1 from (inR_self _)) (by decide) (by decide)
              refine R_goto (pc := 105) 55 dX9_isSeen_105 (by decide) ?_
              rw [nI_1]
              exact ih55 (j55 + 1) _ (by omega) (by omega) (show inR 0 0 1 from ⟨by decide, by decide⟩) (Or.inr ⟨rfl, nw_k (hX55_0.resolve_left (fun e => absurd (e.1.symm.trans b64_55) (by decide))).2⟩) (Or.inl (nI_sle (by omega) b59_54))
            · skip
              refine R_aload_n (pc := 67) dX9_isSeen_67 rfl rfl ?_
              refine R_iload_n (pc := 68) dX9_isSeen_68 rfl rfl ?_
              refine R_iload (pc := 69) dX9_isSeen_69 rfl ?_
              refine R_iload_n (pc := 71) dX9_isSeen_71 rfl rfl ?_
              refine R_iload (pc := 72) dX9_isSeen_72 rfl ?_
              refine R_idiv (pc := 74) dX9_isSeen_74 (gne_of b59_54 (by omega)) ?_
              refine R_imul (pc := 75) dX9_isSeen_75 ?_
              refine R_iadd (pc := 76) dX9_isSeen_76 ?_
              refine R_bipush (pc := 77) (v := 8) dX9_isSeen_77 (by decide) ?_
              refine R_iload (pc := 79) dX9_isSeen_79 rfl ?_
              refine R_imul (pc := 81) dX9_isSeen_81 ?_
              have r58 : inR (8 * (nI j55)) 8 56 := inR_mulc (c := 8) (l := 8) (h := 56) 8 (by decide) (show inR (nI j55) 1 7 from hrg55) (by decide) (by decide)
              have e59 := ti_mulc (c := 8) (l := 8) (h := 56) 8 (by decide) (show inR (nI j55) 1 7 from hrg55) (by decide) (by decide)
              refine R_iload (pc := 82) dX9_isSeen_82 rfl ?_
              refine R_iload (pc := 84) dX9_isSeen_84 rfl ?_
              refine R_idiv (pc := 86) dX9_isSeen_86 (gne_of b59_54 (by omega)) ?_
              refine R_imul (pc := 87) dX9_isSeen_87 ?_
              refine R_iadd (pc := 88) dX9_isSeen_88 ?_
              refine k_X9_236 (pc := 89) (ge_X9_isWall _ _ hI) rfl (c_140 _) (by decide) (Nat.le_refl _) (Nat.le_refl _) (Nat.le_of_ble_eq_true rfl) dX9_isSeen_89 (fun x w2 h => ?_)
              rcases h with ⟨rfl, ⟨h60, rfl⟩ | ⟨h60, rfl⟩⟩
              · skip
                refine R_ifne (pc := 92) 99 dX9_isSeen_92 (by decide) (fun _ => ?_) (fun h => absurd h (by decide))
                refine R_iconst (pc := 99) (v := 0) dX9_isSeen_99 (by decide) ?_
                refine st_8_6_i_i (pc := 100) dX9_isSeen_100 ?_
                refine inc_8_7_1_i (pc := 102) dX9_isSeen_102 ?_
                have r62 : inR ((nI j55) + 1) 2 8 := inR_add (show inR (nI j55) 1 7 from hrg55) (show inR 1 1 1 from (inR_self _)) (by decide) (by decide)
                have e63 := ti_add (l := 2) (h := 8) (show inR (nI j55) 1 7 from hrg55) (show inR 1 1 1 from (inR_self _)) (by decide) (by decide)
                refine R_goto (pc := 105) 55 dX9_isSeen_105 (by decide) ?_
                rw [nI_1]
                exact ih55 (j55 + 1) _ (by omega) (by omega) (show inR 0 0 1 from ⟨by decide, by decide⟩) (Or.inr ⟨rfl, nw_f (p := (pM a b)) (by omega) (of_decide_eq_true (show wB (σ.2.1 14034) ((pM a b) (nI j55)) = true from h60))⟩) (Or.inl (nI_sle (by omega) b59_54))
              · skip
                refine R_ifne (pc := 92) 99 dX9_isSeen_92 (by decide) (fun h => absurd (by decide) h) (fun _ => ?_)
                refine R_iconst (pc := 95) (v := 1) dX9_isSeen_95 (by decide) ?_
                refine R_goto (pc := 96) 100 dX9_isSeen_96 (by decide) ?_
                refine st_8_6_i_i (pc := 100) dX9_isSeen_100 ?_
                refine inc_8_7_1_i (pc := 102) dX9_isSeen_102 ?_
                have r65 : inR ((nI j55) + 1) 2 8 := inR_add (show inR (nI j55) 1 7 from hrg55) (show inR 1 1 1 from (inR_self _)) (by decide) (by decide)
                have e66 := ti_add (l := 2) (h := 8) (show inR (nI j55) 1 7 from hrg55) (show inR 1 1 1 from (inR_self _)) (by decide) (by decide)
                refine R_goto (pc := 105) 55 dX9_isSeen_105 (by decide) ?_
                rw [nI_1]
                exact ih55 (j55 + 1) _ (by omega) (by omega) (show inR 1 0 1 from ⟨by decide, by decide⟩) (Or.inl ⟨rfl, nw_t (p := (pM a b)) (hX55_0.resolve_right (fun e => absurd e.1 b64_55)).2 (of_decide_eq_false (show wB (σ.2.1 14034) ((pM a b) (nI j55)) = false from h60))⟩) (Or.inl (nI_sle (by omega) b59_54))
      exact HL55 7 1 _ (by omega) (by omega) (show inR 1 0 1 from ⟨by decide, by decide⟩) (Or.inl ⟨rfl, nw_1 _ _⟩) (Or.inr rfl)
def l1B (w : Int64) (k : Int32) (L : Int32 → Int32) : Nat → Bool
  | 0 => !wB w k
  | n + 1 => l1B w k L n && ((decide (L (nI n) < 64) && !decide (L (nI n) = k)) && seesM w k (L (nI n)))
theorem l1_t {w : Int64} {k : Int32} {L : Int32 → Int32} {j : Nat} (h : l1B w k L j = true) (h1 : L (nI j) < 64) (h2 : ¬ L (nI j) = k) (h3 : seesM w k (L (nI j)) = true) : l1B w k L (j + 1) = true := by unfold l1B; rw [h, decide_eq_true h1, decide_eq_false h2, h3]; rfl
theorem l1_f1 {w : Int64} {k : Int32} {L : Int32 → Int32} {j : Nat} (h1 : ¬ L (nI j) < 64) : l1B w k L (j + 1) = false := by unfold l1B; rw [decide_eq_false h1]; simp
theorem l1_f2 {w : Int64} {k : Int32} {L : Int32 → Int32} {j : Nat} (h2 : L (nI j) = k) : l1B w k L (j + 1) = false := by unfold l1B; rw [decide_eq_true h2]; simp
theorem l1_f3 {w : Int64} {k : Int32} {L : Int32 → Int32} {j : Nat} (h3 : seesM w k (L (nI j)) = false) : l1B w k L (j + 1) = false := by unfold l1B; rw [h3]; simp
theorem l1_mono {w : Int64} {k : Int32} {L : Int32 → Int32} {j : Nat} (h : l1B w k L j = false) : ∀ n : Nat, j ≤ n → l1B w k L n = false := by
  intro n
  induction n with
  | zero => intro h2; obtain rfl : j = 0 := by omega
            exact h
  | succ n ih =>
    intro h2
    by_cases e : j = n + 1
    · subst e; exact h
    · unfold l1B; rw [ih (by omega)]; rfl
/-- the order, as the reference asks it: two beside each other, at last the first and the last -/
def o2B (k : Int32) (L : Int32 → Int32) (n : Int32) : Nat → Bool
  | 0 => true
  | i + 1 => o2B k L n i && (bif decide ((nI i) + 1 < n) then lofB k (L (nI i)) (L ((nI i) + 1)) else lofB k (L 0) (L (nI i)))
theorem o2_c {k : Int32} {L : Int32 → Int32} {n : Int32} {j : Nat} {r : Bool} (h : o2B k L n j = true) (hn : (nI j) + 1 < n) (hb : lofB k (L (nI j)) (L ((nI j) + 1)) = r) : o2B k L n (j + 1) = r := by unfold o2B; rw [h, decide_eq_true hn, hb]; rfl
theorem o2_l {k : Int32} {L : Int32 → Int32} {n : Int32} {j : Nat} {r : Bool} (h : o2B k L n j = true) (hn : ¬ (nI j) + 1 < n) (hb : lofB k (L 0) (L (nI j)) = r) : o2B k L n (j + 1) = r := by unfold o2B; rw [h, decide_eq_false hn, hb]; rfl
theorem o2_mono {k : Int32} {L : Int32 → Int32} {n : Int32} {j : Nat} (h : o2B k L n j = false) : ∀ m : Nat, j ≤ m → o2B k L n m = false := by
  intro m
  induction m with
  | zero => intro h2; obtain rfl : j = 0 := by omega
            exact h
  | succ m ih =>
    intro h2
    by_cases e : j = m + 1
    · subst e; exact h
    · unfold o2B; rw [ih (by omega)]; rfl
def msB (w : Int64) (k : Int32) (L : Int32 → Int32) (n : Int32) : Bool := l1B w k L n.toNatClampNeg && (decide (n ≤ 1) || o2B k L n n.toNatClampNeg)
theorem ms_t1 {w : Int64} {k n : Int32} {L : Int32 → Int32} (h : l1B w k L n.toNatClampNeg = true) (hn : n ≤ 1) : msB w k L n = true := by unfold msB; rw [h, decide_eq_true hn]; rfl
theorem ms_t2 {w : Int64} {k n : Int32} {L : Int32 → Int32} (h : l1B w k L n.toNatClampNeg = true) (h2 : o2B k L n n.toNatClampNeg = true) : msB w k L n = true := by unfold msB; rw [h, h2]; simp
theorem ms_f {w : Int64} {k n : Int32} {L : Int32 → Int32} {j : Nat} (h : l1B w k L n.toNatClampNeg = false ∨ o2B k L n j = false) (hz : j = 0 ∨ ¬ n ≤ 1) (hj : j ≤ n.toNatClampNeg) : msB w k L n = false := by
  unfold msB
  rcases h with h | h
  · rw [h]; rfl
  · rcases hz with rfl | hz
    · cases h
    · rw [decide_eq_false hz, o2_mono h _ hj]; simp
theorem ms_f1 {w : Int64} {k n : Int32} {L : Int32 → Int32} {j : Nat} (h : l1B w k L n.toNatClampNeg = false ∨ o2B k L n j = false) (hz : j = 0 ∨ ¬ n ≤ 1) (hn : n ≤ 1) : msB w k L n = false := by
  unfold msB
  rcases h with h | h
  · rw [h]; rfl
  · rcases hz with rfl | hz
    · cases h
    · exact absurd hn hz
theorem cell63m {f : Nat → Int32} {v : Int32} (h : ∀ l : Nat, l < 8 → inR (f l) 0 64) (hv : inR v 0 7) (hn : f v.toNatClampNeg < 64) : inR (f v.toNatClampNeg) 0 63 := cell63 h hv (fun e => by rw [e] at hn; exact Int32.lt_irrefl hn)
set_option maxRecDepth 100000 in
set_option maxHeartbeats 40000000 in
theorem ge_X9_mayStand {G : vG} {l : Launch} (σ : Sg) (c k : Int32) (hI : Inv σ) (hc : inR c 0 19) (hk : inR k 0 63) (hlm : ∀ l : Nat, l < 8 → inR (σ.2.2.1 167 l) 0 64) : Sp G l yX9_mayStand cX9_mayStand 8 (some .boolean) 2 0 0 [.ref 140, .int c, .int k] (WW σ) (QI (fun x w2 => w2 = WW σ ∧ (msB (σ.2.1 14034) k (LM σ c) (σ.2.2.1 168 (Int32.toNatClampNeg c)) = true ∧ x = 1 ∨ msB (σ.2.1 14034) k (LM σ c) (σ.2.2.1 168 (Int32.toNatClampNeg c)) = false ∧ x = 0))) := by
  refine Sp_of_R [(some (.ref 140)), (some (.int c)), (some (.int k)), none, none, none, none, none] [none, none, none, none, none] rfl (by simp) rfl (Nat.le_of_ble_eq_true rfl) ?_
  refine R_aload_n (pc := 0) dX9_mayStand_0 rfl rfl ?_
  refine R_iload_n (pc := 1) dX9_mayStand_1 rfl rfl ?_
  refine k_X9_236 (pc := 2) (ge_X9_isWall _ _ hI) rfl (c_140 _) (by decide) (Nat.le_refl _) (Nat.le_refl _) (Nat.le_of_ble_eq_true rfl) dX9_mayStand_2 (fun x w2 h => ?_)
  rcases h with ⟨rfl, ⟨h1, rfl⟩ | ⟨h1, rfl⟩⟩
  · skip
    refine R_ifne (pc := 5) 12 dX9_mayStand_5 (by decide) (fun _ => ?_) (fun h => absurd h (by decide))
    refine R_iconst (pc := 12) (v := 0) dX9_mayStand_12 (by decide) ?_
    refine st_8_3_i_i (pc := 13) dX9_mayStand_13 ?_
    refine R_aload_n (pc := 14) dX9_mayStand_14 rfl rfl ?_
    refine g_X9_102 (pc := 15) (v := .ref 168) rfl dX9_mayStand_15 (c_140 _) rfl ?_
    refine R_iload_n (pc := 18) dX9_mayStand_18 rfl rfl ?_
    have hx3 : vp_in c 20 := (vp_of_inR hc (by decide))
    refine R_iaload (pc := 19) dX9_mayStand_19 (c_168 _) hx3 ?_
    refine st_8_4_i_i (pc := 20) dX9_mayStand_20 ?_
    refine R_iconst (pc := 22) (v := 0) dX9_mayStand_22 (by decide) ?_
    refine st_8_5_i_i (pc := 23) dX9_mayStand_23 ?_
    have HL25 : ∀ (q j25 : Nat) (g3_25 : Int32) (g6_25 : Option Value) (g7_25 : Option Value), j25 + q = 5 → 0 ≤ j25 → inR g3_25 0 1 → (g3_25 = 1 ∧ l1B (σ.2.1 14034) k (LM σ c) j25 = true ∨ g3_25 = 0 ∧ l1B (σ.2.1 14034) k (LM σ c) j25 = false) → nI j25 ≤ (σ.2.2.1 168 (Int32.toNatClampNeg c)) → R G l yX9_mayStand cX9_mayStand 8 (some .boolean) 2 0 0 (QI (fun x w2 => w2 = WW σ ∧ (msB (σ.2.1 14034) k (LM σ c) (σ.2.2.1 168 (Int32.toNatClampNeg c)) = true ∧ x = 1 ∨ msB (σ.2.1 14034) k (LM σ c) (σ.2.2.1 168 (Int32.toNatClampNeg c)) = false ∧ x = 0))) 25 [(some (.ref 140)), (some (.int c)), (some (.int k)), (some (.int g3_25)), (some (.int (σ.2.2.1 168 (Int32.toNatClampNeg c)))), (some (.int (nI j25))), g6_25, g7_25] [] (WW σ) 0 0 := by
      intro q
      induction q with
      | zero =>
        intro j25 g3_25 g6_25 g7_25 hj hs25 hg3_25 hX25_0 hX25_1
        obtain rfl : j25 = 5 := by omega
        refine R_iload (pc := 25) dX9_mayStand_25 rfl ?_
        refine R_iload (pc := 27) dX9_mayStand_27 rfl ?_
        refine R_icge (pc := 29) 89 dX9_mayStand_29 (by decide) (fun _ => ?_) (fun h => absurd (Int32.not_lt.mp (inR_up (iva_168 hI _ (lt_of_vp hx3)) (Int32.le_refl _) (by decide)).2) h)
        refine R_iconst (pc := 89) (v := 0) dX9_mayStand_89 (by decide) ?_
        refine st_8_5_i_i (pc := 90) dX9_mayStand_90 ?_
        have hM : g3_25 = 1 ∧ l1B (σ.2.1 14034) k (LM σ c) (Int32.toNatClampNeg (σ.2.2.1 168 (Int32.toNatClampNeg c))) = true ∨ g3_25 = 0 ∧ l1B (σ.2.1 14034) k (LM σ c) (Int32.toNatClampNeg (σ.2.2.1 168 (Int32.toNatClampNeg c))) = false := by rw [show (Int32.toNatClampNeg (σ.2.2.1 168 (Int32.toNatClampNeg c))) = 5 from (jn_of (by omega) (by first | exact nI_eqe hX25_1 (by assumption) | exact nI_eq5 hX25_1 (iva_168 hI _ (clamp19 hc))))]; exact hX25_0
        have HL92 : ∀ (q j92 : Nat) (g3_92 : Int32) (g6_92 : Option Value) (g7_92 : Option Value), j92 + q = 5 → 0 ≤ j92 → inR g3_92 0 1 → (g3_92 = 1 ∧ l1B (σ.2.1 14034) k (LM σ c) (Int32.toNatClampNeg (σ.2.2.1 168 (Int32.toNatClampNeg c))) = true ∧ o2B k (LM σ c) (σ.2.2.1 168 (Int32.toNatClampNeg c)) j92 = true ∨ g3_92 = 0 ∧ (l1B (σ.2.1 14034) k (LM σ c) (Int32.toNatClampNeg (σ.2.2.1 168 (Int32.toNatClampNeg c))) = false ∨ o2B k (LM σ c) (σ.2.2.1 168 (Int32.toNatClampNeg c)) j92 = false)) → nI j92 ≤ (σ.2.2.1 168 (Int32.toNatClampNeg c)) → (j92 = 0 ∨ ¬ (σ.2.2.1 168 (Int32.toNatClampNeg c)) ≤ 1) → R G l yX9_mayStand cX9_mayStand 8 (some .boolean) 2 0 0 (QI (fun x w2 => w2 = WW σ ∧ (msB (σ.2.1 14034) k (LM σ c) (σ.2.2.1 168 (Int32.toNatClampNeg c)) = true ∧ x = 1 ∨ msB (σ.2.1 14034) k (LM σ c) (σ.2.2.1 168 (Int32.toNatClampNeg c)) = false ∧ x = 0))) 92 [(some (.ref 140)), (some (.int c)), (some (.int k)), (some (.int g3_92)), (some (.int (σ.2.2.1 168 (Int32.toNatClampNeg c)))), (some (.int (nI j92))), g6_92, g7_92] [] (WW σ) 0 0 := by
          intro q
          induction q with
          | zero =>
            intro j92 g3_92 g6_92 g7_92 hj hs92 hg3_92 hX92_0 hX92_1 hX92_2
            obtain rfl : j92 = 5 := by omega
            refine R_iload (pc := 92) dX9_mayStand_92 rfl ?_
            refine R_iload (pc := 94) dX9_mayStand_94 rfl ?_
            refine R_icge (pc := 96) 190 dX9_mayStand_96 (by decide) (fun _ => ?_) (fun h => absurd (Int32.not_lt.mp (inR_up (iva_168 hI _ (lt_of_vp hx3)) (Int32.le_refl _) (by decide)).2) h)
            refine R_iload_n (pc := 190) dX9_mayStand_190 rfl rfl ?_
            exact R_iret (pc := 191) dX9_mayStand_191 rfl (nar01 hg3_92) (Nat.zero_le _) (Nat.zero_le _) ⟨_, rfl, rfl, hX92_0.elim (fun q => Or.inl ⟨ms_t2 q.2.1 (by rw [(show (Int32.toNatClampNeg (σ.2.2.1 168 (Int32.toNatClampNeg c))) = 5 from jn_of (by omega) (by first | exact nI_eqe hX92_1 (by assumption) | exact nI_eq5 hX92_1 (iva_168 hI _ (clamp19 hc))))]; exact q.2.2), q.1⟩) (fun q => Or.inr ⟨ms_f q.2 hX92_2 (by rw [(show (Int32.toNatClampNeg (σ.2.2.1 168 (Int32.toNatClampNeg c))) = 5 from jn_of (by omega) (by first | exact nI_eqe hX92_1 (by assumption) | exact nI_eq5 hX92_1 (iva_168 hI _ (clamp19 hc))))]; exact Nat.le_refl _), q.1⟩)⟩
          | succ q ih92 =>
            intro j92 g3_92 g6_92 g7_92 hj hs92 hg3_92 hX92_0 hX92_1 hX92_2
            have hrg92 : inR (nI j92) 0 4 := inR_ix hs92 (show j92 < 5 by omega) (by decide) (by decide) (by decide)
            have hlt92 : j92 < 5 := by omega
            refine R_iload (pc := 92) dX9_mayStand_92 rfl ?_
            refine R_iload (pc := 94) dX9_mayStand_94 rfl ?_
            refine R_icge (pc := 96) 190 dX9_mayStand_96 (by decide) (fun b96_6 => ?_) (fun b96_6 => ?_)
            · skip
              refine R_iload_n (pc := 190) dX9_mayStand_190 rfl rfl ?_
              exact R_iret (pc := 191) dX9_mayStand_191 rfl (nar01 hg3_92) (Nat.zero_le _) (Nat.zero_le _) ⟨_, rfl, rfl, hX92_0.elim (fun q => Or.inl ⟨ms_t2 q.2.1 (by rw [(show (Int32.toNatClampNeg (σ.2.2.1 168 (Int32.toNatClampNeg c))) = j92 from jn_of (by omega) (by first | exact nI_eqe hX92_1 (by assumption) | exact nI_eq5 hX92_1 (iva_168 hI _ (clamp19 hc))))]; exact q.2.2), q.1⟩) (fun q => Or.inr ⟨ms_f q.2 hX92_2 (by rw [(show (Int32.toNatClampNeg (σ.2.2.1 168 (Int32.toNatClampNeg c))) = j92 from jn_of (by omega) (by first | exact nI_eqe hX92_1 (by assumption) | exact nI_eq5 hX92_1 (iva_168 hI _ (clamp19 hc))))]; exact Nat.le_refl _), q.1⟩)⟩
            · skip
              refine R_iload_n (pc := 99) dX9_mayStand_99 rfl rfl ?_
              refine R_ifeq (pc := 100) 190 dX9_mayStand_100 (by decide) (fun b100_7 => ?_) (fun b100_7 => ?_)
              · skip
                refine R_iload_n (pc := 190) dX9_mayStand_190 rfl rfl ?_
                exact R_iret (pc := 191) dX9_mayStand_191 rfl (nar01 hg3_92) (Nat.zero_le _) (Nat.zero_le _) ⟨_, rfl, rfl, Or.inr ⟨(by have q := (hX92_0.resolve_left (fun e => absurd (e.1.symm.trans b100_7) (by decide))).2; exact ms_f q hX92_2 (Nat.le_of_succ_le (nI_slt (by omega) b96_6))), b100_7⟩⟩
              · skip
                refine R_iload (pc := 103) dX9_mayStand_103 rfl ?_
                refine R_iconst (pc := 105) (v := 1) dX9_mayStand_105 (by decide) ?_
                refine R_icle (pc := 106) 190 dX9_mayStand_106 (by decide) (fun b106_8 => ?_) (fun b106_8 => ?_)
                · skip
                  refine R_iload_n (pc := 190) dX9_mayStand_190 rfl rfl ?_
                  exact R_iret (pc := 191) dX9_mayStand_191 rfl (nar01 hg3_92) (Nat.zero_le _) (Nat.zero_le _) ⟨_, rfl, rfl, hX92_0.elim (fun q => Or.inl ⟨ms_t1 q.2.1 b106_8, q.1⟩) (fun q => Or.inr ⟨ms_f1 q.2 hX92_2 b106_8, q.1⟩)⟩
                · skip
                  refine R_aload_n (pc := 109) dX9_mayStand_109 rfl rfl ?_
                  refine g_X9_99 (pc := 110) (v := .ref 167) rfl dX9_mayStand_110 (c_140 _) rfl ?_
                  refine R_aload_n (pc := 113) dX9_mayStand_113 rfl rfl ?_
                  refine g_X9_105 (pc := 114) (v := .ref 169) rfl dX9_mayStand_114 (c_140 _) rfl ?_
                  refine R_iconst (pc := 117) (v := 5) dX9_mayStand_117 (by decide) ?_
                  refine R_iload_n (pc := 118) dX9_mayStand_118 rfl rfl ?_
                  refine R_imul (pc := 119) dX9_mayStand_119 ?_
                  have r9 : inR (5 * c) 0 95 := inR_mulc (c := 5) (l := 0) (h := 95) 5 (by decide) (show inR c 0 19 from hc) (by decide) (by decide)
                  have e10 := ti_mulc (c := 5) (l := 0) (h := 95) 5 (by decide) (show inR c 0 19 from hc) (by decide) (by decide)
                  refine R_iload (pc := 120) dX9_mayStand_120 rfl ?_
                  refine R_iconst (pc := 122) (v := 1) dX9_mayStand_122 (by decide) ?_
                  refine R_iadd (pc := 123) dX9_mayStand_123 ?_
                  have r11 : inR ((nI j92) + 1) 1 5 := inR_add (show inR (nI j92) 0 4 from hrg92) (show inR 1 1 1 from (inR_self _)) (by decide) (by decide)
                  have e12 := ti_add (l := 1) (h := 5) (show inR (nI j92) 0 4 from hrg92) (show inR 1 1 1 from (inR_self _)) (by decide) (by decide)
                  refine R_iload (pc := 124) dX9_mayStand_124 rfl ?_
                  refine R_icge (pc := 126) 134 dX9_mayStand_126 (by decide) (fun b126_13 => ?_) (fun b126_13 => ?_)
                  · skip
                    refine R_iconst (pc := 134) (v := 0) dX9_mayStand_134 (by decide) ?_
                    refine R_iadd (pc := 135) dX9_mayStand_135 ?_
                    have r14 : inR ((5 * c) + 0) 0 95 := inR_add (show inR (5 * c) 0 95 from r9) (show inR 0 0 0 from (inR_self _)) (by decide) (by decide)
                    have e15 := ti_add (l := 0) (h := 95) (show inR (5 * c) 0 95 from r9) (show inR 0 0 0 from (inR_self _)) (by decide) (by decide)
                    have hx16 : vp_in ((5 * c) + 0) 100 := (vp_of_inR r14 (by decide))
                    refine R_iaload (pc := 136) dX9_mayStand_136 (c_169 _) hx16 ?_
                    have hx17 : vp_in (σ.2.2.1 169 (Int32.toNatClampNeg ((5 * c) + 0))) 8 := (vp_of_inR (iva_169 hI _ (lt_of_vp hx16)) (by decide))
                    refine R_iaload (pc := 137) dX9_mayStand_137 (c_167 _) hx17 ?_
                    refine st_8_6_i_i (pc := 138) dX9_mayStand_138 ?_
                    refine R_aload_n (pc := 140) dX9_mayStand_140 rfl rfl ?_
                    refine g_X9_99 (pc := 141) (v := .ref 167) rfl dX9_mayStand_141 (c_140 _) rfl ?_
                    refine R_aload_n (pc := 144) dX9_mayStand_144 rfl rfl ?_
                    refine g_X9_105 (pc := 145) (v := .ref 169) rfl dX9_mayStand_145 (c_140 _) rfl ?_
                    refine R_iconst (pc := 148) (v := 5) dX9_mayStand_148 (by decide) ?_
                    refine R_iload_n (pc := 149) dX9_mayStand_149 rfl rfl ?_
                    refine R_imul (pc := 150) dX9_mayStand_150 ?_
                    have r18 : inR (5 * c) 0 95 := inR_mulc (c := 5) (l := 0) (h := 95) 5 (by decide) (show inR c 0 19 from hc) (by decide) (by decide)
                    have e19 := ti_mulc (c := 5) (l := 0) (h := 95) 5 (by decide) (show inR c 0 19 from hc) (by decide) (by decide)
                    refine R_iload (pc := 151) dX9_mayStand_151 rfl ?_
                    refine R_iconst (pc := 153) (v := 1) dX9_mayStand_153 (by decide) ?_
                    refine R_iadd (pc := 154) dX9_mayStand_154 ?_
                    have r20 : inR ((nI j92) + 1) 1 5 := inR_add (show inR (nI j92) 0 4 from hrg92) (show inR 1 1 1 from (inR_self _)) (by decide) (by decide)
                    have e21 := ti_add (l := 1) (h := 5) (show inR (nI j92) 0 4 from hrg92) (show inR 1 1 1 from (inR_self _)) (by decide) (by decide)
                    refine R_iload (pc := 155) dX9_mayStand_155 rfl ?_
                    refine R_icge (pc := 157) 167 dX9_mayStand_157 (by decide) (fun b157_22 => ?_) (fun b157_22 => ?_)
                    · skip
                      refine R_iload (pc := 167) dX9_mayStand_167 rfl ?_
                      refine R_iadd (pc := 169) dX9_mayStand_169 ?_
                      have r23 : inR ((5 * c) + (nI j92)) 0 99 := inR_add (show inR (5 * c) 0 95 from r18) (show inR (nI j92) 0 4 from hrg92) (by decide) (by decide)
                      have e24 := ti_add (l := 0) (h := 99) (show inR (5 * c) 0 95 from r18) (show inR (nI j92) 0 4 from hrg92) (by decide) (by decide)
                      have hx25 : vp_in ((5 * c) + (nI j92)) 100 := (vp_of_inR r23 (by decide))
                      refine R_iaload (pc := 170) dX9_mayStand_170 (c_169 _) hx25 ?_
                      have hx26 : vp_in (σ.2.2.1 169 (Int32.toNatClampNeg ((5 * c) + (nI j92)))) 8 := (vp_of_inR (iva_169 hI _ (lt_of_vp hx25)) (by decide))
                      refine R_iaload (pc := 171) dX9_mayStand_171 (c_167 _) hx26 ?_
                      refine st_8_7_i_i (pc := 172) dX9_mayStand_172 ?_
                      refine R_aload_n (pc := 174) dX9_mayStand_174 rfl rfl ?_
                      refine R_iload_n (pc := 175) dX9_mayStand_175 rfl rfl ?_
                      refine R_iload (pc := 176) dX9_mayStand_176 rfl ?_
                      refine R_iload (pc := 178) dX9_mayStand_178 rfl ?_
                      refine k_X9_242 (pc := 180) (ge_X9_isOrdered _ _ _ _ hI) rfl (c_140 _) (by decide) (Nat.le_refl _) (Nat.le_refl _) (Nat.le_of_ble_eq_true rfl) dX9_mayStand_180 (fun x w2 h => ?_)
                      rcases h with ⟨rfl, ⟨h27, rfl⟩ | ⟨h27, rfl⟩⟩
                      · skip
                        refine st_8_3_i_i (pc := 183) dX9_mayStand_183 ?_
                        refine inc_8_5_1_i (pc := 184) dX9_mayStand_184 ?_
                        have r28 : inR ((nI j92) + 1) 1 5 := inR_add (show inR (nI j92) 0 4 from hrg92) (show inR 1 1 1 from (inR_self _)) (by decide) (by decide)
                        have e29 := ti_add (l := 1) (h := 5) (show inR (nI j92) 0 4 from hrg92) (show inR 1 1 1 from (inR_self _)) (by decide) (by decide)
                        refine R_goto (pc := 187) 92 dX9_mayStand_187 (by decide) ?_
                        rw [nI_1]
                        exact ih92 (j92 + 1) _ _ _ (by omega) (by omega) (show inR 1 0 1 from ⟨by decide, by decide⟩) (Or.inl ⟨rfl, (hX92_0.resolve_right (fun e => absurd e.1 b100_7)).2.1, o2_l (L := (LM σ c)) (hX92_0.resolve_right (fun e => absurd e.1 b100_7)).2.2 (Int32.not_lt.mpr b157_22) h27⟩) (nI_sle (by omega) b96_6) (Or.inr b106_8)
                      · skip
                        refine st_8_3_i_i (pc := 183) dX9_mayStand_183 ?_
                        refine inc_8_5_1_i (pc := 184) dX9_mayStand_184 ?_
                        have r30 : inR ((nI j92) + 1) 1 5 := inR_add (show inR (nI j92) 0 4 from hrg92) (show inR 1 1 1 from (inR_self _)) (by decide) (by decide)
                        have e31 := ti_add (l := 1) (h := 5) (show inR (nI j92) 0 4 from hrg92) (show inR 1 1 1 from (inR_self _)) (by decide) (by decide)
                        refine R_goto (pc := 187) 92 dX9_mayStand_187 (by decide) ?_
                        rw [nI_1]
                        exact ih92 (j92 + 1) _ _ _ (by omega) (by omega) (show inR 0 0 1 from ⟨by decide, by decide⟩) (Or.inr ⟨rfl, Or.inr (o2_l (L := (LM σ c)) (hX92_0.resolve_right (fun e => absurd e.1 b100_7)).2.2 (Int32.not_lt.mpr b157_22) h27)⟩) (nI_sle (by omega) b96_6) (Or.inr b106_8)
                    · skip
                      refine R_iload (pc := 160) dX9_mayStand_160 rfl ?_
                      refine R_iconst (pc := 162) (v := 1) dX9_mayStand_162 (by decide) ?_
                      refine R_iadd (pc := 163) dX9_mayStand_163 ?_
                      have r32 : inR ((nI j92) + 1) 1 5 := inR_add (show inR (nI j92) 0 4 from hrg92) (show inR 1 1 1 from (inR_self _)) (by decide) (by decide)
                      have e33 := ti_add (l := 1) (h := 5) (show inR (nI j92) 0 4 from hrg92) (show inR 1 1 1 from (inR_self _)) (by decide) (by decide)
                      refine R_goto (pc := 164) 169 dX9_mayStand_164 (by decide) ?_
                      refine R_iadd (pc := 169) dX9_mayStand_169 ?_
                      have r34 : inR ((5 * c) + ((nI j92) + 1)) 1 100 := inR_add (show inR (5 * c) 0 95 from r18) (show inR ((nI j92) + 1) 1 5 from r32) (by decide) (by decide)
                      have e35 := ti_add (l := 1) (h := 100) (show inR (5 * c) 0 95 from r18) (show inR ((nI j92) + 1) 1 5 from r32) (by decide) (by decide)
                      have hx36 : vp_in ((5 * c) + ((nI j92) + 1)) 100 := (vp_ti (by have q0 := e10; have q1 := e12; have q2 := e15; have q3 := e19; have q4 := e21; have q5 := e33; have q6 := e35; have q7 := ti_nle b96_6; have q8 := ti_ne b100_7; have q9 := ti_nle b106_8; have q10 := ti_le b126_13; have q11 := ti_nle b157_22; have q12 := ti_in hc; have q13 := ti_in hk; have q14 := ti_in (iva_168 hI _ (lt_of_vp hx3)); have q15 := ti_in hg3_25; have q16 := ti_in hg3_92; have q17 := ti_in hrg92; have q18 := ti_in r18; have q19 := ti_in r32; have q20 := ti_in r14; have q21 := ti_in (iva_169 hI _ (lt_of_vp hx16)); have q22 := ti_in r34; have z0 : (0 : Int32).toInt = 0 := (by decide); have z1 : (1 : Int32).toInt = 1 := (by decide); have z2 : (100 : Int32).toInt = 100 := (by decide); have z3 : (168 : Int32).toInt = 168 := (by decide); have z4 : (19 : Int32).toInt = 19 := (by decide); have z5 : (4 : Int32).toInt = 4 := (by decide); have z6 : (5 : Int32).toInt = 5 := (by decide); have z7 : (63 : Int32).toInt = 63 := (by decide); have z8 : (7 : Int32).toInt = 7 := (by decide); have z9 : (95 : Int32).toInt = 95 := (by decide); omega) (by have q0 := e10; have q1 := e12; have q2 := e15; have q3 := e19; have q4 := e21; have q5 := e33; have q6 := e35; have q7 := ti_nle b96_6; have q8 := ti_ne b100_7; have q9 := ti_nle b106_8; have q10 := ti_le b126_13; have q11 := ti_nle b157_22; have q12 := ti_in hc; have q13 := ti_in hk; have q14 := ti_in (iva_168 hI _ (lt_of_vp hx3)); have q15 := ti_in hg3_25; have q16 := ti_in hg3_92; have q17 := ti_in hrg92; have q18 := ti_in r18; have q19 := ti_in r32; have q20 := ti_in r14; have q21 := ti_in (iva_169 hI _ (lt_of_vp hx16)); have q22 := ti_in r34; have z0 : (0 : Int32).toInt = 0 := (by decide); have z1 : (1 : Int32).toInt = 1 := (by decide); have z2 : (100 : Int32).toInt = 100 := (by decide); have z3 : (168 : Int32).toInt = 168 := (by decide); have z4 : (19 : Int32).toInt = 19 := (by decide); have z5 : (4 : Int32).toInt = 4 := (by decide); have z6 : (5 : Int32).toInt = 5 := (by decide); have z7 : (63 : Int32).toInt = 63 := (by decide); have z8 : (7 : Int32).toInt = 7 := (by decide); have z9 : (95 : Int32).toInt = 95 := (by decide); omega))
                      refine R_iaload (pc := 170) dX9_mayStand_170 (c_169 _) hx36 ?_
                      have hx37 : vp_in (σ.2.2.1 169 (Int32.toNatClampNeg ((5 * c) + ((nI j92) + 1)))) 8 := (vp_of_inR (iva_169 hI _ (lt_of_vp hx36)) (by decide))
                      refine R_iaload (pc := 171) dX9_mayStand_171 (c_167 _) hx37 ?_
                      refine st_8_7_i_i (pc := 172) dX9_mayStand_172 ?_
                      refine R_aload_n (pc := 174) dX9_mayStand_174 rfl rfl ?_
                      refine R_iload_n (pc := 175) dX9_mayStand_175 rfl rfl ?_
                      refine R_iload (pc := 176) dX9_mayStand_176 rfl ?_
                      refine R_iload (pc := 178) dX9_mayStand_178 rfl ?_
                      refine k_X9_242 (pc := 180) (ge_X9_isOrdered _ _ _ _ hI) rfl (c_140 _) (by decide) (Nat.le_refl _) (Nat.le_refl _) (Nat.le_of_ble_eq_true rfl) dX9_mayStand_180 (fun x w2 h => ?_)
                      rcases h with ⟨rfl, ⟨h38, rfl⟩ | ⟨h38, rfl⟩⟩
                      · skip
                        refine st_8_3_i_i (pc := 183) dX9_mayStand_183 ?_
                        refine inc_8_5_1_i (pc := 184) dX9_mayStand_184 ?_
                        have r39 : inR ((nI j92) + 1) 1 5 := inR_add (show inR (nI j92) 0 4 from hrg92) (show inR 1 1 1 from (inR_self _)) (by decide) (by decide)
                        have e40 := ti_add (l := 1) (h := 5) (show inR (nI j92) 0 4 from hrg92) (show inR 1 1 1 from (inR_self _)) (by decide) (by decide)
                        refine R_goto (pc := 187) 92 dX9_mayStand_187 (by decide) ?_
                        rw [nI_1]
                        exact ih92 (j92 + 1) _ _ _ (by omega) (by omega) (show inR 1 0 1 from ⟨by decide, by decide⟩) (absurd b126_13 b157_22) (nI_sle (by omega) b96_6) (Or.inr b106_8)
                      · skip
                        refine st_8_3_i_i (pc := 183) dX9_mayStand_183 ?_
                        refine inc_8_5_1_i (pc := 184) dX9_mayStand_184 ?_
                        have r41 : inR ((nI j92) + 1) 1 5 := inR_add (show inR (nI j92) 0 4 from hrg92) (show inR 1 1 1 from (inR_self _)) (by decide) (by decide)
                        have e42 := ti_add (l := 1) (h := 5) (show inR (nI j92) 0 4 from hrg92) (show inR 1 1 1 from (inR_self _)) (by decide) (by decide)
                        refine R_goto (pc := 187) 92 dX9_mayStand_187 (by decide) ?_
                        rw [nI_1]
                        exact ih92 (j92 + 1) _ _ _ (by omega) (by omega) (show inR 0 0 1 from ⟨by decide, by decide⟩) (absurd b126_13 b157_22) (nI_sle (by omega) b96_6) (Or.inr b106_8)
                  · skip
                    refine R_iload (pc := 129) dX9_mayStand_129 rfl ?_
                    refine R_goto (pc := 131) 135 dX9_mayStand_131 (by decide) ?_
                    refine R_iadd (pc := 135) dX9_mayStand_135 ?_
                    have r43 : inR ((5 * c) + (nI j92)) 0 99 := inR_add (show inR (5 * c) 0 95 from r9) (show inR (nI j92) 0 4 from hrg92) (by decide) (by decide)
                    have e44 := ti_add (l := 0) (h := 99) (show inR (5 * c) 0 95 from r9) (show inR (nI j92) 0 4 from hrg92) (by decide) (by decide)
                    have hx45 : vp_in ((5 * c) + (nI j92)) 100 := (vp_of_inR r43 (by decide))
                    refine R_iaload (pc := 136) dX9_mayStand_136 (c_169 _) hx45 ?_
                    have hx46 : vp_in (σ.2.2.1 169 (Int32.toNatClampNeg ((5 * c) + (nI j92)))) 8 := (vp_of_inR (iva_169 hI _ (lt_of_vp hx45)) (by decide))
                    refine R_iaload (pc := 137) dX9_mayStand_137 (c_167 _) hx46 ?_
                    refine st_8_6_i_i (pc := 138) dX9_mayStand_138 ?_
                    refine R_aload_n (pc := 140) dX9_mayStand_140 rfl rfl ?_
                    refine g_X9_99 (pc := 141) (v := .ref 167) rfl dX9_mayStand_141 (c_140 _) rfl ?_
                    refine R_aload_n (pc := 144) dX9_mayStand_144 rfl rfl ?_
                    refine g_X9_105 (pc := 145) (v := .ref 169) rfl dX9_mayStand_145 (c_140 _) rfl ?_
                    refine R_iconst (pc := 148) (v := 5) dX9_mayStand_148 (by decide) ?_
                    refine R_iload_n (pc := 149) dX9_mayStand_149 rfl rfl ?_
                    refine R_imul (pc := 150) dX9_mayStand_150 ?_
                    have r47 : inR (5 * c) 0 95 := inR_mulc (c := 5) (l := 0) (h := 95) 5 (by decide) (show inR c 0 19 from hc) (by decide) (by decide)
                    have e48 := ti_mulc (c := 5) (l := 0) (h := 95) 5 (by decide) (show inR c 0 19 from hc) (by decide) (by decide)
                    refine R_iload (pc := 151) dX9_mayStand_151 rfl ?_
                    refine R_iconst (pc := 153) (v := 1) dX9_mayStand_153 (by decide) ?_
                    refine R_iadd (pc := 154) dX9_mayStand_154 ?_
                    have r49 : inR ((nI j92) + 1) 1 5 := inR_add (show inR (nI j92) 0 4 from hrg92) (show inR 1 1 1 from (inR_self _)) (by decide) (by decide)
                    have e50 := ti_add (l := 1) (h := 5) (show inR (nI j92) 0 4 from hrg92) (show inR 1 1 1 from (inR_self _)) (by decide) (by decide)
                    refine R_iload (pc := 155) dX9_mayStand_155 rfl ?_
                    refine R_icge (pc := 157) 167 dX9_mayStand_157 (by decide) (fun b157_51 => ?_) (fun b157_51 => ?_)
                    · skip
                      refine R_iload (pc := 167) dX9_mayStand_167 rfl ?_
                      refine R_iadd (pc := 169) dX9_mayStand_169 ?_
                      have r52 : inR ((5 * c) + (nI j92)) 0 99 := inR_add (show inR (5 * c) 0 95 from r47) (show inR (nI j92) 0 4 from hrg92) (by decide) (by decide)
                      have e53 := ti_add (l := 0) (h := 99) (show inR (5 * c) 0 95 from r47) (show inR (nI j92) 0 4 from hrg92) (by decide) (by decide)
                      have hx54 : vp_in ((5 * c) + (nI j92)) 100 := (vp_of_inR r52 (by decide))
                      refine R_iaload (pc := 170) dX9_mayStand_170 (c_169 _) hx54 ?_
                      have hx55 : vp_in (σ.2.2.1 169 (Int32.toNatClampNeg ((5 * c) + (nI j92)))) 8 := (vp_of_inR (iva_169 hI _ (lt_of_vp hx45)) (by decide))
                      refine R_iaload (pc := 171) dX9_mayStand_171 (c_167 _) hx55 ?_
                      refine st_8_7_i_i (pc := 172) dX9_mayStand_172 ?_
                      refine R_aload_n (pc := 174) dX9_mayStand_174 rfl rfl ?_
                      refine R_iload_n (pc := 175) dX9_mayStand_175 rfl rfl ?_
                      refine R_iload (pc := 176) dX9_mayStand_176 rfl ?_
                      refine R_iload (pc := 178) dX9_mayStand_178 rfl ?_
                      refine k_X9_242 (pc := 180) (ge_X9_isOrdered _ _ _ _ hI) rfl (c_140 _) (by decide) (Nat.le_refl _) (Nat.le_refl _) (Nat.le_of_ble_eq_true rfl) dX9_mayStand_180 (fun x w2 h => ?_)
                      rcases h with ⟨rfl, ⟨h56, rfl⟩ | ⟨h56, rfl⟩⟩
                      · skip
                        refine st_8_3_i_i (pc := 183) dX9_mayStand_183 ?_
                        refine inc_8_5_1_i (pc := 184) dX9_mayStand_184 ?_
                        have r57 : inR ((nI j92) + 1) 1 5 := inR_add (show inR (nI j92) 0 4 from hrg92) (show inR 1 1 1 from (inR_self _)) (by decide) (by decide)
                        have e58 := ti_add (l := 1) (h := 5) (show inR (nI j92) 0 4 from hrg92) (show inR 1 1 1 from (inR_self _)) (by decide) (by decide)
                        refine R_goto (pc := 187) 92 dX9_mayStand_187 (by decide) ?_
                        rw [nI_1]
                        exact ih92 (j92 + 1) _ _ _ (by omega) (by omega) (show inR 1 0 1 from ⟨by decide, by decide⟩) (absurd b157_51 b126_13) (nI_sle (by omega) b96_6) (Or.inr b106_8)
                      · skip
                        refine st_8_3_i_i (pc := 183) dX9_mayStand_183 ?_
                        refine inc_8_5_1_i (pc := 184) dX9_mayStand_184 ?_
                        have r59 : inR ((nI j92) + 1) 1 5 := inR_add (show inR (nI j92) 0 4 from hrg92) (show inR 1 1 1 from (inR_self _)) (by decide) (by decide)
                        have e60 := ti_add (l := 1) (h := 5) (show inR (nI j92) 0 4 from hrg92) (show inR 1 1 1 from (inR_self _)) (by decide) (by decide)
                        refine R_goto (pc := 187) 92 dX9_mayStand_187 (by decide) ?_
                        rw [nI_1]
                        exact ih92 (j92 + 1) _ _ _ (by omega) (by omega) (show inR 0 0 1 from ⟨by decide, by decide⟩) (absurd b157_51 b126_13) (nI_sle (by omega) b96_6) (Or.inr b106_8)
                    · skip
                      refine R_iload (pc := 160) dX9_mayStand_160 rfl ?_
                      refine R_iconst (pc := 162) (v := 1) dX9_mayStand_162 (by decide) ?_
                      refine R_iadd (pc := 163) dX9_mayStand_163 ?_
                      have r61 : inR ((nI j92) + 1) 1 5 := inR_add (show inR (nI j92) 0 4 from hrg92) (show inR 1 1 1 from (inR_self _)) (by decide) (by decide)
                      have e62 := ti_add (l := 1) (h := 5) (show inR (nI j92) 0 4 from hrg92) (show inR 1 1 1 from (inR_self _)) (by decide) (by decide)
                      refine R_goto (pc := 164) 169 dX9_mayStand_164 (by decide) ?_
                      refine R_iadd (pc := 169) dX9_mayStand_169 ?_
                      have r63 : inR ((5 * c) + ((nI j92) + 1)) 1 100 := inR_add (show inR (5 * c) 0 95 from r47) (show inR ((nI j92) + 1) 1 5 from r61) (by decide) (by decide)
                      have e64 := ti_add (l := 1) (h := 100) (show inR (5 * c) 0 95 from r47) (show inR ((nI j92) + 1) 1 5 from r61) (by decide) (by decide)
                      have hx65 : vp_in ((5 * c) + ((nI j92) + 1)) 100 := (vp_ti (by have q0 := e10; have q1 := e12; have q2 := e44; have q3 := e48; have q4 := e50; have q5 := e62; have q6 := e64; have q7 := ti_nle b96_6; have q8 := ti_ne b100_7; have q9 := ti_nle b106_8; have q10 := ti_nle b126_13; have q11 := ti_nle b157_51; have q12 := ti_in hc; have q13 := ti_in hk; have q14 := ti_in (iva_168 hI _ (lt_of_vp hx3)); have q15 := ti_in hg3_25; have q16 := ti_in hg3_92; have q17 := ti_in hrg92; have q18 := ti_in r47; have q19 := ti_in r61; have q20 := ti_in r43; have q21 := ti_in (iva_169 hI _ (lt_of_vp hx45)); have q22 := ti_in r63; have z0 : (0 : Int32).toInt = 0 := (by decide); have z1 : (1 : Int32).toInt = 1 := (by decide); have z2 : (100 : Int32).toInt = 100 := (by decide); have z3 : (168 : Int32).toInt = 168 := (by decide); have z4 : (19 : Int32).toInt = 19 := (by decide); have z5 : (4 : Int32).toInt = 4 := (by decide); have z6 : (5 : Int32).toInt = 5 := (by decide); have z7 : (63 : Int32).toInt = 63 := (by decide); have z8 : (7 : Int32).toInt = 7 := (by decide); have z9 : (95 : Int32).toInt = 95 := (by decide); have z10 : (99 : Int32).toInt = 99 := (by decide); omega) (by have q0 := e10; have q1 := e12; have q2 := e44; have q3 := e48; have q4 := e50; have q5 := e62; have q6 := e64; have q7 := ti_nle b96_6; have q8 := ti_ne b100_7; have q9 := ti_nle b106_8; have q10 := ti_nle b126_13; have q11 := ti_nle b157_51; have q12 := ti_in hc; have q13 := ti_in hk; have q14 := ti_in (iva_168 hI _ (lt_of_vp hx3)); have q15 := ti_in hg3_25; have q16 := ti_in hg3_92; have q17 := ti_in hrg92; have q18 := ti_in r47; have q19 := ti_in r61; have q20 := ti_in r43; have q21 := ti_in (iva_169 hI _ (lt_of_vp hx45)); have q22 := ti_in r63; have z0 : (0 : Int32).toInt = 0 := (by decide); have z1 : (1 : Int32).toInt = 1 := (by decide); have z2 : (100 : Int32).toInt = 100 := (by decide); have z3 : (168 : Int32).toInt = 168 := (by decide); have z4 : (19 : Int32).toInt = 19 := (by decide); have z5 : (4 : Int32).toInt = 4 := (by decide); have z6 : (5 : Int32).toInt = 5 := (by decide); have z7 : (63 : Int32).toInt = 63 := (by decide); have z8 : (7 : Int32).toInt = 7 := (by decide); have z9 : (95 : Int32).toInt = 95 := (by decide); have z10 : (99 : Int32).toInt = 99 := (by decide); omega))
                      refine R_iaload (pc := 170) dX9_mayStand_170 (c_169 _) hx65 ?_
                      have hx66 : vp_in (σ.2.2.1 169 (Int32.toNatClampNeg ((5 * c) + ((nI j92) + 1)))) 8 := (vp_of_inR (iva_169 hI _ (lt_of_vp hx65)) (by decide))
                      refine R_iaload (pc := 171) dX9_mayStand_171 (c_167 _) hx66 ?_
                      refine st_8_7_i_i (pc := 172) dX9_mayStand_172 ?_
                      refine R_aload_n (pc := 174) dX9_mayStand_174 rfl rfl ?_
                      refine R_iload_n (pc := 175) dX9_mayStand_175 rfl rfl ?_
                      refine R_iload (pc := 176) dX9_mayStand_176 rfl ?_
                      refine R_iload (pc := 178) dX9_mayStand_178 rfl ?_
                      refine k_X9_242 (pc := 180) (ge_X9_isOrdered _ _ _ _ hI) rfl (c_140 _) (by decide) (Nat.le_refl _) (Nat.le_refl _) (Nat.le_of_ble_eq_true rfl) dX9_mayStand_180 (fun x w2 h => ?_)
                      rcases h with ⟨rfl, ⟨h67, rfl⟩ | ⟨h67, rfl⟩⟩
                      · skip
                        refine st_8_3_i_i (pc := 183) dX9_mayStand_183 ?_
                        refine inc_8_5_1_i (pc := 184) dX9_mayStand_184 ?_
                        have r68 : inR ((nI j92) + 1) 1 5 := inR_add (show inR (nI j92) 0 4 from hrg92) (show inR 1 1 1 from (inR_self _)) (by decide) (by decide)
                        have e69 := ti_add (l := 1) (h := 5) (show inR (nI j92) 0 4 from hrg92) (show inR 1 1 1 from (inR_self _)) (by decide) (by decide)
                        refine R_goto (pc := 187) 92 dX9_mayStand_187 (by decide) ?_
                        rw [nI_1]
                        exact ih92 (j92 + 1) _ _ _ (by omega) (by omega) (show inR 1 0 1 from ⟨by decide, by decide⟩) (Or.inl ⟨rfl, (hX92_0.resolve_right (fun e => absurd e.1 b100_7)).2.1, o2_c (L := (LM σ c)) (hX92_0.resolve_right (fun e => absurd e.1 b100_7)).2.2 (Int32.not_le.mp b157_51) h67⟩) (nI_sle (by omega) b96_6) (Or.inr b106_8)
                      · skip
                        refine st_8_3_i_i (pc := 183) dX9_mayStand_183 ?_
                        refine inc_8_5_1_i (pc := 184) dX9_mayStand_184 ?_
                        have r70 : inR ((nI j92) + 1) 1 5 := inR_add (show inR (nI j92) 0 4 from hrg92) (show inR 1 1 1 from (inR_self _)) (by decide) (by decide)
                        have e71 := ti_add (l := 1) (h := 5) (show inR (nI j92) 0 4 from hrg92) (show inR 1 1 1 from (inR_self _)) (by decide) (by decide)
                        refine R_goto (pc := 187) 92 dX9_mayStand_187 (by decide) ?_
                        rw [nI_1]
                        exact ih92 (j92 + 1) _ _ _ (by omega) (by omega) (show inR 0 0 1 from ⟨by decide, by decide⟩) (Or.inr ⟨rfl, Or.inr (o2_c (L := (LM σ c)) (hX92_0.resolve_right (fun e => absurd e.1 b100_7)).2.2 (Int32.not_le.mp b157_51) h67)⟩) (nI_sle (by omega) b96_6) (Or.inr b106_8)
        exact HL92 5 0 _ _ _ (by omega) (by omega) hg3_25 (hM.imp (fun q => ⟨q.1, q.2, rfl⟩) (fun q => ⟨q.1, Or.inl q.2⟩)) (show (0 : Int32) ≤ (σ.2.2.1 168 (Int32.toNatClampNeg c)) from Int32.not_lt.mp (iva_168 hI _ (clamp19 hc)).1) (Or.inl rfl)
      | succ q ih25 =>
        intro j25 g3_25 g6_25 g7_25 hj hs25 hg3_25 hX25_0 hX25_1
        have hrg25 : inR (nI j25) 0 4 := inR_ix hs25 (show j25 < 5 by omega) (by decide) (by decide) (by decide)
        have hlt25 : j25 < 5 := by omega
        refine R_iload (pc := 25) dX9_mayStand_25 rfl ?_
        refine R_iload (pc := 27) dX9_mayStand_27 rfl ?_
        refine R_icge (pc := 29) 89 dX9_mayStand_29 (by decide) (fun b29_72 => ?_) (fun b29_72 => ?_)
        · skip
          refine R_iconst (pc := 89) (v := 0) dX9_mayStand_89 (by decide) ?_
          refine st_8_5_i_i (pc := 90) dX9_mayStand_90 ?_
          have hM : g3_25 = 1 ∧ l1B (σ.2.1 14034) k (LM σ c) (Int32.toNatClampNeg (σ.2.2.1 168 (Int32.toNatClampNeg c))) = true ∨ g3_25 = 0 ∧ l1B (σ.2.1 14034) k (LM σ c) (Int32.toNatClampNeg (σ.2.2.1 168 (Int32.toNatClampNeg c))) = false := by rw [show (Int32.toNatClampNeg (σ.2.2.1 168 (Int32.toNatClampNeg c))) = j25 from (jn_of (by omega) (by first | exact nI_eqe hX25_1 (by assumption) | exact nI_eq5 hX25_1 (iva_168 hI _ (clamp19 hc))))]; exact hX25_0
          have HL92 : ∀ (q j92 : Nat) (g3_92 : Int32) (g6_92 : Option Value) (g7_92 : Option Value), j92 + q = 5 → 0 ≤ j92 → inR g3_92 0 1 → (g3_92 = 1 ∧ l1B (σ.2.1 14034) k (LM σ c) (Int32.toNatClampNeg (σ.2.2.1 168 (Int32.toNatClampNeg c))) = true ∧ o2B k (LM σ c) (σ.2.2.1 168 (Int32.toNatClampNeg c)) j92 = true ∨ g3_92 = 0 ∧ (l1B (σ.2.1 14034) k (LM σ c) (Int32.toNatClampNeg (σ.2.2.1 168 (Int32.toNatClampNeg c))) = false ∨ o2B k (LM σ c) (σ.2.2.1 168 (Int32.toNatClampNeg c)) j92 = false)) → nI j92 ≤ (σ.2.2.1 168 (Int32.toNatClampNeg c)) → (j92 = 0 ∨ ¬ (σ.2.2.1 168 (Int32.toNatClampNeg c)) ≤ 1) → R G l yX9_mayStand cX9_mayStand 8 (some .boolean) 2 0 0 (QI (fun x w2 => w2 = WW σ ∧ (msB (σ.2.1 14034) k (LM σ c) (σ.2.2.1 168 (Int32.toNatClampNeg c)) = true ∧ x = 1 ∨ msB (σ.2.1 14034) k (LM σ c) (σ.2.2.1 168 (Int32.toNatClampNeg c)) = false ∧ x = 0))) 92 [(some (.ref 140)), (some (.int c)), (some (.int k)), (some (.int g3_92)), (some (.int (σ.2.2.1 168 (Int32.toNatClampNeg c)))), (some (.int (nI j92))), g6_92, g7_92] [] (WW σ) 0 0 := by
            intro q
            induction q with
            | zero =>
              intro j92 g3_92 g6_92 g7_92 hj hs92 hg3_92 hX92_0 hX92_1 hX92_2
              obtain rfl : j92 = 5 := by omega
              refine R_iload (pc := 92) dX9_mayStand_92 rfl ?_
              refine R_iload (pc := 94) dX9_mayStand_94 rfl ?_
              refine R_icge (pc := 96) 190 dX9_mayStand_96 (by decide) (fun _ => ?_) (fun h => absurd (Int32.not_lt.mp (inR_up (iva_168 hI _ (lt_of_vp hx3)) (Int32.le_refl _) (by decide)).2) h)
              refine R_iload_n (pc := 190) dX9_mayStand_190 rfl rfl ?_
              exact R_iret (pc := 191) dX9_mayStand_191 rfl (nar01 hg3_92) (Nat.zero_le _) (Nat.zero_le _) ⟨_, rfl, rfl, hX92_0.elim (fun q => Or.inl ⟨ms_t2 q.2.1 (by rw [(show (Int32.toNatClampNeg (σ.2.2.1 168 (Int32.toNatClampNeg c))) = 5 from jn_of (by omega) (by first | exact nI_eqe hX92_1 (by assumption) | exact nI_eq5 hX92_1 (iva_168 hI _ (clamp19 hc))))]; exact q.2.2), q.1⟩) (fun q => Or.inr ⟨ms_f q.2 hX92_2 (by rw [(show (Int32.toNatClampNeg (σ.2.2.1 168 (Int32.toNatClampNeg c))) = 5 from jn_of (by omega) (by first | exact nI_eqe hX92_1 (by assumption) | exact nI_eq5 hX92_1 (iva_168 hI _ (clamp19 hc))))]; exact Nat.le_refl _), q.1⟩)⟩
            | succ q ih92 =>
              intro j92 g3_92 g6_92 g7_92 hj hs92 hg3_92 hX92_0 hX92_1 hX92_2
              have hrg92 : inR (nI j92) 0 4 := inR_ix hs92 (show j92 < 5 by omega) (by decide) (by decide) (by decide)
              have hlt92 : j92 < 5 := by omega
              refine R_iload (pc := 92) dX9_mayStand_92 rfl ?_
              refine R_iload (pc := 94) dX9_mayStand_94 rfl ?_
              refine R_icge (pc := 96) 190 dX9_mayStand_96 (by decide) (fun b96_74 => ?_) (fun b96_74 => ?_)
              · skip
                refine R_iload_n (pc := 190) dX9_mayStand_190 rfl rfl ?_
                exact R_iret (pc := 191) dX9_mayStand_191 rfl (nar01 hg3_92) (Nat.zero_le _) (Nat.zero_le _) ⟨_, rfl, rfl, hX92_0.elim (fun q => Or.inl ⟨ms_t2 q.2.1 (by rw [(show (Int32.toNatClampNeg (σ.2.2.1 168 (Int32.toNatClampNeg c))) = j92 from jn_of (by omega) (by first | exact nI_eqe hX92_1 (by assumption) | exact nI_eq5 hX92_1 (iva_168 hI _ (clamp19 hc))))]; exact q.2.2), q.1⟩) (fun q => Or.inr ⟨ms_f q.2 hX92_2 (by rw [(show (Int32.toNatClampNeg (σ.2.2.1 168 (Int32.toNatClampNeg c))) = j92 from jn_of (by omega) (by first | exact nI_eqe hX92_1 (by assumption) | exact nI_eq5 hX92_1 (iva_168 hI _ (clamp19 hc))))]; exact Nat.le_refl _), q.1⟩)⟩
              · skip
                refine R_iload_n (pc := 99) dX9_mayStand_99 rfl rfl ?_
                refine R_ifeq (pc := 100) 190 dX9_mayStand_100 (by decide) (fun b100_75 => ?_) (fun b100_75 => ?_)
                · skip
                  refine R_iload_n (pc := 190) dX9_mayStand_190 rfl rfl ?_
                  exact R_iret (pc := 191) dX9_mayStand_191 rfl (nar01 hg3_92) (Nat.zero_le _) (Nat.zero_le _) ⟨_, rfl, rfl, Or.inr ⟨(by have q := (hX92_0.resolve_left (fun e => absurd (e.1.symm.trans b100_75) (by decide))).2; exact ms_f q hX92_2 (Nat.le_of_succ_le (nI_slt (by omega) b96_74))), b100_75⟩⟩
                · skip
                  refine R_iload (pc := 103) dX9_mayStand_103 rfl ?_
                  refine R_iconst (pc := 105) (v := 1) dX9_mayStand_105 (by decide) ?_
                  refine R_icle (pc := 106) 190 dX9_mayStand_106 (by decide) (fun b106_76 => ?_) (fun b106_76 => ?_)
                  · skip
                    refine R_iload_n (pc := 190) dX9_mayStand_190 rfl rfl ?_
                    exact R_iret (pc := 191) dX9_mayStand_191 rfl (nar01 hg3_92) (Nat.zero_le _) (Nat.zero_le _) ⟨_, rfl, rfl, hX92_0.elim (fun q => Or.inl ⟨ms_t1 q.2.1 b106_76, q.1⟩) (fun q => Or.inr ⟨ms_f1 q.2 hX92_2 b106_76, q.1⟩)⟩
                  · skip
                    refine R_aload_n (pc := 109) dX9_mayStand_109 rfl rfl ?_
                    refine g_X9_99 (pc := 110) (v := .ref 167) rfl dX9_mayStand_110 (c_140 _) rfl ?_
                    refine R_aload_n (pc := 113) dX9_mayStand_113 rfl rfl ?_
                    refine g_X9_105 (pc := 114) (v := .ref 169) rfl dX9_mayStand_114 (c_140 _) rfl ?_
                    refine R_iconst (pc := 117) (v := 5) dX9_mayStand_117 (by decide) ?_
                    refine R_iload_n (pc := 118) dX9_mayStand_118 rfl rfl ?_
                    refine R_imul (pc := 119) dX9_mayStand_119 ?_
                    have r77 : inR (5 * c) 0 95 := inR_mulc (c := 5) (l := 0) (h := 95) 5 (by decide) (show inR c 0 19 from hc) (by decide) (by decide)
                    have e78 := ti_mulc (c := 5) (l := 0) (h := 95) 5 (by decide) (show inR c 0 19 from hc) (by decide) (by decide)
                    refine R_iload (pc := 120) dX9_mayStand_120 rfl ?_
                    refine R_iconst (pc := 122) (v := 1) dX9_mayStand_122 (by decide) ?_
                    refine R_iadd (pc := 123) dX9_mayStand_123 ?_
                    have r79 : inR ((nI j92) + 1) 1 5 := inR_add (show inR (nI j92) 0 4 from hrg92) (show inR 1 1 1 from (inR_self _)) (by decide) (by decide)
                    have e80 := ti_add (l := 1) (h := 5) (show inR (nI j92) 0 4 from hrg92) (show inR 1 1 1 from (inR_self _)) (by decide) (by decide)
                    refine R_iload (pc := 124) dX9_mayStand_124 rfl ?_
                    refine R_icge (pc := 126) 134 dX9_mayStand_126 (by decide) (fun b126_81 => ?_) (fun b126_81 => ?_)
                    · skip
                      refine R_iconst (pc := 134) (v := 0) dX9_mayStand_134 (by decide) ?_
                      refine R_iadd (pc := 135) dX9_mayStand_135 ?_
                      have r82 : inR ((5 * c) + 0) 0 95 := inR_add (show inR (5 * c) 0 95 from r77) (show inR 0 0 0 from (inR_self _)) (by decide) (by decide)
                      have e83 := ti_add (l := 0) (h := 95) (show inR (5 * c) 0 95 from r77) (show inR 0 0 0 from (inR_self _)) (by decide) (by decide)
                      have hx84 : vp_in ((5 * c) + 0) 100 := (vp_of_inR r82 (by decide))
                      refine R_iaload (pc := 136) dX9_mayStand_136 (c_169 _) hx84 ?_
                      have hx85 : vp_in (σ.2.2.1 169 (Int32.toNatClampNeg ((5 * c) + 0))) 8 := (vp_of_inR (iva_169 hI _ (lt_of_vp hx84)) (by decide))
                      refine R_iaload (pc := 137) dX9_mayStand_137 (c_167 _) hx85 ?_
                      refine st_8_6_i_i (pc := 138) dX9_mayStand_138 ?_
                      refine R_aload_n (pc := 140) dX9_mayStand_140 rfl rfl ?_
                      refine g_X9_99 (pc := 141) (v := .ref 167) rfl dX9_mayStand_141 (c_140 _) rfl ?_
                      refine R_aload_n (pc := 144) dX9_mayStand_144 rfl rfl ?_
                      refine g_X9_105 (pc := 145) (v := .ref 169) rfl dX9_mayStand_145 (c_140 _) rfl ?_
                      refine R_iconst (pc := 148) (v := 5) dX9_mayStand_148 (by decide) ?_
                      refine R_iload_n (pc := 149) dX9_mayStand_149 rfl rfl ?_
                      refine R_imul (pc := 150) dX9_mayStand_150 ?_
                      have r86 : inR (5 * c) 0 95 := inR_mulc (c := 5) (l := 0) (h := 95) 5 (by decide) (show inR c 0 19 from hc) (by decide) (by decide)
                      have e87 := ti_mulc (c := 5) (l := 0) (h := 95) 5 (by decide) (show inR c 0 19 from hc) (by decide) (by decide)
                      refine R_iload (pc := 151) dX9_mayStand_151 rfl ?_
                      refine R_iconst (pc := 153) (v := 1) dX9_mayStand_153 (by decide) ?_
                      refine R_iadd (pc := 154) dX9_mayStand_154 ?_
                      have r88 : inR ((nI j92) + 1) 1 5 := inR_add (show inR (nI j92) 0 4 from hrg92) (show inR 1 1 1 from (inR_self _)) (by decide) (by decide)
                      have e89 := ti_add (l := 1) (h := 5) (show inR (nI j92) 0 4 from hrg92) (show inR 1 1 1 from (inR_self _)) (by decide) (by decide)
                      refine R_iload (pc := 155) dX9_mayStand_155 rfl ?_
                      refine R_icge (pc := 157) 167 dX9_mayStand_157 (by decide) (fun b157_90 => ?_) (fun b157_90 => ?_)
                      · skip
                        refine R_iload (pc := 167) dX9_mayStand_167 rfl ?_
                        refine R_iadd (pc := 169) dX9_mayStand_169 ?_
                        have r91 : inR ((5 * c) + (nI j92)) 0 99 := inR_add (show inR (5 * c) 0 95 from r86) (show inR (nI j92) 0 4 from hrg92) (by decide) (by decide)
                        have e92 := ti_add (l := 0) (h := 99) (show inR (5 * c) 0 95 from r86) (show inR (nI j92) 0 4 from hrg92) (by decide) (by decide)
                        have hx93 : vp_in ((5 * c) + (nI j92)) 100 := (vp_of_inR r91 (by decide))
                        refine R_iaload (pc := 170) dX9_mayStand_170 (c_169 _) hx93 ?_
                        have hx94 : vp_in (σ.2.2.1 169 (Int32.toNatClampNeg ((5 * c) + (nI j92)))) 8 := (vp_of_inR (iva_169 hI _ (lt_of_vp hx93)) (by decide))
                        refine R_iaload (pc := 171) dX9_mayStand_171 (c_167 _) hx94 ?_
                        refine st_8_7_i_i (pc := 172) dX9_mayStand_172 ?_
                        refine R_aload_n (pc := 174) dX9_mayStand_174 rfl rfl ?_
                        refine R_iload_n (pc := 175) dX9_mayStand_175 rfl rfl ?_
                        refine R_iload (pc := 176) dX9_mayStand_176 rfl ?_
                        refine R_iload (pc := 178) dX9_mayStand_178 rfl ?_
                        refine k_X9_242 (pc := 180) (ge_X9_isOrdered _ _ _ _ hI) rfl (c_140 _) (by decide) (Nat.le_refl _) (Nat.le_refl _) (Nat.le_of_ble_eq_true rfl) dX9_mayStand_180 (fun x w2 h => ?_)
                        rcases h with ⟨rfl, ⟨h95, rfl⟩ | ⟨h95, rfl⟩⟩
                        · skip
                          refine st_8_3_i_i (pc := 183) dX9_mayStand_183 ?_
                          refine inc_8_5_1_i (pc := 184) dX9_mayStand_184 ?_
                          have r96 : inR ((nI j92) + 1) 1 5 := inR_add (show inR (nI j92) 0 4 from hrg92) (show inR 1 1 1 from (inR_self _)) (by decide) (by decide)
                          have e97 := ti_add (l := 1) (h := 5) (show inR (nI j92) 0 4 from hrg92) (show inR 1 1 1 from (inR_self _)) (by decide) (by decide)
                          refine R_goto (pc := 187) 92 dX9_mayStand_187 (by decide) ?_
                          rw [nI_1]
                          exact ih92 (j92 + 1) _ _ _ (by omega) (by omega) (show inR 1 0 1 from ⟨by decide, by decide⟩) (Or.inl ⟨rfl, (hX92_0.resolve_right (fun e => absurd e.1 b100_75)).2.1, o2_l (L := (LM σ c)) (hX92_0.resolve_right (fun e => absurd e.1 b100_75)).2.2 (Int32.not_lt.mpr b157_90) h95⟩) (nI_sle (by omega) b96_74) (Or.inr b106_76)
                        · skip
                          refine st_8_3_i_i (pc := 183) dX9_mayStand_183 ?_
                          refine inc_8_5_1_i (pc := 184) dX9_mayStand_184 ?_
                          have r98 : inR ((nI j92) + 1) 1 5 := inR_add (show inR (nI j92) 0 4 from hrg92) (show inR 1 1 1 from (inR_self _)) (by decide) (by decide)
                          have e99 := ti_add (l := 1) (h := 5) (show inR (nI j92) 0 4 from hrg92) (show inR 1 1 1 from (inR_self _)) (by decide) (by decide)
                          refine R_goto (pc := 187) 92 dX9_mayStand_187 (by decide) ?_
                          rw [nI_1]
                          exact ih92 (j92 + 1) _ _ _ (by omega) (by omega) (show inR 0 0 1 from ⟨by decide, by decide⟩) (Or.inr ⟨rfl, Or.inr (o2_l (L := (LM σ c)) (hX92_0.resolve_right (fun e => absurd e.1 b100_75)).2.2 (Int32.not_lt.mpr b157_90) h95)⟩) (nI_sle (by omega) b96_74) (Or.inr b106_76)
                      · skip
                        refine R_iload (pc := 160) dX9_mayStand_160 rfl ?_
                        refine R_iconst (pc := 162) (v := 1) dX9_mayStand_162 (by decide) ?_
                        refine R_iadd (pc := 163) dX9_mayStand_163 ?_
                        have r100 : inR ((nI j92) + 1) 1 5 := inR_add (show inR (nI j92) 0 4 from hrg92) (show inR 1 1 1 from (inR_self _)) (by decide) (by decide)
                        have e101 := ti_add (l := 1) (h := 5) (show inR (nI j92) 0 4 from hrg92) (show inR 1 1 1 from (inR_self _)) (by decide) (by decide)
                        refine R_goto (pc := 164) 169 dX9_mayStand_164 (by decide) ?_
                        refine R_iadd (pc := 169) dX9_mayStand_169 ?_
                        have r102 : inR ((5 * c) + ((nI j92) + 1)) 1 100 := inR_add (show inR (5 * c) 0 95 from r86) (show inR ((nI j92) + 1) 1 5 from r100) (by decide) (by decide)
                        have e103 := ti_add (l := 1) (h := 100) (show inR (5 * c) 0 95 from r86) (show inR ((nI j92) + 1) 1 5 from r100) (by decide) (by decide)
                        have hx104 : vp_in ((5 * c) + ((nI j92) + 1)) 100 := (vp_ti (by have q0 := e78; have q1 := e80; have q2 := e83; have q3 := e87; have q4 := e89; have q5 := e101; have q6 := e103; have q7 := ti_le b29_72; have q8 := ti_nle b96_74; have q9 := ti_ne b100_75; have q10 := ti_nle b106_76; have q11 := ti_le b126_81; have q12 := ti_nle b157_90; have q13 := ti_in hc; have q14 := ti_in hk; have q15 := ti_in (iva_168 hI _ (lt_of_vp hx3)); have q16 := ti_in hg3_25; have q17 := ti_in hrg25; have q18 := ti_in hg3_92; have q19 := ti_in hrg92; have q20 := ti_in r86; have q21 := ti_in r100; have q22 := ti_in r82; have q23 := ti_in (iva_169 hI _ (lt_of_vp hx84)); have q24 := ti_in r102; have z0 : (0 : Int32).toInt = 0 := (by decide); have z1 : (1 : Int32).toInt = 1 := (by decide); have z2 : (100 : Int32).toInt = 100 := (by decide); have z3 : (168 : Int32).toInt = 168 := (by decide); have z4 : (19 : Int32).toInt = 19 := (by decide); have z5 : (4 : Int32).toInt = 4 := (by decide); have z6 : (5 : Int32).toInt = 5 := (by decide); have z7 : (63 : Int32).toInt = 63 := (by decide); have z8 : (7 : Int32).toInt = 7 := (by decide); have z9 : (95 : Int32).toInt = 95 := (by decide); omega) (by have q0 := e78; have q1 := e80; have q2 := e83; have q3 := e87; have q4 := e89; have q5 := e101; have q6 := e103; have q7 := ti_le b29_72; have q8 := ti_nle b96_74; have q9 := ti_ne b100_75; have q10 := ti_nle b106_76; have q11 := ti_le b126_81; have q12 := ti_nle b157_90; have q13 := ti_in hc; have q14 := ti_in hk; have q15 := ti_in (iva_168 hI _ (lt_of_vp hx3)); have q16 := ti_in hg3_25; have q17 := ti_in hrg25; have q18 := ti_in hg3_92; have q19 := ti_in hrg92; have q20 := ti_in r86; have q21 := ti_in r100; have q22 := ti_in r82; have q23 := ti_in (iva_169 hI _ (lt_of_vp hx84)); have q24 := ti_in r102; have z0 : (0 : Int32).toInt = 0 := (by decide); have z1 : (1 : Int32).toInt = 1 := (by decide); have z2 : (100 : Int32).toInt = 100 := (by decide); have z3 : (168 : Int32).toInt = 168 := (by decide); have z4 : (19 : Int32).toInt = 19 := (by decide); have z5 : (4 : Int32).toInt = 4 := (by decide); have z6 : (5 : Int32).toInt = 5 := (by decide); have z7 : (63 : Int32).toInt = 63 := (by decide); have z8 : (7 : Int32).toInt = 7 := (by decide); have z9 : (95 : Int32).toInt = 95 := (by decide); omega))
                        refine R_iaload (pc := 170) dX9_mayStand_170 (c_169 _) hx104 ?_
                        have hx105 : vp_in (σ.2.2.1 169 (Int32.toNatClampNeg ((5 * c) + ((nI j92) + 1)))) 8 := (vp_of_inR (iva_169 hI _ (lt_of_vp hx104)) (by decide))
                        refine R_iaload (pc := 171) dX9_mayStand_171 (c_167 _) hx105 ?_
                        refine st_8_7_i_i (pc := 172) dX9_mayStand_172 ?_
                        refine R_aload_n (pc := 174) dX9_mayStand_174 rfl rfl ?_
                        refine R_iload_n (pc := 175) dX9_mayStand_175 rfl rfl ?_
                        refine R_iload (pc := 176) dX9_mayStand_176 rfl ?_
                        refine R_iload (pc := 178) dX9_mayStand_178 rfl ?_
                        refine k_X9_242 (pc := 180) (ge_X9_isOrdered _ _ _ _ hI) rfl (c_140 _) (by decide) (Nat.le_refl _) (Nat.le_refl _) (Nat.le_of_ble_eq_true rfl) dX9_mayStand_180 (fun x w2 h => ?_)
                        rcases h with ⟨rfl, ⟨h106, rfl⟩ | ⟨h106, rfl⟩⟩
                        · skip
                          refine st_8_3_i_i (pc := 183) dX9_mayStand_183 ?_
                          refine inc_8_5_1_i (pc := 184) dX9_mayStand_184 ?_
                          have r107 : inR ((nI j92) + 1) 1 5 := inR_add (show inR (nI j92) 0 4 from hrg92) (show inR 1 1 1 from (inR_self _)) (by decide) (by decide)
                          have e108 := ti_add (l := 1) (h := 5) (show inR (nI j92) 0 4 from hrg92) (show inR 1 1 1 from (inR_self _)) (by decide) (by decide)
                          refine R_goto (pc := 187) 92 dX9_mayStand_187 (by decide) ?_
                          rw [nI_1]
                          exact ih92 (j92 + 1) _ _ _ (by omega) (by omega) (show inR 1 0 1 from ⟨by decide, by decide⟩) (absurd b126_81 b157_90) (nI_sle (by omega) b96_74) (Or.inr b106_76)
                        · skip
                          refine st_8_3_i_i (pc := 183) dX9_mayStand_183 ?_
                          refine inc_8_5_1_i (pc := 184) dX9_mayStand_184 ?_
                          have r109 : inR ((nI j92) + 1) 1 5 := inR_add (show inR (nI j92) 0 4 from hrg92) (show inR 1 1 1 from (inR_self _)) (by decide) (by decide)
                          have e110 := ti_add (l := 1) (h := 5) (show inR (nI j92) 0 4 from hrg92) (show inR 1 1 1 from (inR_self _)) (by decide) (by decide)
                          refine R_goto (pc := 187) 92 dX9_mayStand_187 (by decide) ?_
                          rw [nI_1]
                          exact ih92 (j92 + 1) _ _ _ (by omega) (by omega) (show inR 0 0 1 from ⟨by decide, by decide⟩) (absurd b126_81 b157_90) (nI_sle (by omega) b96_74) (Or.inr b106_76)
                    · skip
                      refine R_iload (pc := 129) dX9_mayStand_129 rfl ?_
                      refine R_goto (pc := 131) 135 dX9_mayStand_131 (by decide) ?_
                      refine R_iadd (pc := 135) dX9_mayStand_135 ?_
                      have r111 : inR ((5 * c) + (nI j92)) 0 99 := inR_add (show inR (5 * c) 0 95 from r77) (show inR (nI j92) 0 4 from hrg92) (by decide) (by decide)
                      have e112 := ti_add (l := 0) (h := 99) (show inR (5 * c) 0 95 from r77) (show inR (nI j92) 0 4 from hrg92) (by decide) (by decide)
                      have hx113 : vp_in ((5 * c) + (nI j92)) 100 := (vp_of_inR r111 (by decide))
                      refine R_iaload (pc := 136) dX9_mayStand_136 (c_169 _) hx113 ?_
                      have hx114 : vp_in (σ.2.2.1 169 (Int32.toNatClampNeg ((5 * c) + (nI j92)))) 8 := (vp_of_inR (iva_169 hI _ (lt_of_vp hx113)) (by decide))
                      refine R_iaload (pc := 137) dX9_mayStand_137 (c_167 _) hx114 ?_
                      refine st_8_6_i_i (pc := 138) dX9_mayStand_138 ?_
                      refine R_aload_n (pc := 140) dX9_mayStand_140 rfl rfl ?_
                      refine g_X9_99 (pc := 141) (v := .ref 167) rfl dX9_mayStand_141 (c_140 _) rfl ?_
                      refine R_aload_n (pc := 144) dX9_mayStand_144 rfl rfl ?_
                      refine g_X9_105 (pc := 145) (v := .ref 169) rfl dX9_mayStand_145 (c_140 _) rfl ?_
                      refine R_iconst (pc := 148) (v := 5) dX9_mayStand_148 (by decide) ?_
                      refine R_iload_n (pc := 149) dX9_mayStand_149 rfl rfl ?_
                      refine R_imul (pc := 150) dX9_mayStand_150 ?_
                      have r115 : inR (5 * c) 0 95 := inR_mulc (c := 5) (l := 0) (h := 95) 5 (by decide) (show inR c 0 19 from hc) (by decide) (by decide)
                      have e116 := ti_mulc (c := 5) (l := 0) (h := 95) 5 (by decide) (show inR c 0 19 from hc) (by decide) (by decide)
                      refine R_iload (pc := 151) dX9_mayStand_151 rfl ?_
                      refine R_iconst (pc := 153) (v := 1) dX9_mayStand_153 (by decide) ?_
                      refine R_iadd (pc := 154) dX9_mayStand_154 ?_
                      have r117 : inR ((nI j92) + 1) 1 5 := inR_add (show inR (nI j92) 0 4 from hrg92) (show inR 1 1 1 from (inR_self _)) (by decide) (by decide)
                      have e118 := ti_add (l := 1) (h := 5) (show inR (nI j92) 0 4 from hrg92) (show inR 1 1 1 from (inR_self _)) (by decide) (by decide)
                      refine R_iload (pc := 155) dX9_mayStand_155 rfl ?_
                      refine R_icge (pc := 157) 167 dX9_mayStand_157 (by decide) (fun b157_119 => ?_) (fun b157_119 => ?_)
                      · skip
                        refine R_iload (pc := 167) dX9_mayStand_167 rfl ?_
                        refine R_iadd (pc := 169) dX9_mayStand_169 ?_
                        have r120 : inR ((5 * c) + (nI j92)) 0 99 := inR_add (show inR (5 * c) 0 95 from r115) (show inR (nI j92) 0 4 from hrg92) (by decide) (by decide)
                        have e121 := ti_add (l := 0) (h := 99) (show inR (5 * c) 0 95 from r115) (show inR (nI j92) 0 4 from hrg92) (by decide) (by decide)
                        have hx122 : vp_in ((5 * c) + (nI j92)) 100 := (vp_of_inR r120 (by decide))
                        refine R_iaload (pc := 170) dX9_mayStand_170 (c_169 _) hx122 ?_
                        have hx123 : vp_in (σ.2.2.1 169 (Int32.toNatClampNeg ((5 * c) + (nI j92)))) 8 := (vp_of_inR (iva_169 hI _ (lt_of_vp hx113)) (by decide))
                        refine R_iaload (pc := 171) dX9_mayStand_171 (c_167 _) hx123 ?_
                        refine st_8_7_i_i (pc := 172) dX9_mayStand_172 ?_
                        refine R_aload_n (pc := 174) dX9_mayStand_174 rfl rfl ?_
                        refine R_iload_n (pc := 175) dX9_mayStand_175 rfl rfl ?_
                        refine R_iload (pc := 176) dX9_mayStand_176 rfl ?_
                        refine R_iload (pc := 178) dX9_mayStand_178 rfl ?_
                        refine k_X9_242 (pc := 180) (ge_X9_isOrdered _ _ _ _ hI) rfl (c_140 _) (by decide) (Nat.le_refl _) (Nat.le_refl _) (Nat.le_of_ble_eq_true rfl) dX9_mayStand_180 (fun x w2 h => ?_)
                        rcases h with ⟨rfl, ⟨h124, rfl⟩ | ⟨h124, rfl⟩⟩
                        · skip
                          refine st_8_3_i_i (pc := 183) dX9_mayStand_183 ?_
                          refine inc_8_5_1_i (pc := 184) dX9_mayStand_184 ?_
                          have r125 : inR ((nI j92) + 1) 1 5 := inR_add (show inR (nI j92) 0 4 from hrg92) (show inR 1 1 1 from (inR_self _)) (by decide) (by decide)
                          have e126 := ti_add (l := 1) (h := 5) (show inR (nI j92) 0 4 from hrg92) (show inR 1 1 1 from (inR_self _)) (by decide) (by decide)
                          refine R_goto (pc := 187) 92 dX9_mayStand_187 (by decide) ?_
                          rw [nI_1]
                          exact ih92 (j92 + 1) _ _ _ (by omega) (by omega) (show inR 1 0 1 from ⟨by decide, by decide⟩) (absurd b157_119 b126_81) (nI_sle (by omega) b96_74) (Or.inr b106_76)
                        · skip
                          refine st_8_3_i_i (pc := 183) dX9_mayStand_183 ?_
                          refine inc_8_5_1_i (pc := 184) dX9_mayStand_184 ?_
                          have r127 : inR ((nI j92) + 1) 1 5 := inR_add (show inR (nI j92) 0 4 from hrg92) (show inR 1 1 1 from (inR_self _)) (by decide) (by decide)
                          have e128 := ti_add (l := 1) (h := 5) (show inR (nI j92) 0 4 from hrg92) (show inR 1 1 1 from (inR_self _)) (by decide) (by decide)
                          refine R_goto (pc := 187) 92 dX9_mayStand_187 (by decide) ?_
                          rw [nI_1]
                          exact ih92 (j92 + 1) _ _ _ (by omega) (by omega) (show inR 0 0 1 from ⟨by decide, by decide⟩) (absurd b157_119 b126_81) (nI_sle (by omega) b96_74) (Or.inr b106_76)
                      · skip
                        refine R_iload (pc := 160) dX9_mayStand_160 rfl ?_
                        refine R_iconst (pc := 162) (v := 1) dX9_mayStand_162 (by decide) ?_
                        refine R_iadd (pc := 163) dX9_mayStand_163 ?_
                        have r129 : inR ((nI j92) + 1) 1 5 := inR_add (show inR (nI j92) 0 4 from hrg92) (show inR 1 1 1 from (inR_self _)) (by decide) (by decide)
                        have e130 := ti_add (l := 1) (h := 5) (show inR (nI j92) 0 4 from hrg92) (show inR 1 1 1 from (inR_self _)) (by decide) (by decide)
                        refine R_goto (pc := 164) 169 dX9_mayStand_164 (by decide) ?_
                        refine R_iadd (pc := 169) dX9_mayStand_169 ?_
                        have r131 : inR ((5 * c) + ((nI j92) + 1)) 1 100 := inR_add (show inR (5 * c) 0 95 from r115) (show inR ((nI j92) + 1) 1 5 from r129) (by decide) (by decide)
                        have e132 := ti_add (l := 1) (h := 100) (show inR (5 * c) 0 95 from r115) (show inR ((nI j92) + 1) 1 5 from r129) (by decide) (by decide)
                        have hx133 : vp_in ((5 * c) + ((nI j92) + 1)) 100 := (vp_ti (by have q0 := e78; have q1 := e80; have q2 := e112; have q3 := e116; have q4 := e118; have q5 := e130; have q6 := e132; have q7 := ti_le b29_72; have q8 := ti_nle b96_74; have q9 := ti_ne b100_75; have q10 := ti_nle b106_76; have q11 := ti_nle b126_81; have q12 := ti_nle b157_119; have q13 := ti_in hc; have q14 := ti_in hk; have q15 := ti_in (iva_168 hI _ (lt_of_vp hx3)); have q16 := ti_in hg3_25; have q17 := ti_in hrg25; have q18 := ti_in hg3_92; have q19 := ti_in hrg92; have q20 := ti_in r115; have q21 := ti_in r129; have q22 := ti_in r111; have q23 := ti_in (iva_169 hI _ (lt_of_vp hx113)); have q24 := ti_in r131; have z0 : (0 : Int32).toInt = 0 := (by decide); have z1 : (1 : Int32).toInt = 1 := (by decide); have z2 : (100 : Int32).toInt = 100 := (by decide); have z3 : (168 : Int32).toInt = 168 := (by decide); have z4 : (19 : Int32).toInt = 19 := (by decide); have z5 : (4 : Int32).toInt = 4 := (by decide); have z6 : (5 : Int32).toInt = 5 := (by decide); have z7 : (63 : Int32).toInt = 63 := (by decide); have z8 : (7 : Int32).toInt = 7 := (by decide); have z9 : (95 : Int32).toInt = 95 := (by decide); have z10 : (99 : Int32).toInt = 99 := (by decide); omega) (by have q0 := e78; have q1 := e80; have q2 := e112; have q3 := e116; have q4 := e118; have q5 := e130; have q6 := e132; have q7 := ti_le b29_72; have q8 := ti_nle b96_74; have q9 := ti_ne b100_75; have q10 := ti_nle b106_76; have q11 := ti_nle b126_81; have q12 := ti_nle b157_119; have q13 := ti_in hc; have q14 := ti_in hk; have q15 := ti_in (iva_168 hI _ (lt_of_vp hx3)); have q16 := ti_in hg3_25; have q17 := ti_in hrg25; have q18 := ti_in hg3_92; have q19 := ti_in hrg92; have q20 := ti_in r115; have q21 := ti_in r129; have q22 := ti_in r111; have q23 := ti_in (iva_169 hI _ (lt_of_vp hx113)); have q24 := ti_in r131; have z0 : (0 : Int32).toInt = 0 := (by decide); have z1 : (1 : Int32).toInt = 1 := (by decide); have z2 : (100 : Int32).toInt = 100 := (by decide); have z3 : (168 : Int32).toInt = 168 := (by decide); have z4 : (19 : Int32).toInt = 19 := (by decide); have z5 : (4 : Int32).toInt = 4 := (by decide); have z6 : (5 : Int32).toInt = 5 := (by decide); have z7 : (63 : Int32).toInt = 63 := (by decide); have z8 : (7 : Int32).toInt = 7 := (by decide); have z9 : (95 : Int32).toInt = 95 := (by decide); have z10 : (99 : Int32).toInt = 99 := (by decide); omega))
                        refine R_iaload (pc := 170) dX9_mayStand_170 (c_169 _) hx133 ?_
                        have hx134 : vp_in (σ.2.2.1 169 (Int32.toNatClampNeg ((5 * c) + ((nI j92) + 1)))) 8 := (vp_of_inR (iva_169 hI _ (lt_of_vp hx133)) (by decide))
                        refine R_iaload (pc := 171) dX9_mayStand_171 (c_167 _) hx134 ?_
                        refine st_8_7_i_i (pc := 172) dX9_mayStand_172 ?_
                        refine R_aload_n (pc := 174) dX9_mayStand_174 rfl rfl ?_
                        refine R_iload_n (pc := 175) dX9_mayStand_175 rfl rfl ?_
                        refine R_iload (pc := 176) dX9_mayStand_176 rfl ?_
                        refine R_iload (pc := 178) dX9_mayStand_178 rfl ?_
                        refine k_X9_242 (pc := 180) (ge_X9_isOrdered _ _ _ _ hI) rfl (c_140 _) (by decide) (Nat.le_refl _) (Nat.le_refl _) (Nat.le_of_ble_eq_true rfl) dX9_mayStand_180 (fun x w2 h => ?_)
                        rcases h with ⟨rfl, ⟨h135, rfl⟩ | ⟨h135, rfl⟩⟩
                        · skip
                          refine st_8_3_i_i (pc := 183) dX9_mayStand_183 ?_
                          refine inc_8_5_1_i (pc := 184) dX9_mayStand_184 ?_
                          have r136 : inR ((nI j92) + 1) 1 5 := inR_add (show inR (nI j92) 0 4 from hrg92) (show inR 1 1 1 from (inR_self _)) (by decide) (by decide)
                          have e137 := ti_add (l := 1) (h := 5) (show inR (nI j92) 0 4 from hrg92) (show inR 1 1 1 from (inR_self _)) (by decide) (by decide)
                          refine R_goto (pc := 187) 92 dX9_mayStand_187 (by decide) ?_
                          rw [nI_1]
                          exact ih92 (j92 + 1) _ _ _ (by omega) (by omega) (show inR 1 0 1 from ⟨by decide, by decide⟩) (Or.inl ⟨rfl, (hX92_0.resolve_right (fun e => absurd e.1 b100_75)).2.1, o2_c (L := (LM σ c)) (hX92_0.resolve_right (fun e => absurd e.1 b100_75)).2.2 (Int32.not_le.mp b157_119) h135⟩) (nI_sle (by omega) b96_74) (Or.inr b106_76)
                        · skip
                          refine st_8_3_i_i (pc := 183) dX9_mayStand_183 ?_
                          refine inc_8_5_1_i (pc := 184) dX9_mayStand_184 ?_
                          have r138 : inR ((nI j92) + 1) 1 5 := inR_add (show inR (nI j92) 0 4 from hrg92) (show inR 1 1 1 from (inR_self _)) (by decide) (by decide)
                          have e139 := ti_add (l := 1) (h := 5) (show inR (nI j92) 0 4 from hrg92) (show inR 1 1 1 from (inR_self _)) (by decide) (by decide)
                          refine R_goto (pc := 187) 92 dX9_mayStand_187 (by decide) ?_
                          rw [nI_1]
                          exact ih92 (j92 + 1) _ _ _ (by omega) (by omega) (show inR 0 0 1 from ⟨by decide, by decide⟩) (Or.inr ⟨rfl, Or.inr (o2_c (L := (LM σ c)) (hX92_0.resolve_right (fun e => absurd e.1 b100_75)).2.2 (Int32.not_le.mp b157_119) h135)⟩) (nI_sle (by omega) b96_74) (Or.inr b106_76)
          exact HL92 5 0 _ _ _ (by omega) (by omega) hg3_25 (hM.imp (fun q => ⟨q.1, q.2, rfl⟩) (fun q => ⟨q.1, Or.inl q.2⟩)) (show (0 : Int32) ≤ (σ.2.2.1 168 (Int32.toNatClampNeg c)) from Int32.not_lt.mp (iva_168 hI _ (clamp19 hc)).1) (Or.inl rfl)
        · skip
          refine R_iload_n (pc := 32) dX9_mayStand_32 rfl rfl ?_
          refine R_ifeq (pc := 33) 89 dX9_mayStand_33 (by decide) (fun b33_140 => ?_) (fun b33_140 => ?_)
          · skip
            refine R_iconst (pc := 89) (v := 0) dX9_mayStand_89 (by decide) ?_
            refine st_8_5_i_i (pc := 90) dX9_mayStand_90 ?_
            have hM : g3_25 = 1 ∧ l1B (σ.2.1 14034) k (LM σ c) (Int32.toNatClampNeg (σ.2.2.1 168 (Int32.toNatClampNeg c))) = true ∨ g3_25 = 0 ∧ l1B (σ.2.1 14034) k (LM σ c) (Int32.toNatClampNeg (σ.2.2.1 168 (Int32.toNatClampNeg c))) = false := Or.inr ⟨b33_140, l1_mono (hX25_0.resolve_left (fun e => absurd (e.1.symm.trans b33_140) (by decide))).2 _ (Nat.le_of_succ_le (nI_slt (by omega) b29_72))⟩
            have HL92 : ∀ (q j92 : Nat) (g3_92 : Int32) (g6_92 : Option Value) (g7_92 : Option Value), j92 + q = 5 → 0 ≤ j92 → inR g3_92 0 1 → (g3_92 = 1 ∧ l1B (σ.2.1 14034) k (LM σ c) (Int32.toNatClampNeg (σ.2.2.1 168 (Int32.toNatClampNeg c))) = true ∧ o2B k (LM σ c) (σ.2.2.1 168 (Int32.toNatClampNeg c)) j92 = true ∨ g3_92 = 0 ∧ (l1B (σ.2.1 14034) k (LM σ c) (Int32.toNatClampNeg (σ.2.2.1 168 (Int32.toNatClampNeg c))) = false ∨ o2B k (LM σ c) (σ.2.2.1 168 (Int32.toNatClampNeg c)) j92 = false)) → nI j92 ≤ (σ.2.2.1 168 (Int32.toNatClampNeg c)) → (j92 = 0 ∨ ¬ (σ.2.2.1 168 (Int32.toNatClampNeg c)) ≤ 1) → R G l yX9_mayStand cX9_mayStand 8 (some .boolean) 2 0 0 (QI (fun x w2 => w2 = WW σ ∧ (msB (σ.2.1 14034) k (LM σ c) (σ.2.2.1 168 (Int32.toNatClampNeg c)) = true ∧ x = 1 ∨ msB (σ.2.1 14034) k (LM σ c) (σ.2.2.1 168 (Int32.toNatClampNeg c)) = false ∧ x = 0))) 92 [(some (.ref 140)), (some (.int c)), (some (.int k)), (some (.int g3_92)), (some (.int (σ.2.2.1 168 (Int32.toNatClampNeg c)))), (some (.int (nI j92))), g6_92, g7_92] [] (WW σ) 0 0 := by
              intro q
              induction q with
              | zero =>
                intro j92 g3_92 g6_92 g7_92 hj hs92 hg3_92 hX92_0 hX92_1 hX92_2
                obtain rfl : j92 = 5 := by omega
                refine R_iload (pc := 92) dX9_mayStand_92 rfl ?_
                refine R_iload (pc := 94) dX9_mayStand_94 rfl ?_
                refine R_icge (pc := 96) 190 dX9_mayStand_96 (by decide) (fun _ => ?_) (fun h => absurd (Int32.not_lt.mp (inR_up (iva_168 hI _ (lt_of_vp hx3)) (Int32.le_refl _) (by decide)).2) h)
                refine R_iload_n (pc := 190) dX9_mayStand_190 rfl rfl ?_
                exact R_iret (pc := 191) dX9_mayStand_191 rfl (nar01 hg3_92) (Nat.zero_le _) (Nat.zero_le _) ⟨_, rfl, rfl, hX92_0.elim (fun q => Or.inl ⟨ms_t2 q.2.1 (by rw [(show (Int32.toNatClampNeg (σ.2.2.1 168 (Int32.toNatClampNeg c))) = 5 from jn_of (by omega) (by first | exact nI_eqe hX92_1 (by assumption) | exact nI_eq5 hX92_1 (iva_168 hI _ (clamp19 hc))))]; exact q.2.2), q.1⟩) (fun q => Or.inr ⟨ms_f q.2 hX92_2 (by rw [(show (Int32.toNatClampNeg (σ.2.2.1 168 (Int32.toNatClampNeg c))) = 5 from jn_of (by omega) (by first | exact nI_eqe hX92_1 (by assumption) | exact nI_eq5 hX92_1 (iva_168 hI _ (clamp19 hc))))]; exact Nat.le_refl _), q.1⟩)⟩
              | succ q ih92 =>
                intro j92 g3_92 g6_92 g7_92 hj hs92 hg3_92 hX92_0 hX92_1 hX92_2
                have hrg92 : inR (nI j92) 0 4 := inR_ix hs92 (show j92 < 5 by omega) (by decide) (by decide) (by decide)
                have hlt92 : j92 < 5 := by omega
                refine R_iload (pc := 92) dX9_mayStand_92 rfl ?_
                refine R_iload (pc := 94) dX9_mayStand_94 rfl ?_
                refine R_icge (pc := 96) 190 dX9_mayStand_96 (by decide) (fun b96_142 => ?_) (fun b96_142 => ?_)
                · skip
                  refine R_iload_n (pc := 190) dX9_mayStand_190 rfl rfl ?_
                  exact R_iret (pc := 191) dX9_mayStand_191 rfl (nar01 hg3_92) (Nat.zero_le _) (Nat.zero_le _) ⟨_, rfl, rfl, hX92_0.elim (fun q => Or.inl ⟨ms_t2 q.2.1 (by rw [(show (Int32.toNatClampNeg (σ.2.2.1 168 (Int32.toNatClampNeg c))) = j92 from jn_of (by omega) (by first | exact nI_eqe hX92_1 (by assumption) | exact nI_eq5 hX92_1 (iva_168 hI _ (clamp19 hc))))]; exact q.2.2), q.1⟩) (fun q => Or.inr ⟨ms_f q.2 hX92_2 (by rw [(show (Int32.toNatClampNeg (σ.2.2.1 168 (Int32.toNatClampNeg c))) = j92 from jn_of (by omega) (by first | exact nI_eqe hX92_1 (by assumption) | exact nI_eq5 hX92_1 (iva_168 hI _ (clamp19 hc))))]; exact Nat.le_refl _), q.1⟩)⟩
                · skip
                  refine R_iload_n (pc := 99) dX9_mayStand_99 rfl rfl ?_
                  refine R_ifeq (pc := 100) 190 dX9_mayStand_100 (by decide) (fun b100_143 => ?_) (fun b100_143 => ?_)
                  · skip
                    refine R_iload_n (pc := 190) dX9_mayStand_190 rfl rfl ?_
                    exact R_iret (pc := 191) dX9_mayStand_191 rfl (nar01 hg3_92) (Nat.zero_le _) (Nat.zero_le _) ⟨_, rfl, rfl, Or.inr ⟨(by have q := (hX92_0.resolve_left (fun e => absurd (e.1.symm.trans b100_143) (by decide))).2; exact ms_f q hX92_2 (Nat.le_of_succ_le (nI_slt (by omega) b96_142))), b100_143⟩⟩
                  · skip
                    refine R_iload (pc := 103) dX9_mayStand_103 rfl ?_
                    refine R_iconst (pc := 105) (v := 1) dX9_mayStand_105 (by decide) ?_
                    refine R_icle (pc := 106) 190 dX9_mayStand_106 (by decide) (fun b106_144 => ?_) (fun b106_144 => ?_)
                    · skip
                      refine R_iload_n (pc := 190) dX9_mayStand_190 rfl rfl ?_
                      exact R_iret (pc := 191) dX9_mayStand_191 rfl (nar01 hg3_92) (Nat.zero_le _) (Nat.zero_le _) ⟨_, rfl, rfl, hX92_0.elim (fun q => Or.inl ⟨ms_t1 q.2.1 b106_144, q.1⟩) (fun q => Or.inr ⟨ms_f1 q.2 hX92_2 b106_144, q.1⟩)⟩
                    · skip
                      refine R_aload_n (pc := 109) dX9_mayStand_109 rfl rfl ?_
                      refine g_X9_99 (pc := 110) (v := .ref 167) rfl dX9_mayStand_110 (c_140 _) rfl ?_
                      refine R_aload_n (pc := 113) dX9_mayStand_113 rfl rfl ?_
                      refine g_X9_105 (pc := 114) (v := .ref 169) rfl dX9_mayStand_114 (c_140 _) rfl ?_
                      refine R_iconst (pc := 117) (v := 5) dX9_mayStand_117 (by decide) ?_
                      refine R_iload_n (pc := 118) dX9_mayStand_118 rfl rfl ?_
                      refine R_imul (pc := 119) dX9_mayStand_119 ?_
                      have r145 : inR (5 * c) 0 95 := inR_mulc (c := 5) (l := 0) (h := 95) 5 (by decide) (show inR c 0 19 from hc) (by decide) (by decide)
                      have e146 := ti_mulc (c := 5) (l := 0) (h := 95) 5 (by decide) (show inR c 0 19 from hc) (by decide) (by decide)
                      refine R_iload (pc := 120) dX9_mayStand_120 rfl ?_
                      refine R_iconst (pc := 122) (v := 1) dX9_mayStand_122 (by decide) ?_
                      refine R_iadd (pc := 123) dX9_mayStand_123 ?_
                      have r147 : inR ((nI j92) + 1) 1 5 := inR_add (show inR (nI j92) 0 4 from hrg92) (show inR 1 1 1 from (inR_self _)) (by decide) (by decide)
                      have e148 := ti_add (l := 1) (h := 5) (show inR (nI j92) 0 4 from hrg92) (show inR 1 1 1 from (inR_self _)) (by decide) (by decide)
                      refine R_iload (pc := 124) dX9_mayStand_124 rfl ?_
                      refine R_icge (pc := 126) 134 dX9_mayStand_126 (by decide) (fun b126_149 => ?_) (fun b126_149 => ?_)
                      · skip
                        refine R_iconst (pc := 134) (v := 0) dX9_mayStand_134 (by decide) ?_
                        refine R_iadd (pc := 135) dX9_mayStand_135 ?_
                        have r150 : inR ((5 * c) + 0) 0 95 := inR_add (show inR (5 * c) 0 95 from r145) (show inR 0 0 0 from (inR_self _)) (by decide) (by decide)
                        have e151 := ti_add (l := 0) (h := 95) (show inR (5 * c) 0 95 from r145) (show inR 0 0 0 from (inR_self _)) (by decide) (by decide)
                        have hx152 : vp_in ((5 * c) + 0) 100 := (vp_of_inR r150 (by decide))
                        refine R_iaload (pc := 136) dX9_mayStand_136 (c_169 _) hx152 ?_
                        have hx153 : vp_in (σ.2.2.1 169 (Int32.toNatClampNeg ((5 * c) + 0))) 8 := (vp_of_inR (iva_169 hI _ (lt_of_vp hx152)) (by decide))
                        refine R_iaload (pc := 137) dX9_mayStand_137 (c_167 _) hx153 ?_
                        refine st_8_6_i_i (pc := 138) dX9_mayStand_138 ?_
                        refine R_aload_n (pc := 140) dX9_mayStand_140 rfl rfl ?_
                        refine g_X9_99 (pc := 141) (v := .ref 167) rfl dX9_mayStand_141 (c_140 _) rfl ?_
                        refine R_aload_n (pc := 144) dX9_mayStand_144 rfl rfl ?_
                        refine g_X9_105 (pc := 145) (v := .ref 169) rfl dX9_mayStand_145 (c_140 _) rfl ?_
                        refine R_iconst (pc := 148) (v := 5) dX9_mayStand_148 (by decide) ?_
                        refine R_iload_n (pc := 149) dX9_mayStand_149 rfl rfl ?_
                        refine R_imul (pc := 150) dX9_mayStand_150 ?_
                        have r154 : inR (5 * c) 0 95 := inR_mulc (c := 5) (l := 0) (h := 95) 5 (by decide) (show inR c 0 19 from hc) (by decide) (by decide)
                        have e155 := ti_mulc (c := 5) (l := 0) (h := 95) 5 (by decide) (show inR c 0 19 from hc) (by decide) (by decide)
                        refine R_iload (pc := 151) dX9_mayStand_151 rfl ?_
                        refine R_iconst (pc := 153) (v := 1) dX9_mayStand_153 (by decide) ?_
                        refine R_iadd (pc := 154) dX9_mayStand_154 ?_
                        have r156 : inR ((nI j92) + 1) 1 5 := inR_add (show inR (nI j92) 0 4 from hrg92) (show inR 1 1 1 from (inR_self _)) (by decide) (by decide)
                        have e157 := ti_add (l := 1) (h := 5) (show inR (nI j92) 0 4 from hrg92) (show inR 1 1 1 from (inR_self _)) (by decide) (by decide)
                        refine R_iload (pc := 155) dX9_mayStand_155 rfl ?_
                        refine R_icge (pc := 157) 167 dX9_mayStand_157 (by decide) (fun b157_158 => ?_) (fun b157_158 => ?_)
                        · skip
                          refine R_iload (pc := 167) dX9_mayStand_167 rfl ?_
                          refine R_iadd (pc := 169) dX9_mayStand_169 ?_
                          have r159 : inR ((5 * c) + (nI j92)) 0 99 := inR_add (show inR (5 * c) 0 95 from r154) (show inR (nI j92) 0 4 from hrg92) (by decide) (by decide)
                          have e160 := ti_add (l := 0) (h := 99) (show inR (5 * c) 0 95 from r154) (show inR (nI j92) 0 4 from hrg92) (by decide) (by decide)
                          have hx161 : vp_in ((5 * c) + (nI j92)) 100 := (vp_of_inR r159 (by decide))
                          refine R_iaload (pc := 170) dX9_mayStand_170 (c_169 _) hx161 ?_
                          have hx162 : vp_in (σ.2.2.1 169 (Int32.toNatClampNeg ((5 * c) + (nI j92)))) 8 := (vp_of_inR (iva_169 hI _ (lt_of_vp hx161)) (by decide))
                          refine R_iaload (pc := 171) dX9_mayStand_171 (c_167 _) hx162 ?_
                          refine st_8_7_i_i (pc := 172) dX9_mayStand_172 ?_
                          refine R_aload_n (pc := 174) dX9_mayStand_174 rfl rfl ?_
                          refine R_iload_n (pc := 175) dX9_mayStand_175 rfl rfl ?_
                          refine R_iload (pc := 176) dX9_mayStand_176 rfl ?_
                          refine R_iload (pc := 178) dX9_mayStand_178 rfl ?_
                          refine k_X9_242 (pc := 180) (ge_X9_isOrdered _ _ _ _ hI) rfl (c_140 _) (by decide) (Nat.le_refl _) (Nat.le_refl _) (Nat.le_of_ble_eq_true rfl) dX9_mayStand_180 (fun x w2 h => ?_)
                          rcases h with ⟨rfl, ⟨h163, rfl⟩ | ⟨h163, rfl⟩⟩
                          · skip
                            refine st_8_3_i_i (pc := 183) dX9_mayStand_183 ?_
                            refine inc_8_5_1_i (pc := 184) dX9_mayStand_184 ?_
                            have r164 : inR ((nI j92) + 1) 1 5 := inR_add (show inR (nI j92) 0 4 from hrg92) (show inR 1 1 1 from (inR_self _)) (by decide) (by decide)
                            have e165 := ti_add (l := 1) (h := 5) (show inR (nI j92) 0 4 from hrg92) (show inR 1 1 1 from (inR_self _)) (by decide) (by decide)
                            refine R_goto (pc := 187) 92 dX9_mayStand_187 (by decide) ?_
                            rw [nI_1]
                            exact ih92 (j92 + 1) _ _ _ (by omega) (by omega) (show inR 1 0 1 from ⟨by decide, by decide⟩) (Or.inl ⟨rfl, (hX92_0.resolve_right (fun e => absurd e.1 b100_143)).2.1, o2_l (L := (LM σ c)) (hX92_0.resolve_right (fun e => absurd e.1 b100_143)).2.2 (Int32.not_lt.mpr b157_158) h163⟩) (nI_sle (by omega) b96_142) (Or.inr b106_144)
                          · skip
                            refine st_8_3_i_i (pc := 183) dX9_mayStand_183 ?_
                            refine inc_8_5_1_i (pc := 184) dX9_mayStand_184 ?_
                            have r166 : inR ((nI j92) + 1) 1 5 := inR_add (show inR (nI j92) 0 4 from hrg92) (show inR 1 1 1 from (inR_self _)) (by decide) (by decide)
                            have e167 := ti_add (l := 1) (h := 5) (show inR (nI j92) 0 4 from hrg92) (show inR 1 1 1 from (inR_self _)) (by decide) (by decide)
                            refine R_goto (pc := 187) 92 dX9_mayStand_187 (by decide) ?_
                            rw [nI_1]
                            exact ih92 (j92 + 1) _ _ _ (by omega) (by omega) (show inR 0 0 1 from ⟨by decide, by decide⟩) (Or.inr ⟨rfl, Or.inr (o2_l (L := (LM σ c)) (hX92_0.resolve_right (fun e => absurd e.1 b100_143)).2.2 (Int32.not_lt.mpr b157_158) h163)⟩) (nI_sle (by omega) b96_142) (Or.inr b106_144)
                        · skip
                          refine R_iload (pc := 160) dX9_mayStand_160 rfl ?_
                          refine R_iconst (pc := 162) (v := 1) dX9_mayStand_162 (by decide) ?_
                          refine R_iadd (pc := 163) dX9_mayStand_163 ?_
                          have r168 : inR ((nI j92) + 1) 1 5 := inR_add (show inR (nI j92) 0 4 from hrg92) (show inR 1 1 1 from (inR_self _)) (by decide) (by decide)
                          have e169 := ti_add (l := 1) (h := 5) (show inR (nI j92) 0 4 from hrg92) (show inR 1 1 1 from (inR_self _)) (by decide) (by decide)
                          refine R_goto (pc := 164) 169 dX9_mayStand_164 (by decide) ?_
                          refine R_iadd (pc := 169) dX9_mayStand_169 ?_
                          have r170 : inR ((5 * c) + ((nI j92) + 1)) 1 100 := inR_add (show inR (5 * c) 0 95 from r154) (show inR ((nI j92) + 1) 1 5 from r168) (by decide) (by decide)
                          have e171 := ti_add (l := 1) (h := 100) (show inR (5 * c) 0 95 from r154) (show inR ((nI j92) + 1) 1 5 from r168) (by decide) (by decide)
                          have hx172 : vp_in ((5 * c) + ((nI j92) + 1)) 100 := (vp_ti (by have q0 := e146; have q1 := e148; have q2 := e151; have q3 := e155; have q4 := e157; have q5 := e169; have q6 := e171; have q7 := ti_nle b29_72; have q8 := ti_eq b33_140; have q9 := ti_nle b96_142; have q10 := ti_ne b100_143; have q11 := ti_nle b106_144; have q12 := ti_le b126_149; have q13 := ti_nle b157_158; have q14 := ti_in hc; have q15 := ti_in hk; have q16 := ti_in (iva_168 hI _ (lt_of_vp hx3)); have q17 := ti_in hg3_25; have q18 := ti_in hrg25; have q19 := ti_in hg3_92; have q20 := ti_in hrg92; have q21 := ti_in r154; have q22 := ti_in r168; have q23 := ti_in r150; have q24 := ti_in (iva_169 hI _ (lt_of_vp hx152)); have q25 := ti_in r170; have z0 : (0 : Int32).toInt = 0 := (by decide); have z1 : (1 : Int32).toInt = 1 := (by decide); have z2 : (100 : Int32).toInt = 100 := (by decide); have z3 : (168 : Int32).toInt = 168 := (by decide); have z4 : (19 : Int32).toInt = 19 := (by decide); have z5 : (4 : Int32).toInt = 4 := (by decide); have z6 : (5 : Int32).toInt = 5 := (by decide); have z7 : (63 : Int32).toInt = 63 := (by decide); have z8 : (7 : Int32).toInt = 7 := (by decide); have z9 : (95 : Int32).toInt = 95 := (by decide); omega) (by have q0 := e146; have q1 := e148; have q2 := e151; have q3 := e155; have q4 := e157; have q5 := e169; have q6 := e171; have q7 := ti_nle b29_72; have q8 := ti_eq b33_140; have q9 := ti_nle b96_142; have q10 := ti_ne b100_143; have q11 := ti_nle b106_144; have q12 := ti_le b126_149; have q13 := ti_nle b157_158; have q14 := ti_in hc; have q15 := ti_in hk; have q16 := ti_in (iva_168 hI _ (lt_of_vp hx3)); have q17 := ti_in hg3_25; have q18 := ti_in hrg25; have q19 := ti_in hg3_92; have q20 := ti_in hrg92; have q21 := ti_in r154; have q22 := ti_in r168; have q23 := ti_in r150; have q24 := ti_in (iva_169 hI _ (lt_of_vp hx152)); have q25 := ti_in r170; have z0 : (0 : Int32).toInt = 0 := (by decide); have z1 : (1 : Int32).toInt = 1 := (by decide); have z2 : (100 : Int32).toInt = 100 := (by decide); have z3 : (168 : Int32).toInt = 168 := (by decide); have z4 : (19 : Int32).toInt = 19 := (by decide); have z5 : (4 : Int32).toInt = 4 := (by decide); have z6 : (5 : Int32).toInt = 5 := (by decide); have z7 : (63 : Int32).toInt = 63 := (by decide); have z8 : (7 : Int32).toInt = 7 := (by decide); have z9 : (95 : Int32).toInt = 95 := (by decide); omega))
                          refine R_iaload (pc := 170) dX9_mayStand_170 (c_169 _) hx172 ?_
                          have hx173 : vp_in (σ.2.2.1 169 (Int32.toNatClampNeg ((5 * c) + ((nI j92) + 1)))) 8 := (vp_of_inR (iva_169 hI _ (lt_of_vp hx172)) (by decide))
                          refine R_iaload (pc := 171) dX9_mayStand_171 (c_167 _) hx173 ?_
                          refine st_8_7_i_i (pc := 172) dX9_mayStand_172 ?_
                          refine R_aload_n (pc := 174) dX9_mayStand_174 rfl rfl ?_
                          refine R_iload_n (pc := 175) dX9_mayStand_175 rfl rfl ?_
                          refine R_iload (pc := 176) dX9_mayStand_176 rfl ?_
                          refine R_iload (pc := 178) dX9_mayStand_178 rfl ?_
                          refine k_X9_242 (pc := 180) (ge_X9_isOrdered _ _ _ _ hI) rfl (c_140 _) (by decide) (Nat.le_refl _) (Nat.le_refl _) (Nat.le_of_ble_eq_true rfl) dX9_mayStand_180 (fun x w2 h => ?_)
                          rcases h with ⟨rfl, ⟨h174, rfl⟩ | ⟨h174, rfl⟩⟩
                          · skip
                            refine st_8_3_i_i (pc := 183) dX9_mayStand_183 ?_
                            refine inc_8_5_1_i (pc := 184) dX9_mayStand_184 ?_
                            have r175 : inR ((nI j92) + 1) 1 5 := inR_add (show inR (nI j92) 0 4 from hrg92) (show inR 1 1 1 from (inR_self _)) (by decide) (by decide)
                            have e176 := ti_add (l := 1) (h := 5) (show inR (nI j92) 0 4 from hrg92) (show inR 1 1 1 from (inR_self _)) (by decide) (by decide)
                            refine R_goto (pc := 187) 92 dX9_mayStand_187 (by decide) ?_
                            rw [nI_1]
                            exact ih92 (j92 + 1) _ _ _ (by omega) (by omega) (show inR 1 0 1 from ⟨by decide, by decide⟩) (absurd b126_149 b157_158) (nI_sle (by omega) b96_142) (Or.inr b106_144)
                          · skip
                            refine st_8_3_i_i (pc := 183) dX9_mayStand_183 ?_
                            refine inc_8_5_1_i (pc := 184) dX9_mayStand_184 ?_
                            have r177 : inR ((nI j92) + 1) 1 5 := inR_add (show inR (nI j92) 0 4 from hrg92) (show inR 1 1 1 from (inR_self _)) (by decide) (by decide)
                            have e178 := ti_add (l := 1) (h := 5) (show inR (nI j92) 0 4 from hrg92) (show inR 1 1 1 from (inR_self _)) (by decide) (by decide)
                            refine R_goto (pc := 187) 92 dX9_mayStand_187 (by decide) ?_
                            rw [nI_1]
                            exact ih92 (j92 + 1) _ _ _ (by omega) (by omega) (show inR 0 0 1 from ⟨by decide, by decide⟩) (absurd b126_149 b157_158) (nI_sle (by omega) b96_142) (Or.inr b106_144)
                      · skip
                        refine R_iload (pc := 129) dX9_mayStand_129 rfl ?_
                        refine R_goto (pc := 131) 135 dX9_mayStand_131 (by decide) ?_
                        refine R_iadd (pc := 135) dX9_mayStand_135 ?_
                        have r179 : inR ((5 * c) + (nI j92)) 0 99 := inR_add (show inR (5 * c) 0 95 from r145) (show inR (nI j92) 0 4 from hrg92) (by decide) (by decide)
                        have e180 := ti_add (l := 0) (h := 99) (show inR (5 * c) 0 95 from r145) (show inR (nI j92) 0 4 from hrg92) (by decide) (by decide)
                        have hx181 : vp_in ((5 * c) + (nI j92)) 100 := (vp_of_inR r179 (by decide))
                        refine R_iaload (pc := 136) dX9_mayStand_136 (c_169 _) hx181 ?_
                        have hx182 : vp_in (σ.2.2.1 169 (Int32.toNatClampNeg ((5 * c) + (nI j92)))) 8 := (vp_of_inR (iva_169 hI _ (lt_of_vp hx181)) (by decide))
                        refine R_iaload (pc := 137) dX9_mayStand_137 (c_167 _) hx182 ?_
                        refine st_8_6_i_i (pc := 138) dX9_mayStand_138 ?_
                        refine R_aload_n (pc := 140) dX9_mayStand_140 rfl rfl ?_
                        refine g_X9_99 (pc := 141) (v := .ref 167) rfl dX9_mayStand_141 (c_140 _) rfl ?_
                        refine R_aload_n (pc := 144) dX9_mayStand_144 rfl rfl ?_
                        refine g_X9_105 (pc := 145) (v := .ref 169) rfl dX9_mayStand_145 (c_140 _) rfl ?_
                        refine R_iconst (pc := 148) (v := 5) dX9_mayStand_148 (by decide) ?_
                        refine R_iload_n (pc := 149) dX9_mayStand_149 rfl rfl ?_
                        refine R_imul (pc := 150) dX9_mayStand_150 ?_
                        have r183 : inR (5 * c) 0 95 := inR_mulc (c := 5) (l := 0) (h := 95) 5 (by decide) (show inR c 0 19 from hc) (by decide) (by decide)
                        have e184 := ti_mulc (c := 5) (l := 0) (h := 95) 5 (by decide) (show inR c 0 19 from hc) (by decide) (by decide)
                        refine R_iload (pc := 151) dX9_mayStand_151 rfl ?_
                        refine R_iconst (pc := 153) (v := 1) dX9_mayStand_153 (by decide) ?_
                        refine R_iadd (pc := 154) dX9_mayStand_154 ?_
                        have r185 : inR ((nI j92) + 1) 1 5 := inR_add (show inR (nI j92) 0 4 from hrg92) (show inR 1 1 1 from (inR_self _)) (by decide) (by decide)
                        have e186 := ti_add (l := 1) (h := 5) (show inR (nI j92) 0 4 from hrg92) (show inR 1 1 1 from (inR_self _)) (by decide) (by decide)
                        refine R_iload (pc := 155) dX9_mayStand_155 rfl ?_
                        refine R_icge (pc := 157) 167 dX9_mayStand_157 (by decide) (fun b157_187 => ?_) (fun b157_187 => ?_)
                        · skip
                          refine R_iload (pc := 167) dX9_mayStand_167 rfl ?_
                          refine R_iadd (pc := 169) dX9_mayStand_169 ?_
                          have r188 : inR ((5 * c) + (nI j92)) 0 99 := inR_add (show inR (5 * c) 0 95 from r183) (show inR (nI j92) 0 4 from hrg92) (by decide) (by decide)
                          have e189 := ti_add (l := 0) (h := 99) (show inR (5 * c) 0 95 from r183) (show inR (nI j92) 0 4 from hrg92) (by decide) (by decide)
                          have hx190 : vp_in ((5 * c) + (nI j92)) 100 := (vp_of_inR r188 (by decide))
                          refine R_iaload (pc := 170) dX9_mayStand_170 (c_169 _) hx190 ?_
                          have hx191 : vp_in (σ.2.2.1 169 (Int32.toNatClampNeg ((5 * c) + (nI j92)))) 8 := (vp_of_inR (iva_169 hI _ (lt_of_vp hx181)) (by decide))
                          refine R_iaload (pc := 171) dX9_mayStand_171 (c_167 _) hx191 ?_
                          refine st_8_7_i_i (pc := 172) dX9_mayStand_172 ?_
                          refine R_aload_n (pc := 174) dX9_mayStand_174 rfl rfl ?_
                          refine R_iload_n (pc := 175) dX9_mayStand_175 rfl rfl ?_
                          refine R_iload (pc := 176) dX9_mayStand_176 rfl ?_
                          refine R_iload (pc := 178) dX9_mayStand_178 rfl ?_
                          refine k_X9_242 (pc := 180) (ge_X9_isOrdered _ _ _ _ hI) rfl (c_140 _) (by decide) (Nat.le_refl _) (Nat.le_refl _) (Nat.le_of_ble_eq_true rfl) dX9_mayStand_180 (fun x w2 h => ?_)
                          rcases h with ⟨rfl, ⟨h192, rfl⟩ | ⟨h192, rfl⟩⟩
                          · skip
                            refine st_8_3_i_i (pc := 183) dX9_mayStand_183 ?_
                            refine inc_8_5_1_i (pc := 184) dX9_mayStand_184 ?_
                            have r193 : inR ((nI j92) + 1) 1 5 := inR_add (show inR (nI j92) 0 4 from hrg92) (show inR 1 1 1 from (inR_self _)) (by decide) (by decide)
                            have e194 := ti_add (l := 1) (h := 5) (show inR (nI j92) 0 4 from hrg92) (show inR 1 1 1 from (inR_self _)) (by decide) (by decide)
                            refine R_goto (pc := 187) 92 dX9_mayStand_187 (by decide) ?_
                            rw [nI_1]
                            exact ih92 (j92 + 1) _ _ _ (by omega) (by omega) (show inR 1 0 1 from ⟨by decide, by decide⟩) (absurd b157_187 b126_149) (nI_sle (by omega) b96_142) (Or.inr b106_144)
                          · skip
                            refine st_8_3_i_i (pc := 183) dX9_mayStand_183 ?_
                            refine inc_8_5_1_i (pc := 184) dX9_mayStand_184 ?_
                            have r195 : inR ((nI j92) + 1) 1 5 := inR_add (show inR (nI j92) 0 4 from hrg92) (show inR 1 1 1 from (inR_self _)) (by decide) (by decide)
                            have e196 := ti_add (l := 1) (h := 5) (show inR (nI j92) 0 4 from hrg92) (show inR 1 1 1 from (inR_self _)) (by decide) (by decide)
                            refine R_goto (pc := 187) 92 dX9_mayStand_187 (by decide) ?_
                            rw [nI_1]
                            exact ih92 (j92 + 1) _ _ _ (by omega) (by omega) (show inR 0 0 1 from ⟨by decide, by decide⟩) (absurd b157_187 b126_149) (nI_sle (by omega) b96_142) (Or.inr b106_144)
                        · skip
                          refine R_iload (pc := 160) dX9_mayStand_160 rfl ?_
                          refine R_iconst (pc := 162) (v := 1) dX9_mayStand_162 (by decide) ?_
                          refine R_iadd (pc := 163) dX9_mayStand_163 ?_
                          have r197 : inR ((nI j92) + 1) 1 5 := inR_add (show inR (nI j92) 0 4 from hrg92) (show inR 1 1 1 from (inR_self _)) (by decide) (by decide)
                          have e198 := ti_add (l := 1) (h := 5) (show inR (nI j92) 0 4 from hrg92) (show inR 1 1 1 from (inR_self _)) (by decide) (by decide)
                          refine R_goto (pc := 164) 169 dX9_mayStand_164 (by decide) ?_
                          refine R_iadd (pc := 169) dX9_mayStand_169 ?_
                          have r199 : inR ((5 * c) + ((nI j92) + 1)) 1 100 := inR_add (show inR (5 * c) 0 95 from r183) (show inR ((nI j92) + 1) 1 5 from r197) (by decide) (by decide)
                          have e200 := ti_add (l := 1) (h := 100) (show inR (5 * c) 0 95 from r183) (show inR ((nI j92) + 1) 1 5 from r197) (by decide) (by decide)
                          have hx201 : vp_in ((5 * c) + ((nI j92) + 1)) 100 := (vp_ti (by have q0 := e146; have q1 := e148; have q2 := e180; have q3 := e184; have q4 := e186; have q5 := e198; have q6 := e200; have q7 := ti_nle b29_72; have q8 := ti_eq b33_140; have q9 := ti_nle b96_142; have q10 := ti_ne b100_143; have q11 := ti_nle b106_144; have q12 := ti_nle b126_149; have q13 := ti_nle b157_187; have q14 := ti_in hc; have q15 := ti_in hk; have q16 := ti_in (iva_168 hI _ (lt_of_vp hx3)); have q17 := ti_in hg3_25; have q18 := ti_in hrg25; have q19 := ti_in hg3_92; have q20 := ti_in hrg92; have q21 := ti_in r183; have q22 := ti_in r197; have q23 := ti_in r179; have q24 := ti_in (iva_169 hI _ (lt_of_vp hx181)); have q25 := ti_in r199; have z0 : (0 : Int32).toInt = 0 := (by decide); have z1 : (1 : Int32).toInt = 1 := (by decide); have z2 : (100 : Int32).toInt = 100 := (by decide); have z3 : (168 : Int32).toInt = 168 := (by decide); have z4 : (19 : Int32).toInt = 19 := (by decide); have z5 : (4 : Int32).toInt = 4 := (by decide); have z6 : (5 : Int32).toInt = 5 := (by decide); have z7 : (63 : Int32).toInt = 63 := (by decide); have z8 : (7 : Int32).toInt = 7 := (by decide); have z9 : (95 : Int32).toInt = 95 := (by decide); have z10 : (99 : Int32).toInt = 99 := (by decide); omega) (by have q0 := e146; have q1 := e148; have q2 := e180; have q3 := e184; have q4 := e186; have q5 := e198; have q6 := e200; have q7 := ti_nle b29_72; have q8 := ti_eq b33_140; have q9 := ti_nle b96_142; have q10 := ti_ne b100_143; have q11 := ti_nle b106_144; have q12 := ti_nle b126_149; have q13 := ti_nle b157_187; have q14 := ti_in hc; have q15 := ti_in hk; have q16 := ti_in (iva_168 hI _ (lt_of_vp hx3)); have q17 := ti_in hg3_25; have q18 := ti_in hrg25; have q19 := ti_in hg3_92; have q20 := ti_in hrg92; have q21 := ti_in r183; have q22 := ti_in r197; have q23 := ti_in r179; have q24 := ti_in (iva_169 hI _ (lt_of_vp hx181)); have q25 := ti_in r199; have z0 : (0 : Int32).toInt = 0 := (by decide); have z1 : (1 : Int32).toInt = 1 := (by decide); have z2 : (100 : Int32).toInt = 100 := (by decide); have z3 : (168 : Int32).toInt = 168 := (by decide); have z4 : (19 : Int32).toInt = 19 := (by decide); have z5 : (4 : Int32).toInt = 4 := (by decide); have z6 : (5 : Int32).toInt = 5 := (by decide); have z7 : (63 : Int32).toInt = 63 := (by decide); have z8 : (7 : Int32).toInt = 7 := (by decide); have z9 : (95 : Int32).toInt = 95 := (by decide); have z10 : (99 : Int32).toInt = 99 := (by decide); omega))
                          refine R_iaload (pc := 170) dX9_mayStand_170 (c_169 _) hx201 ?_
                          have hx202 : vp_in (σ.2.2.1 169 (Int32.toNatClampNeg ((5 * c) + ((nI j92) + 1)))) 8 := (vp_of_inR (iva_169 hI _ (lt_of_vp hx201)) (by decide))
                          refine R_iaload (pc := 171) dX9_mayStand_171 (c_167 _) hx202 ?_
                          refine st_8_7_i_i (pc := 172) dX9_mayStand_172 ?_
                          refine R_aload_n (pc := 174) dX9_mayStand_174 rfl rfl ?_
                          refine R_iload_n (pc := 175) dX9_mayStand_175 rfl rfl ?_
                          refine R_iload (pc := 176) dX9_mayStand_176 rfl ?_
                          refine R_iload (pc := 178) dX9_mayStand_178 rfl ?_
                          refine k_X9_242 (pc := 180) (ge_X9_isOrdered _ _ _ _ hI) rfl (c_140 _) (by decide) (Nat.le_refl _) (Nat.le_refl _) (Nat.le_of_ble_eq_true rfl) dX9_mayStand_180 (fun x w2 h => ?_)
                          rcases h with ⟨rfl, ⟨h203, rfl⟩ | ⟨h203, rfl⟩⟩
                          · skip
                            refine st_8_3_i_i (pc := 183) dX9_mayStand_183 ?_
                            refine inc_8_5_1_i (pc := 184) dX9_mayStand_184 ?_
                            have r204 : inR ((nI j92) + 1) 1 5 := inR_add (show inR (nI j92) 0 4 from hrg92) (show inR 1 1 1 from (inR_self _)) (by decide) (by decide)
                            have e205 := ti_add (l := 1) (h := 5) (show inR (nI j92) 0 4 from hrg92) (show inR 1 1 1 from (inR_self _)) (by decide) (by decide)
                            refine R_goto (pc := 187) 92 dX9_mayStand_187 (by decide) ?_
                            rw [nI_1]
                            exact ih92 (j92 + 1) _ _ _ (by omega) (by omega) (show inR 1 0 1 from ⟨by decide, by decide⟩) (Or.inl ⟨rfl, (hX92_0.resolve_right (fun e => absurd e.1 b100_143)).2.1, o2_c (L := (LM σ c)) (hX92_0.resolve_right (fun e => absurd e.1 b100_143)).2.2 (Int32.not_le.mp b157_187) h203⟩) (nI_sle (by omega) b96_142) (Or.inr b106_144)
                          · skip
                            refine st_8_3_i_i (pc := 183) dX9_mayStand_183 ?_
                            refine inc_8_5_1_i (pc := 184) dX9_mayStand_184 ?_
                            have r206 : inR ((nI j92) + 1) 1 5 := inR_add (show inR (nI j92) 0 4 from hrg92) (show inR 1 1 1 from (inR_self _)) (by decide) (by decide)
                            have e207 := ti_add (l := 1) (h := 5) (show inR (nI j92) 0 4 from hrg92) (show inR 1 1 1 from (inR_self _)) (by decide) (by decide)
                            refine R_goto (pc := 187) 92 dX9_mayStand_187 (by decide) ?_
                            rw [nI_1]
                            exact ih92 (j92 + 1) _ _ _ (by omega) (by omega) (show inR 0 0 1 from ⟨by decide, by decide⟩) (Or.inr ⟨rfl, Or.inr (o2_c (L := (LM σ c)) (hX92_0.resolve_right (fun e => absurd e.1 b100_143)).2.2 (Int32.not_le.mp b157_187) h203)⟩) (nI_sle (by omega) b96_142) (Or.inr b106_144)
            exact HL92 5 0 _ _ _ (by omega) (by omega) hg3_25 (hM.imp (fun q => ⟨q.1, q.2, rfl⟩) (fun q => ⟨q.1, Or.inl q.2⟩)) (show (0 : Int32) ≤ (σ.2.2.1 168 (Int32.toNatClampNeg c)) from Int32.not_lt.mp (iva_168 hI _ (clamp19 hc)).1) (Or.inl rfl)
          · skip
            refine R_aload_n (pc := 36) dX9_mayStand_36 rfl rfl ?_
            refine g_X9_99 (pc := 37) (v := .ref 167) rfl dX9_mayStand_37 (c_140 _) rfl ?_
            refine R_aload_n (pc := 40) dX9_mayStand_40 rfl rfl ?_
            refine g_X9_105 (pc := 41) (v := .ref 169) rfl dX9_mayStand_41 (c_140 _) rfl ?_
            refine R_iconst (pc := 44) (v := 5) dX9_mayStand_44 (by decide) ?_
            refine R_iload_n (pc := 45) dX9_mayStand_45 rfl rfl ?_
            refine R_imul (pc := 46) dX9_mayStand_46 ?_
            have r208 : inR (5 * c) 0 95 := inR_mulc (c := 5) (l := 0) (h := 95) 5 (by decide) (show inR c 0 19 from hc) (by decide) (by decide)
            have e209 := ti_mulc (c := 5) (l := 0) (h := 95) 5 (by decide) (show inR c 0 19 from hc) (by decide) (by decide)
            refine R_iload (pc := 47) dX9_mayStand_47 rfl ?_
            refine R_iadd (pc := 49) dX9_mayStand_49 ?_
            have r210 : inR ((5 * c) + (nI j25)) 0 99 := inR_add (show inR (5 * c) 0 95 from r208) (show inR (nI j25) 0 4 from hrg25) (by decide) (by decide)
            have e211 := ti_add (l := 0) (h := 99) (show inR (5 * c) 0 95 from r208) (show inR (nI j25) 0 4 from hrg25) (by decide) (by decide)
            have hx212 : vp_in ((5 * c) + (nI j25)) 100 := (vp_of_inR r210 (by decide))
            refine R_iaload (pc := 50) dX9_mayStand_50 (c_169 _) hx212 ?_
            have hx213 : vp_in (σ.2.2.1 169 (Int32.toNatClampNeg ((5 * c) + (nI j25)))) 8 := (vp_of_inR (iva_169 hI _ (lt_of_vp hx212)) (by decide))
            refine R_iaload (pc := 51) dX9_mayStand_51 (c_167 _) hx213 ?_
            refine st_8_6_i_i (pc := 52) dX9_mayStand_52 ?_
            refine R_iload (pc := 54) dX9_mayStand_54 rfl ?_
            refine R_bipush (pc := 56) (v := 64) dX9_mayStand_56 (by decide) ?_
            refine R_icge (pc := 58) 81 dX9_mayStand_58 (by decide) (fun b58_214 => ?_) (fun b58_214 => ?_)
            · skip
              refine R_iconst (pc := 81) (v := 0) dX9_mayStand_81 (by decide) ?_
              refine st_8_3_i_i (pc := 82) dX9_mayStand_82 ?_
              refine inc_8_5_1_i (pc := 83) dX9_mayStand_83 ?_
              have r215 : inR ((nI j25) + 1) 1 5 := inR_add (show inR (nI j25) 0 4 from hrg25) (show inR 1 1 1 from (inR_self _)) (by decide) (by decide)
              have e216 := ti_add (l := 1) (h := 5) (show inR (nI j25) 0 4 from hrg25) (show inR 1 1 1 from (inR_self _)) (by decide) (by decide)
              refine R_goto (pc := 86) 25 dX9_mayStand_86 (by decide) ?_
              rw [nI_1]
              exact ih25 (j25 + 1) _ _ _ (by omega) (by omega) (show inR 0 0 1 from ⟨by decide, by decide⟩) (Or.inr ⟨rfl, l1_f1 (L := (LM σ c)) (Int32.not_lt.mpr b58_214)⟩) (nI_sle (by omega) b29_72)
            · skip
              refine R_iload (pc := 61) dX9_mayStand_61 rfl ?_
              refine R_iload_n (pc := 63) dX9_mayStand_63 rfl rfl ?_
              refine R_iceq (pc := 64) 81 dX9_mayStand_64 (by decide) (fun b64_217 => ?_) (fun b64_217 => ?_)
              · skip
                refine R_iconst (pc := 81) (v := 0) dX9_mayStand_81 (by decide) ?_
                refine st_8_3_i_i (pc := 82) dX9_mayStand_82 ?_
                refine inc_8_5_1_i (pc := 83) dX9_mayStand_83 ?_
                have r218 : inR ((nI j25) + 1) 1 5 := inR_add (show inR (nI j25) 0 4 from hrg25) (show inR 1 1 1 from (inR_self _)) (by decide) (by decide)
                have e219 := ti_add (l := 1) (h := 5) (show inR (nI j25) 0 4 from hrg25) (show inR 1 1 1 from (inR_self _)) (by decide) (by decide)
                refine R_goto (pc := 86) 25 dX9_mayStand_86 (by decide) ?_
                rw [nI_1]
                exact ih25 (j25 + 1) _ _ _ (by omega) (by omega) (show inR 0 0 1 from ⟨by decide, by decide⟩) (Or.inr ⟨rfl, l1_f2 (L := (LM σ c)) b64_217⟩) (nI_sle (by omega) b29_72)
              · skip
                refine R_aload_n (pc := 67) dX9_mayStand_67 rfl rfl ?_
                refine R_iload_n (pc := 68) dX9_mayStand_68 rfl rfl ?_
                refine R_iload (pc := 69) dX9_mayStand_69 rfl ?_
                refine k_X9_239 (pc := 71) (ge_X9_isSeen _ _ _ hI hk (cell63m hlm (iva_169 hI _ (lt_of_vp (vp_ti (by have q0 := e209; have q1 := e211; have q2 := ti_nle b29_72; have q3 := ti_ne b33_140; have q4 := ti_nle b58_214; have q5 := ti_ne b64_217; have q6 := ti_in hc; have q7 := ti_in hk; have q8 := ti_in (iva_168 hI _ (lt_of_vp hx3)); have q9 := ti_in hg3_25; have q10 := ti_in hrg25; have q11 := ti_in r208; have q12 := ti_in r210; have q13 := ti_in (iva_169 hI _ (lt_of_vp hx212)); have z0 : (0 : Int32).toInt = 0 := (by decide); have z1 : (1 : Int32).toInt = 1 := (by decide); have z2 : (167 : Int32).toInt = 167 := (by decide); have z3 : (168 : Int32).toInt = 168 := (by decide); have z4 : (169 : Int32).toInt = 169 := (by decide); have z5 : (19 : Int32).toInt = 19 := (by decide); have z6 : (4 : Int32).toInt = 4 := (by decide); have z7 : (5 : Int32).toInt = 5 := (by decide); have z8 : (63 : Int32).toInt = 63 := (by decide); have z9 : (64 : Int32).toInt = 64 := (by decide); have z10 : (7 : Int32).toInt = 7 := (by decide); have z11 : (95 : Int32).toInt = 95 := (by decide); have z12 : (99 : Int32).toInt = 99 := (by decide); omega) (by have q0 := e209; have q1 := e211; have q2 := ti_nle b29_72; have q3 := ti_ne b33_140; have q4 := ti_nle b58_214; have q5 := ti_ne b64_217; have q6 := ti_in hc; have q7 := ti_in hk; have q8 := ti_in (iva_168 hI _ (lt_of_vp hx3)); have q9 := ti_in hg3_25; have q10 := ti_in hrg25; have q11 := ti_in r208; have q12 := ti_in r210; have q13 := ti_in (iva_169 hI _ (lt_of_vp hx212)); have z0 : (0 : Int32).toInt = 0 := (by decide); have z1 : (1 : Int32).toInt = 1 := (by decide); have z2 : (167 : Int32).toInt = 167 := (by decide); have z3 : (168 : Int32).toInt = 168 := (by decide); have z4 : (169 : Int32).toInt = 169 := (by decide); have z5 : (19 : Int32).toInt = 19 := (by decide); have z6 : (4 : Int32).toInt = 4 := (by decide); have z7 : (5 : Int32).toInt = 5 := (by decide); have z8 : (63 : Int32).toInt = 63 := (by decide); have z9 : (64 : Int32).toInt = 64 := (by decide); have z10 : (7 : Int32).toInt = 7 := (by decide); have z11 : (95 : Int32).toInt = 95 := (by decide); have z12 : (99 : Int32).toInt = 99 := (by decide); omega)))) (Int32.not_le.mp b58_214))) rfl (c_140 _) (by decide) (Nat.le_refl _) (Nat.le_refl _) (Nat.le_of_ble_eq_true rfl) dX9_mayStand_71 (fun x w2 h => ?_)
                rcases h with ⟨rfl, ⟨h220, rfl⟩ | ⟨h220, rfl⟩⟩
                · skip
                  refine R_ifeq (pc := 74) 81 dX9_mayStand_74 (by decide) (fun h => absurd h (by decide)) (fun _ => ?_)
                  refine R_iconst (pc := 77) (v := 1) dX9_mayStand_77 (by decide) ?_
                  refine R_goto (pc := 78) 82 dX9_mayStand_78 (by decide) ?_
                  refine st_8_3_i_i (pc := 82) dX9_mayStand_82 ?_
                  refine inc_8_5_1_i (pc := 83) dX9_mayStand_83 ?_
                  have r222 : inR ((nI j25) + 1) 1 5 := inR_add (show inR (nI j25) 0 4 from hrg25) (show inR 1 1 1 from (inR_self _)) (by decide) (by decide)
                  have e223 := ti_add (l := 1) (h := 5) (show inR (nI j25) 0 4 from hrg25) (show inR 1 1 1 from (inR_self _)) (by decide) (by decide)
                  refine R_goto (pc := 86) 25 dX9_mayStand_86 (by decide) ?_
                  rw [nI_1]
                  exact ih25 (j25 + 1) _ _ _ (by omega) (by omega) (show inR 1 0 1 from ⟨by decide, by decide⟩) (Or.inl ⟨rfl, l1_t (L := (LM σ c)) (hX25_0.resolve_right (fun e => absurd e.1 b33_140)).2 (Int32.not_le.mp b58_214) b64_217 h220⟩) (nI_sle (by omega) b29_72)
                · skip
                  refine R_ifeq (pc := 74) 81 dX9_mayStand_74 (by decide) (fun _ => ?_) (fun h => absurd (by decide) h)
                  refine R_iconst (pc := 81) (v := 0) dX9_mayStand_81 (by decide) ?_
                  refine st_8_3_i_i (pc := 82) dX9_mayStand_82 ?_
                  refine inc_8_5_1_i (pc := 83) dX9_mayStand_83 ?_
                  have r225 : inR ((nI j25) + 1) 1 5 := inR_add (show inR (nI j25) 0 4 from hrg25) (show inR 1 1 1 from (inR_self _)) (by decide) (by decide)
                  have e226 := ti_add (l := 1) (h := 5) (show inR (nI j25) 0 4 from hrg25) (show inR 1 1 1 from (inR_self _)) (by decide) (by decide)
                  refine R_goto (pc := 86) 25 dX9_mayStand_86 (by decide) ?_
                  rw [nI_1]
                  exact ih25 (j25 + 1) _ _ _ (by omega) (by omega) (show inR 0 0 1 from ⟨by decide, by decide⟩) (Or.inr ⟨rfl, l1_f3 (L := (LM σ c)) h220⟩) (nI_sle (by omega) b29_72)
    exact HL25 5 0 _ _ _ (by omega) (by omega) (show inR 0 0 1 from ⟨by decide, by decide⟩) (Or.inr ⟨rfl, (by show (!wB (σ.2.1 14034) k) = false; rw [h1]; rfl)⟩) (show (0 : Int32) ≤ (σ.2.2.1 168 (Int32.toNatClampNeg c)) from Int32.not_lt.mp (iva_168 hI _ (clamp19 hc)).1)
  · skip
    refine R_ifne (pc := 5) 12 dX9_mayStand_5 (by decide) (fun h => absurd (by decide) h) (fun _ => ?_)
    refine R_iconst (pc := 8) (v := 1) dX9_mayStand_8 (by decide) ?_
    refine R_goto (pc := 9) 13 dX9_mayStand_9 (by decide) ?_
    refine st_8_3_i_i (pc := 13) dX9_mayStand_13 ?_
    refine R_aload_n (pc := 14) dX9_mayStand_14 rfl rfl ?_
    refine g_X9_102 (pc := 15) (v := .ref 168) rfl dX9_mayStand_15 (c_140 _) rfl ?_
    refine R_iload_n (pc := 18) dX9_mayStand_18 rfl rfl ?_
    have hx228 : vp_in c 20 := (vp_of_inR hc (by decide))
    refine R_iaload (pc := 19) dX9_mayStand_19 (c_168 _) hx228 ?_
    refine st_8_4_i_i (pc := 20) dX9_mayStand_20 ?_
    refine R_iconst (pc := 22) (v := 0) dX9_mayStand_22 (by decide) ?_
    refine st_8_5_i_i (pc := 23) dX9_mayStand_23 ?_
    have HL25 : ∀ (q j25 : Nat) (g3_25 : Int32) (g6_25 : Option Value) (g7_25 : Option Value), j25 + q = 5 → 0 ≤ j25 → inR g3_25 0 1 → (g3_25 = 1 ∧ l1B (σ.2.1 14034) k (LM σ c) j25 = true ∨ g3_25 = 0 ∧ l1B (σ.2.1 14034) k (LM σ c) j25 = false) → nI j25 ≤ (σ.2.2.1 168 (Int32.toNatClampNeg c)) → R G l yX9_mayStand cX9_mayStand 8 (some .boolean) 2 0 0 (QI (fun x w2 => w2 = WW σ ∧ (msB (σ.2.1 14034) k (LM σ c) (σ.2.2.1 168 (Int32.toNatClampNeg c)) = true ∧ x = 1 ∨ msB (σ.2.1 14034) k (LM σ c) (σ.2.2.1 168 (Int32.toNatClampNeg c)) = false ∧ x = 0))) 25 [(some (.ref 140)), (some (.int c)), (some (.int k)), (some (.int g3_25)), (some (.int (σ.2.2.1 168 (Int32.toNatClampNeg c)))), (some (.int (nI j25))), g6_25, g7_25] [] (WW σ) 0 0 := by
      intro q
      induction q with
      | zero =>
        intro j25 g3_25 g6_25 g7_25 hj hs25 hg3_25 hX25_0 hX25_1
        obtain rfl : j25 = 5 := by omega
        refine R_iload (pc := 25) dX9_mayStand_25 rfl ?_
        refine R_iload (pc := 27) dX9_mayStand_27 rfl ?_
        refine R_icge (pc := 29) 89 dX9_mayStand_29 (by decide) (fun _ => ?_) (fun h => absurd (Int32.not_lt.mp (inR_up (iva_168 hI _ (lt_of_vp hx228)) (Int32.le_refl _) (by decide)).2) h)
        refine R_iconst (pc := 89) (v := 0) dX9_mayStand_89 (by decide) ?_
        refine st_8_5_i_i (pc := 90) dX9_mayStand_90 ?_
        have hM : g3_25 = 1 ∧ l1B (σ.2.1 14034) k (LM σ c) (Int32.toNatClampNeg (σ.2.2.1 168 (Int32.toNatClampNeg c))) = true ∨ g3_25 = 0 ∧ l1B (σ.2.1 14034) k (LM σ c) (Int32.toNatClampNeg (σ.2.2.1 168 (Int32.toNatClampNeg c))) = false := by rw [show (Int32.toNatClampNeg (σ.2.2.1 168 (Int32.toNatClampNeg c))) = 5 from (jn_of (by omega) (by first | exact nI_eqe hX25_1 (by assumption) | exact nI_eq5 hX25_1 (iva_168 hI _ (clamp19 hc))))]; exact hX25_0
        have HL92 : ∀ (q j92 : Nat) (g3_92 : Int32) (g6_92 : Option Value) (g7_92 : Option Value), j92 + q = 5 → 0 ≤ j92 → inR g3_92 0 1 → (g3_92 = 1 ∧ l1B (σ.2.1 14034) k (LM σ c) (Int32.toNatClampNeg (σ.2.2.1 168 (Int32.toNatClampNeg c))) = true ∧ o2B k (LM σ c) (σ.2.2.1 168 (Int32.toNatClampNeg c)) j92 = true ∨ g3_92 = 0 ∧ (l1B (σ.2.1 14034) k (LM σ c) (Int32.toNatClampNeg (σ.2.2.1 168 (Int32.toNatClampNeg c))) = false ∨ o2B k (LM σ c) (σ.2.2.1 168 (Int32.toNatClampNeg c)) j92 = false)) → nI j92 ≤ (σ.2.2.1 168 (Int32.toNatClampNeg c)) → (j92 = 0 ∨ ¬ (σ.2.2.1 168 (Int32.toNatClampNeg c)) ≤ 1) → R G l yX9_mayStand cX9_mayStand 8 (some .boolean) 2 0 0 (QI (fun x w2 => w2 = WW σ ∧ (msB (σ.2.1 14034) k (LM σ c) (σ.2.2.1 168 (Int32.toNatClampNeg c)) = true ∧ x = 1 ∨ msB (σ.2.1 14034) k (LM σ c) (σ.2.2.1 168 (Int32.toNatClampNeg c)) = false ∧ x = 0))) 92 [(some (.ref 140)), (some (.int c)), (some (.int k)), (some (.int g3_92)), (some (.int (σ.2.2.1 168 (Int32.toNatClampNeg c)))), (some (.int (nI j92))), g6_92, g7_92] [] (WW σ) 0 0 := by
          intro q
          induction q with
          | zero =>
            intro j92 g3_92 g6_92 g7_92 hj hs92 hg3_92 hX92_0 hX92_1 hX92_2
            obtain rfl : j92 = 5 := by omega
            refine R_iload (pc := 92) dX9_mayStand_92 rfl ?_
            refine R_iload (pc := 94) dX9_mayStand_94 rfl ?_
            refine R_icge (pc := 96) 190 dX9_mayStand_96 (by decide) (fun _ => ?_) (fun h => absurd (Int32.not_lt.mp (inR_up (iva_168 hI _ (lt_of_vp hx228)) (Int32.le_refl _) (by decide)).2) h)
            refine R_iload_n (pc := 190) dX9_mayStand_190 rfl rfl ?_
            exact R_iret (pc := 191) dX9_mayStand_191 rfl (nar01 hg3_92) (Nat.zero_le _) (Nat.zero_le _) ⟨_, rfl, rfl, hX92_0.elim (fun q => Or.inl ⟨ms_t2 q.2.1 (by rw [(show (Int32.toNatClampNeg (σ.2.2.1 168 (Int32.toNatClampNeg c))) = 5 from jn_of (by omega) (by first | exact nI_eqe hX92_1 (by assumption) | exact nI_eq5 hX92_1 (iva_168 hI _ (clamp19 hc))))]; exact q.2.2), q.1⟩) (fun q => Or.inr ⟨ms_f q.2 hX92_2 (by rw [(show (Int32.toNatClampNeg (σ.2.2.1 168 (Int32.toNatClampNeg c))) = 5 from jn_of (by omega) (by first | exact nI_eqe hX92_1 (by assumption) | exact nI_eq5 hX92_1 (iva_168 hI _ (clamp19 hc))))]; exact Nat.le_refl _), q.1⟩)⟩
          | succ q ih92 =>
            intro j92 g3_92 g6_92 g7_92 hj hs92 hg3_92 hX92_0 hX92_1 hX92_2
            have hrg92 : inR (nI j92) 0 4 := inR_ix hs92 (show j92 < 5 by omega) (by decide) (by decide) (by decide)
            have hlt92 : j92 < 5 := by omega
            refine R_iload (pc := 92) dX9_mayStand_92 rfl ?_
            refine R_iload (pc := 94) dX9_mayStand_94 rfl ?_
            refine R_icge (pc := 96) 190 dX9_mayStand_96 (by decide) (fun b96_231 => ?_) (fun b96_231 => ?_)
            · skip
              refine R_iload_n (pc := 190) dX9_mayStand_190 rfl rfl ?_
              exact R_iret (pc := 191) dX9_mayStand_191 rfl (nar01 hg3_92) (Nat.zero_le _) (Nat.zero_le _) ⟨_, rfl, rfl, hX92_0.elim (fun q => Or.inl ⟨ms_t2 q.2.1 (by rw [(show (Int32.toNatClampNeg (σ.2.2.1 168 (Int32.toNatClampNeg c))) = j92 from jn_of (by omega) (by first | exact nI_eqe hX92_1 (by assumption) | exact nI_eq5 hX92_1 (iva_168 hI _ (clamp19 hc))))]; exact q.2.2), q.1⟩) (fun q => Or.inr ⟨ms_f q.2 hX92_2 (by rw [(show (Int32.toNatClampNeg (σ.2.2.1 168 (Int32.toNatClampNeg c))) = j92 from jn_of (by omega) (by first | exact nI_eqe hX92_1 (by assumption) | exact nI_eq5 hX92_1 (iva_168 hI _ (clamp19 hc))))]; exact Nat.le_refl _), q.1⟩)⟩
            · skip
              refine R_iload_n (pc := 99) dX9_mayStand_99 rfl rfl ?_
              refine R_ifeq (pc := 100) 190 dX9_mayStand_100 (by decide) (fun b100_232 => ?_) (fun b100_232 => ?_)
              · skip
                refine R_iload_n (pc := 190) dX9_mayStand_190 rfl rfl ?_
                exact R_iret (pc := 191) dX9_mayStand_191 rfl (nar01 hg3_92) (Nat.zero_le _) (Nat.zero_le _) ⟨_, rfl, rfl, Or.inr ⟨(by have q := (hX92_0.resolve_left (fun e => absurd (e.1.symm.trans b100_232) (by decide))).2; exact ms_f q hX92_2 (Nat.le_of_succ_le (nI_slt (by omega) b96_231))), b100_232⟩⟩
              · skip
                refine R_iload (pc := 103) dX9_mayStand_103 rfl ?_
                refine R_iconst (pc := 105) (v := 1) dX9_mayStand_105 (by decide) ?_
                refine R_icle (pc := 106) 190 dX9_mayStand_106 (by decide) (fun b106_233 => ?_) (fun b106_233 => ?_)
                · skip
                  refine R_iload_n (pc := 190) dX9_mayStand_190 rfl rfl ?_
                  exact R_iret (pc := 191) dX9_mayStand_191 rfl (nar01 hg3_92) (Nat.zero_le _) (Nat.zero_le _) ⟨_, rfl, rfl, hX92_0.elim (fun q => Or.inl ⟨ms_t1 q.2.1 b106_233, q.1⟩) (fun q => Or.inr ⟨ms_f1 q.2 hX92_2 b106_233, q.1⟩)⟩
                · skip
                  refine R_aload_n (pc := 109) dX9_mayStand_109 rfl rfl ?_
                  refine g_X9_99 (pc := 110) (v := .ref 167) rfl dX9_mayStand_110 (c_140 _) rfl ?_
                  refine R_aload_n (pc := 113) dX9_mayStand_113 rfl rfl ?_
                  refine g_X9_105 (pc := 114) (v := .ref 169) rfl dX9_mayStand_114 (c_140 _) rfl ?_
                  refine R_iconst (pc := 117) (v := 5) dX9_mayStand_117 (by decide) ?_
                  refine R_iload_n (pc := 118) dX9_mayStand_118 rfl rfl ?_
                  refine R_imul (pc := 119) dX9_mayStand_119 ?_
                  have r234 : inR (5 * c) 0 95 := inR_mulc (c := 5) (l := 0) (h := 95) 5 (by decide) (show inR c 0 19 from hc) (by decide) (by decide)
                  have e235 := ti_mulc (c := 5) (l := 0) (h := 95) 5 (by decide) (show inR c 0 19 from hc) (by decide) (by decide)
                  refine R_iload (pc := 120) dX9_mayStand_120 rfl ?_
                  refine R_iconst (pc := 122) (v := 1) dX9_mayStand_122 (by decide) ?_
                  refine R_iadd (pc := 123) dX9_mayStand_123 ?_
                  have r236 : inR ((nI j92) + 1) 1 5 := inR_add (show inR (nI j92) 0 4 from hrg92) (show inR 1 1 1 from (inR_self _)) (by decide) (by decide)
                  have e237 := ti_add (l := 1) (h := 5) (show inR (nI j92) 0 4 from hrg92) (show inR 1 1 1 from (inR_self _)) (by decide) (by decide)
                  refine R_iload (pc := 124) dX9_mayStand_124 rfl ?_
                  refine R_icge (pc := 126) 134 dX9_mayStand_126 (by decide) (fun b126_238 => ?_) (fun b126_238 => ?_)
                  · skip
                    refine R_iconst (pc := 134) (v := 0) dX9_mayStand_134 (by decide) ?_
                    refine R_iadd (pc := 135) dX9_mayStand_135 ?_
                    have r239 : inR ((5 * c) + 0) 0 95 := inR_add (show inR (5 * c) 0 95 from r234) (show inR 0 0 0 from (inR_self _)) (by decide) (by decide)
                    have e240 := ti_add (l := 0) (h := 95) (show inR (5 * c) 0 95 from r234) (show inR 0 0 0 from (inR_self _)) (by decide) (by decide)
                    have hx241 : vp_in ((5 * c) + 0) 100 := (vp_of_inR r239 (by decide))
                    refine R_iaload (pc := 136) dX9_mayStand_136 (c_169 _) hx241 ?_
                    have hx242 : vp_in (σ.2.2.1 169 (Int32.toNatClampNeg ((5 * c) + 0))) 8 := (vp_of_inR (iva_169 hI _ (lt_of_vp hx241)) (by decide))
                    refine R_iaload (pc := 137) dX9_mayStand_137 (c_167 _) hx242 ?_
                    refine st_8_6_i_i (pc := 138) dX9_mayStand_138 ?_
                    refine R_aload_n (pc := 140) dX9_mayStand_140 rfl rfl ?_
                    refine g_X9_99 (pc := 141) (v := .ref 167) rfl dX9_mayStand_141 (c_140 _) rfl ?_
                    refine R_aload_n (pc := 144) dX9_mayStand_144 rfl rfl ?_
                    refine g_X9_105 (pc := 145) (v := .ref 169) rfl dX9_mayStand_145 (c_140 _) rfl ?_
                    refine R_iconst (pc := 148) (v := 5) dX9_mayStand_148 (by decide) ?_
                    refine R_iload_n (pc := 149) dX9_mayStand_149 rfl rfl ?_
                    refine R_imul (pc := 150) dX9_mayStand_150 ?_
                    have r243 : inR (5 * c) 0 95 := inR_mulc (c := 5) (l := 0) (h := 95) 5 (by decide) (show inR c 0 19 from hc) (by decide) (by decide)
                    have e244 := ti_mulc (c := 5) (l := 0) (h := 95) 5 (by decide) (show inR c 0 19 from hc) (by decide) (by decide)
                    refine R_iload (pc := 151) dX9_mayStand_151 rfl ?_
                    refine R_iconst (pc := 153) (v := 1) dX9_mayStand_153 (by decide) ?_
                    refine R_iadd (pc := 154) dX9_mayStand_154 ?_
                    have r245 : inR ((nI j92) + 1) 1 5 := inR_add (show inR (nI j92) 0 4 from hrg92) (show inR 1 1 1 from (inR_self _)) (by decide) (by decide)
                    have e246 := ti_add (l := 1) (h := 5) (show inR (nI j92) 0 4 from hrg92) (show inR 1 1 1 from (inR_self _)) (by decide) (by decide)
                    refine R_iload (pc := 155) dX9_mayStand_155 rfl ?_
                    refine R_icge (pc := 157) 167 dX9_mayStand_157 (by decide) (fun b157_247 => ?_) (fun b157_247 => ?_)
                    · skip
                      refine R_iload (pc := 167) dX9_mayStand_167 rfl ?_
                      refine R_iadd (pc := 169) dX9_mayStand_169 ?_
                      have r248 : inR ((5 * c) + (nI j92)) 0 99 := inR_add (show inR (5 * c) 0 95 from r243) (show inR (nI j92) 0 4 from hrg92) (by decide) (by decide)
                      have e249 := ti_add (l := 0) (h := 99) (show inR (5 * c) 0 95 from r243) (show inR (nI j92) 0 4 from hrg92) (by decide) (by decide)
                      have hx250 : vp_in ((5 * c) + (nI j92)) 100 := (vp_of_inR r248 (by decide))
                      refine R_iaload (pc := 170) dX9_mayStand_170 (c_169 _) hx250 ?_
                      have hx251 : vp_in (σ.2.2.1 169 (Int32.toNatClampNeg ((5 * c) + (nI j92)))) 8 := (vp_of_inR (iva_169 hI _ (lt_of_vp hx250)) (by decide))
                      refine R_iaload (pc := 171) dX9_mayStand_171 (c_167 _) hx251 ?_
                      refine st_8_7_i_i (pc := 172) dX9_mayStand_172 ?_
                      refine R_aload_n (pc := 174) dX9_mayStand_174 rfl rfl ?_
                      refine R_iload_n (pc := 175) dX9_mayStand_175 rfl rfl ?_
                      refine R_iload (pc := 176) dX9_mayStand_176 rfl ?_
                      refine R_iload (pc := 178) dX9_mayStand_178 rfl ?_
                      refine k_X9_242 (pc := 180) (ge_X9_isOrdered _ _ _ _ hI) rfl (c_140 _) (by decide) (Nat.le_refl _) (Nat.le_refl _) (Nat.le_of_ble_eq_true rfl) dX9_mayStand_180 (fun x w2 h => ?_)
                      rcases h with ⟨rfl, ⟨h252, rfl⟩ | ⟨h252, rfl⟩⟩
                      · skip
                        refine st_8_3_i_i (pc := 183) dX9_mayStand_183 ?_
                        refine inc_8_5_1_i (pc := 184) dX9_mayStand_184 ?_
                        have r253 : inR ((nI j92) + 1) 1 5 := inR_add (show inR (nI j92) 0 4 from hrg92) (show inR 1 1 1 from (inR_self _)) (by decide) (by decide)
                        have e254 := ti_add (l := 1) (h := 5) (show inR (nI j92) 0 4 from hrg92) (show inR 1 1 1 from (inR_self _)) (by decide) (by decide)
                        refine R_goto (pc := 187) 92 dX9_mayStand_187 (by decide) ?_
                        rw [nI_1]
                        exact ih92 (j92 + 1) _ _ _ (by omega) (by omega) (show inR 1 0 1 from ⟨by decide, by decide⟩) (Or.inl ⟨rfl, (hX92_0.resolve_right (fun e => absurd e.1 b100_232)).2.1, o2_l (L := (LM σ c)) (hX92_0.resolve_right (fun e => absurd e.1 b100_232)).2.2 (Int32.not_lt.mpr b157_247) h252⟩) (nI_sle (by omega) b96_231) (Or.inr b106_233)
                      · skip
                        refine st_8_3_i_i (pc := 183) dX9_mayStand_183 ?_
                        refine inc_8_5_1_i (pc := 184) dX9_mayStand_184 ?_
                        have r255 : inR ((nI j92) + 1) 1 5 := inR_add (show inR (nI j92) 0 4 from hrg92) (show inR 1 1 1 from (inR_self _)) (by decide) (by decide)
                        have e256 := ti_add (l := 1) (h := 5) (show inR (nI j92) 0 4 from hrg92) (show inR 1 1 1 from (inR_self _)) (by decide) (by decide)
                        refine R_goto (pc := 187) 92 dX9_mayStand_187 (by decide) ?_
                        rw [nI_1]
                        exact ih92 (j92 + 1) _ _ _ (by omega) (by omega) (show inR 0 0 1 from ⟨by decide, by decide⟩) (Or.inr ⟨rfl, Or.inr (o2_l (L := (LM σ c)) (hX92_0.resolve_right (fun e => absurd e.1 b100_232)).2.2 (Int32.not_lt.mpr b157_247) h252)⟩) (nI_sle (by omega) b96_231) (Or.inr b106_233)
                    · skip
                      refine R_iload (pc := 160) dX9_mayStand_160 rfl ?_
                      refine R_iconst (pc := 162) (v := 1) dX9_mayStand_162 (by decide) ?_
                      refine R_iadd (pc := 163) dX9_mayStand_163 ?_
                      have r257 : inR ((nI j92) + 1) 1 5 := inR_add (show inR (nI j92) 0 4 from hrg92) (show inR 1 1 1 from (inR_self _)) (by decide) (by decide)
                      have e258 := ti_add (l := 1) (h := 5) (show inR (nI j92) 0 4 from hrg92) (show inR 1 1 1 from (inR_self _)) (by decide) (by decide)
                      refine R_goto (pc := 164) 169 dX9_mayStand_164 (by decide) ?_
                      refine R_iadd (pc := 169) dX9_mayStand_169 ?_
                      have r259 : inR ((5 * c) + ((nI j92) + 1)) 1 100 := inR_add (show inR (5 * c) 0 95 from r243) (show inR ((nI j92) + 1) 1 5 from r257) (by decide) (by decide)
                      have e260 := ti_add (l := 1) (h := 100) (show inR (5 * c) 0 95 from r243) (show inR ((nI j92) + 1) 1 5 from r257) (by decide) (by decide)
                      have hx261 : vp_in ((5 * c) + ((nI j92) + 1)) 100 := (vp_ti (by have q0 := e235; have q1 := e237; have q2 := e240; have q3 := e244; have q4 := e246; have q5 := e258; have q6 := e260; have q7 := ti_nle b96_231; have q8 := ti_ne b100_232; have q9 := ti_nle b106_233; have q10 := ti_le b126_238; have q11 := ti_nle b157_247; have q12 := ti_in hc; have q13 := ti_in hk; have q14 := ti_in (iva_168 hI _ (lt_of_vp hx228)); have q15 := ti_in hg3_25; have q16 := ti_in hg3_92; have q17 := ti_in hrg92; have q18 := ti_in r243; have q19 := ti_in r257; have q20 := ti_in r239; have q21 := ti_in (iva_169 hI _ (lt_of_vp hx241)); have q22 := ti_in r259; have z0 : (0 : Int32).toInt = 0 := (by decide); have z1 : (1 : Int32).toInt = 1 := (by decide); have z2 : (100 : Int32).toInt = 100 := (by decide); have z3 : (168 : Int32).toInt = 168 := (by decide); have z4 : (19 : Int32).toInt = 19 := (by decide); have z5 : (4 : Int32).toInt = 4 := (by decide); have z6 : (5 : Int32).toInt = 5 := (by decide); have z7 : (63 : Int32).toInt = 63 := (by decide); have z8 : (7 : Int32).toInt = 7 := (by decide); have z9 : (95 : Int32).toInt = 95 := (by decide); omega) (by have q0 := e235; have q1 := e237; have q2 := e240; have q3 := e244; have q4 := e246; have q5 := e258; have q6 := e260; have q7 := ti_nle b96_231; have q8 := ti_ne b100_232; have q9 := ti_nle b106_233; have q10 := ti_le b126_238; have q11 := ti_nle b157_247; have q12 := ti_in hc; have q13 := ti_in hk; have q14 := ti_in (iva_168 hI _ (lt_of_vp hx228)); have q15 := ti_in hg3_25; have q16 := ti_in hg3_92; have q17 := ti_in hrg92; have q18 := ti_in r243; have q19 := ti_in r257; have q20 := ti_in r239; have q21 := ti_in (iva_169 hI _ (lt_of_vp hx241)); have q22 := ti_in r259; have z0 : (0 : Int32).toInt = 0 := (by decide); have z1 : (1 : Int32).toInt = 1 := (by decide); have z2 : (100 : Int32).toInt = 100 := (by decide); have z3 : (168 : Int32).toInt = 168 := (by decide); have z4 : (19 : Int32).toInt = 19 := (by decide); have z5 : (4 : Int32).toInt = 4 := (by decide); have z6 : (5 : Int32).toInt = 5 := (by decide); have z7 : (63 : Int32).toInt = 63 := (by decide); have z8 : (7 : Int32).toInt = 7 := (by decide); have z9 : (95 : Int32).toInt = 95 := (by decide); omega))
                      refine R_iaload (pc := 170) dX9_mayStand_170 (c_169 _) hx261 ?_
                      have hx262 : vp_in (σ.2.2.1 169 (Int32.toNatClampNeg ((5 * c) + ((nI j92) + 1)))) 8 := (vp_of_inR (iva_169 hI _ (lt_of_vp hx261)) (by decide))
                      refine R_iaload (pc := 171) dX9_mayStand_171 (c_167 _) hx262 ?_
                      refine st_8_7_i_i (pc := 172) dX9_mayStand_172 ?_
                      refine R_aload_n (pc := 174) dX9_mayStand_174 rfl rfl ?_
                      refine R_iload_n (pc := 175) dX9_mayStand_175 rfl rfl ?_
                      refine R_iload (pc := 176) dX9_mayStand_176 rfl ?_
                      refine R_iload (pc := 178) dX9_mayStand_178 rfl ?_
                      refine k_X9_242 (pc := 180) (ge_X9_isOrdered _ _ _ _ hI) rfl (c_140 _) (by decide) (Nat.le_refl _) (Nat.le_refl _) (Nat.le_of_ble_eq_true rfl) dX9_mayStand_180 (fun x w2 h => ?_)
                      rcases h with ⟨rfl, ⟨h263, rfl⟩ | ⟨h263, rfl⟩⟩
                      · skip
                        refine st_8_3_i_i (pc := 183) dX9_mayStand_183 ?_
                        refine inc_8_5_1_i (pc := 184) dX9_mayStand_184 ?_
                        have r264 : inR ((nI j92) + 1) 1 5 := inR_add (show inR (nI j92) 0 4 from hrg92) (show inR 1 1 1 from (inR_self _)) (by decide) (by decide)
                        have e265 := ti_add (l := 1) (h := 5) (show inR (nI j92) 0 4 from hrg92) (show inR 1 1 1 from (inR_self _)) (by decide) (by decide)
                        refine R_goto (pc := 187) 92 dX9_mayStand_187 (by decide) ?_
                        rw [nI_1]
                        exact ih92 (j92 + 1) _ _ _ (by omega) (by omega) (show inR 1 0 1 from ⟨by decide, by decide⟩) (absurd b126_238 b157_247) (nI_sle (by omega) b96_231) (Or.inr b106_233)
                      · skip
                        refine st_8_3_i_i (pc := 183) dX9_mayStand_183 ?_
                        refine inc_8_5_1_i (pc := 184) dX9_mayStand_184 ?_
                        have r266 : inR ((nI j92) + 1) 1 5 := inR_add (show inR (nI j92) 0 4 from hrg92) (show inR 1 1 1 from (inR_self _)) (by decide) (by decide)
                        have e267 := ti_add (l := 1) (h := 5) (show inR (nI j92) 0 4 from hrg92) (show inR 1 1 1 from (inR_self _)) (by decide) (by decide)
                        refine R_goto (pc := 187) 92 dX9_mayStand_187 (by decide) ?_
                        rw [nI_1]
                        exact ih92 (j92 + 1) _ _ _ (by omega) (by omega) (show inR 0 0 1 from ⟨by decide, by decide⟩) (absurd b126_238 b157_247) (nI_sle (by omega) b96_231) (Or.inr b106_233)
                  · skip
                    refine R_iload (pc := 129) dX9_mayStand_129 rfl ?_
                    refine R_goto (pc := 131) 135 dX9_mayStand_131 (by decide) ?_
                    refine R_iadd (pc := 135) dX9_mayStand_135 ?_
                    have r268 : inR ((5 * c) + (nI j92)) 0 99 := inR_add (show inR (5 * c) 0 95 from r234) (show inR (nI j92) 0 4 from hrg92) (by decide) (by decide)
                    have e269 := ti_add (l := 0) (h := 99) (show inR (5 * c) 0 95 from r234) (show inR (nI j92) 0 4 from hrg92) (by decide) (by decide)
                    have hx270 : vp_in ((5 * c) + (nI j92)) 100 := (vp_of_inR r268 (by decide))
                    refine R_iaload (pc := 136) dX9_mayStand_136 (c_169 _) hx270 ?_
                    have hx271 : vp_in (σ.2.2.1 169 (Int32.toNatClampNeg ((5 * c) + (nI j92)))) 8 := (vp_of_inR (iva_169 hI _ (lt_of_vp hx270)) (by decide))
                    refine R_iaload (pc := 137) dX9_mayStand_137 (c_167 _) hx271 ?_
                    refine st_8_6_i_i (pc := 138) dX9_mayStand_138 ?_
                    refine R_aload_n (pc := 140) dX9_mayStand_140 rfl rfl ?_
                    refine g_X9_99 (pc := 141) (v := .ref 167) rfl dX9_mayStand_141 (c_140 _) rfl ?_
                    refine R_aload_n (pc := 144) dX9_mayStand_144 rfl rfl ?_
                    refine g_X9_105 (pc := 145) (v := .ref 169) rfl dX9_mayStand_145 (c_140 _) rfl ?_
                    refine R_iconst (pc := 148) (v := 5) dX9_mayStand_148 (by decide) ?_
                    refine R_iload_n (pc := 149) dX9_mayStand_149 rfl rfl ?_
                    refine R_imul (pc := 150) dX9_mayStand_150 ?_
                    have r272 : inR (5 * c) 0 95 := inR_mulc (c := 5) (l := 0) (h := 95) 5 (by decide) (show inR c 0 19 from hc) (by decide) (by decide)
                    have e273 := ti_mulc (c := 5) (l := 0) (h := 95) 5 (by decide) (show inR c 0 19 from hc) (by decide) (by decide)
                    refine R_iload (pc := 151) dX9_mayStand_151 rfl ?_
                    refine R_iconst (pc := 153) (v := 1) dX9_mayStand_153 (by decide) ?_
                    refine R_iadd (pc := 154) dX9_mayStand_154 ?_
                    have r274 : inR ((nI j92) + 1) 1 5 := inR_add (show inR (nI j92) 0 4 from hrg92) (show inR 1 1 1 from (inR_self _)) (by decide) (by decide)
                    have e275 := ti_add (l := 1) (h := 5) (show inR (nI j92) 0 4 from hrg92) (show inR 1 1 1 from (inR_self _)) (by decide) (by decide)
                    refine R_iload (pc := 155) dX9_mayStand_155 rfl ?_
                    refine R_icge (pc := 157) 167 dX9_mayStand_157 (by decide) (fun b157_276 => ?_) (fun b157_276 => ?_)
                    · skip
                      refine R_iload (pc := 167) dX9_mayStand_167 rfl ?_
                      refine R_iadd (pc := 169) dX9_mayStand_169 ?_
                      have r277 : inR ((5 * c) + (nI j92)) 0 99 := inR_add (show inR (5 * c) 0 95 from r272) (show inR (nI j92) 0 4 from hrg92) (by decide) (by decide)
                      have e278 := ti_add (l := 0) (h := 99) (show inR (5 * c) 0 95 from r272) (show inR (nI j92) 0 4 from hrg92) (by decide) (by decide)
                      have hx279 : vp_in ((5 * c) + (nI j92)) 100 := (vp_of_inR r277 (by decide))
                      refine R_iaload (pc := 170) dX9_mayStand_170 (c_169 _) hx279 ?_
                      have hx280 : vp_in (σ.2.2.1 169 (Int32.toNatClampNeg ((5 * c) + (nI j92)))) 8 := (vp_of_inR (iva_169 hI _ (lt_of_vp hx270)) (by decide))
                      refine R_iaload (pc := 171) dX9_mayStand_171 (c_167 _) hx280 ?_
                      refine st_8_7_i_i (pc := 172) dX9_mayStand_172 ?_
                      refine R_aload_n (pc := 174) dX9_mayStand_174 rfl rfl ?_
                      refine R_iload_n (pc := 175) dX9_mayStand_175 rfl rfl ?_
                      refine R_iload (pc := 176) dX9_mayStand_176 rfl ?_
                      refine R_iload (pc := 178) dX9_mayStand_178 rfl ?_
                      refine k_X9_242 (pc := 180) (ge_X9_isOrdered _ _ _ _ hI) rfl (c_140 _) (by decide) (Nat.le_refl _) (Nat.le_refl _) (Nat.le_of_ble_eq_true rfl) dX9_mayStand_180 (fun x w2 h => ?_)
                      rcases h with ⟨rfl, ⟨h281, rfl⟩ | ⟨h281, rfl⟩⟩
                      · skip
                        refine st_8_3_i_i (pc := 183) dX9_mayStand_183 ?_
                        refine inc_8_5_1_i (pc := 184) dX9_mayStand_184 ?_
                        have r282 : inR ((nI j92) + 1) 1 5 := inR_add (show inR (nI j92) 0 4 from hrg92) (show inR 1 1 1 from (inR_self _)) (by decide) (by decide)
                        have e283 := ti_add (l := 1) (h := 5) (show inR (nI j92) 0 4 from hrg92) (show inR 1 1 1 from (inR_self _)) (by decide) (by decide)
                        refine R_goto (pc := 187) 92 dX9_mayStand_187 (by decide) ?_
                        rw [nI_1]
                        exact ih92 (j92 + 1) _ _ _ (by omega) (by omega) (show inR 1 0 1 from ⟨by decide, by decide⟩) (absurd b157_276 b126_238) (nI_sle (by omega) b96_231) (Or.inr b106_233)
                      · skip
                        refine st_8_3_i_i (pc := 183) dX9_mayStand_183 ?_
                        refine inc_8_5_1_i (pc := 184) dX9_mayStand_184 ?_
                        have r284 : inR ((nI j92) + 1) 1 5 := inR_add (show inR (nI j92) 0 4 from hrg92) (show inR 1 1 1 from (inR_self _)) (by decide) (by decide)
                        have e285 := ti_add (l := 1) (h := 5) (show inR (nI j92) 0 4 from hrg92) (show inR 1 1 1 from (inR_self _)) (by decide) (by decide)
                        refine R_goto (pc := 187) 92 dX9_mayStand_187 (by decide) ?_
                        rw [nI_1]
                        exact ih92 (j92 + 1) _ _ _ (by omega) (by omega) (show inR 0 0 1 from ⟨by decide, by decide⟩) (absurd b157_276 b126_238) (nI_sle (by omega) b96_231) (Or.inr b106_233)
                    · skip
                      refine R_iload (pc := 160) dX9_mayStand_160 rfl ?_
                      refine R_iconst (pc := 162) (v := 1) dX9_mayStand_162 (by decide) ?_
                      refine R_iadd (pc := 163) dX9_mayStand_163 ?_
                      have r286 : inR ((nI j92) + 1) 1 5 := inR_add (show inR (nI j92) 0 4 from hrg92) (show inR 1 1 1 from (inR_self _)) (by decide) (by decide)
                      have e287 := ti_add (l := 1) (h := 5) (show inR (nI j92) 0 4 from hrg92) (show inR 1 1 1 from (inR_self _)) (by decide) (by decide)
                      refine R_goto (pc := 164) 169 dX9_mayStand_164 (by decide) ?_
                      refine R_iadd (pc := 169) dX9_mayStand_169 ?_
                      have r288 : inR ((5 * c) + ((nI j92) + 1)) 1 100 := inR_add (show inR (5 * c) 0 95 from r272) (show inR ((nI j92) + 1) 1 5 from r286) (by decide) (by decide)
                      have e289 := ti_add (l := 1) (h := 100) (show inR (5 * c) 0 95 from r272) (show inR ((nI j92) + 1) 1 5 from r286) (by decide) (by decide)
                      have hx290 : vp_in ((5 * c) + ((nI j92) + 1)) 100 := (vp_ti (by have q0 := e235; have q1 := e237; have q2 := e269; have q3 := e273; have q4 := e275; have q5 := e287; have q6 := e289; have q7 := ti_nle b96_231; have q8 := ti_ne b100_232; have q9 := ti_nle b106_233; have q10 := ti_nle b126_238; have q11 := ti_nle b157_276; have q12 := ti_in hc; have q13 := ti_in hk; have q14 := ti_in (iva_168 hI _ (lt_of_vp hx228)); have q15 := ti_in hg3_25; have q16 := ti_in hg3_92; have q17 := ti_in hrg92; have q18 := ti_in r272; have q19 := ti_in r286; have q20 := ti_in r268; have q21 := ti_in (iva_169 hI _ (lt_of_vp hx270)); have q22 := ti_in r288; have z0 : (0 : Int32).toInt = 0 := (by decide); have z1 : (1 : Int32).toInt = 1 := (by decide); have z2 : (100 : Int32).toInt = 100 := (by decide); have z3 : (168 : Int32).toInt = 168 := (by decide); have z4 : (19 : Int32).toInt = 19 := (by decide); have z5 : (4 : Int32).toInt = 4 := (by decide); have z6 : (5 : Int32).toInt = 5 := (by decide); have z7 : (63 : Int32).toInt = 63 := (by decide); have z8 : (7 : Int32).toInt = 7 := (by decide); have z9 : (95 : Int32).toInt = 95 := (by decide); have z10 : (99 : Int32).toInt = 99 := (by decide); omega) (by have q0 := e235; have q1 := e237; have q2 := e269; have q3 := e273; have q4 := e275; have q5 := e287; have q6 := e289; have q7 := ti_nle b96_231; have q8 := ti_ne b100_232; have q9 := ti_nle b106_233; have q10 := ti_nle b126_238; have q11 := ti_nle b157_276; have q12 := ti_in hc; have q13 := ti_in hk; have q14 := ti_in (iva_168 hI _ (lt_of_vp hx228)); have q15 := ti_in hg3_25; have q16 := ti_in hg3_92; have q17 := ti_in hrg92; have q18 := ti_in r272; have q19 := ti_in r286; have q20 := ti_in r268; have q21 := ti_in (iva_169 hI _ (lt_of_vp hx270)); have q22 := ti_in r288; have z0 : (0 : Int32).toInt = 0 := (by decide); have z1 : (1 : Int32).toInt = 1 := (by decide); have z2 : (100 : Int32).toInt = 100 := (by decide); have z3 : (168 : Int32).toInt = 168 := (by decide); have z4 : (19 : Int32).toInt = 19 := (by decide); have z5 : (4 : Int32).toInt = 4 := (by decide); have z6 : (5 : Int32).toInt = 5 := (by decide); have z7 : (63 : Int32).toInt = 63 := (by decide); have z8 : (7 : Int32).toInt = 7 := (by decide); have z9 : (95 : Int32).toInt = 95 := (by decide); have z10 : (99 : Int32).toInt = 99 := (by decide); omega))
                      refine R_iaload (pc := 170) dX9_mayStand_170 (c_169 _) hx290 ?_
                      have hx291 : vp_in (σ.2.2.1 169 (Int32.toNatClampNeg ((5 * c) + ((nI j92) + 1)))) 8 := (vp_of_inR (iva_169 hI _ (lt_of_vp hx290)) (by decide))
                      refine R_iaload (pc := 171) dX9_mayStand_171 (c_167 _) hx291 ?_
                      refine st_8_7_i_i (pc := 172) dX9_mayStand_172 ?_
                      refine R_aload_n (pc := 174) dX9_mayStand_174 rfl rfl ?_
                      refine R_iload_n (pc := 175) dX9_mayStand_175 rfl rfl ?_
                      refine R_iload (pc := 176) dX9_mayStand_176 rfl ?_
                      refine R_iload (pc := 178) dX9_mayStand_178 rfl ?_
                      refine k_X9_242 (pc := 180) (ge_X9_isOrdered _ _ _ _ hI) rfl (c_140 _) (by decide) (Nat.le_refl _) (Nat.le_refl _) (Nat.le_of_ble_eq_true rfl) dX9_mayStand_180 (fun x w2 h => ?_)
                      rcases h with ⟨rfl, ⟨h292, rfl⟩ | ⟨h292, rfl⟩⟩
                      · skip
                        refine st_8_3_i_i (pc := 183) dX9_mayStand_183 ?_
                        refine inc_8_5_1_i (pc := 184) dX9_mayStand_184 ?_
                        have r293 : inR ((nI j92) + 1) 1 5 := inR_add (show inR (nI j92) 0 4 from hrg92) (show inR 1 1 1 from (inR_self _)) (by decide) (by decide)
                        have e294 := ti_add (l := 1) (h := 5) (show inR (nI j92) 0 4 from hrg92) (show inR 1 1 1 from (inR_self _)) (by decide) (by decide)
                        refine R_goto (pc := 187) 92 dX9_mayStand_187 (by decide) ?_
                        rw [nI_1]
                        exact ih92 (j92 + 1) _ _ _ (by omega) (by omega) (show inR 1 0 1 from ⟨by decide, by decide⟩) (Or.inl ⟨rfl, (hX92_0.resolve_right (fun e => absurd e.1 b100_232)).2.1, o2_c (L := (LM σ c)) (hX92_0.resolve_right (fun e => absurd e.1 b100_232)).2.2 (Int32.not_le.mp b157_276) h292⟩) (nI_sle (by omega) b96_231) (Or.inr b106_233)
                      · skip
                        refine st_8_3_i_i (pc := 183) dX9_mayStand_183 ?_
                        refine inc_8_5_1_i (pc := 184) dX9_mayStand_184 ?_
                        have r295 : inR ((nI j92) + 1) 1 5 := inR_add (show inR (nI j92) 0 4 from hrg92) (show inR 1 1 1 from (inR_self _)) (by decide) (by decide)
                        have e296 := ti_add (l := 1) (h := 5) (show inR (nI j92) 0 4 from hrg92) (show inR 1 1 1 from (inR_self _)) (by decide) (by decide)
                        refine R_goto (pc := 187) 92 dX9_mayStand_187 (by decide) ?_
                        rw [nI_1]
                        exact ih92 (j92 + 1) _ _ _ (by omega) (by omega) (show inR 0 0 1 from ⟨by decide, by decide⟩) (Or.inr ⟨rfl, Or.inr (o2_c (L := (LM σ c)) (hX92_0.resolve_right (fun e => absurd e.1 b100_232)).2.2 (Int32.not_le.mp b157_276) h292)⟩) (nI_sle (by omega) b96_231) (Or.inr b106_233)
        exact HL92 5 0 _ _ _ (by omega) (by omega) hg3_25 (hM.imp (fun q => ⟨q.1, q.2, rfl⟩) (fun q => ⟨q.1, Or.inl q.2⟩)) (show (0 : Int32) ≤ (σ.2.2.1 168 (Int32.toNatClampNeg c)) from Int32.not_lt.mp (iva_168 hI _ (clamp19 hc)).1) (Or.inl rfl)
      | succ q ih25 =>
        intro j25 g3_25 g6_25 g7_25 hj hs25 hg3_25 hX25_0 hX25_1
        have hrg25 : inR (nI j25) 0 4 := inR_ix hs25 (show j25 < 5 by omega) (by decide) (by decide) (by decide)
        have hlt25 : j25 < 5 := by omega
        refine R_iload (pc := 25) dX9_mayStand_25 rfl ?_
        refine R_iload (pc := 27) dX9_mayStand_27 rfl ?_
        refine R_icge (pc := 29) 89 dX9_mayStand_29 (by decide) (fun b29_297 => ?_) (fun b29_297 => ?_)
        · skip
          refine R_iconst (pc := 89) (v := 0) dX9_mayStand_89 (by decide) ?_
          refine st_8_5_i_i (pc := 90) dX9_mayStand_90 ?_
          have hM : g3_25 = 1 ∧ l1B (σ.2.1 14034) k (LM σ c) (Int32.toNatClampNeg (σ.2.2.1 168 (Int32.toNatClampNeg c))) = true ∨ g3_25 = 0 ∧ l1B (σ.2.1 14034) k (LM σ c) (Int32.toNatClampNeg (σ.2.2.1 168 (Int32.toNatClampNeg c))) = false := by rw [show (Int32.toNatClampNeg (σ.2.2.1 168 (Int32.toNatClampNeg c))) = j25 from (jn_of (by omega) (by first | exact nI_eqe hX25_1 (by assumption) | exact nI_eq5 hX25_1 (iva_168 hI _ (clamp19 hc))))]; exact hX25_0
          have HL92 : ∀ (q j92 : Nat) (g3_92 : Int32) (g6_92 : Option Value) (g7_92 : Option Value), j92 + q = 5 → 0 ≤ j92 → inR g3_92 0 1 → (g3_92 = 1 ∧ l1B (σ.2.1 14034) k (LM σ c) (Int32.toNatClampNeg (σ.2.2.1 168 (Int32.toNatClampNeg c))) = true ∧ o2B k (LM σ c) (σ.2.2.1 168 (Int32.toNatClampNeg c)) j92 = true ∨ g3_92 = 0 ∧ (l1B (σ.2.1 14034) k (LM σ c) (Int32.toNatClampNeg (σ.2.2.1 168 (Int32.toNatClampNeg c))) = false ∨ o2B k (LM σ c) (σ.2.2.1 168 (Int32.toNatClampNeg c)) j92 = false)) → nI j92 ≤ (σ.2.2.1 168 (Int32.toNatClampNeg c)) → (j92 = 0 ∨ ¬ (σ.2.2.1 168 (Int32.toNatClampNeg c)) ≤ 1) → R G l yX9_mayStand cX9_mayStand 8 (some .boolean) 2 0 0 (QI (fun x w2 => w2 = WW σ ∧ (msB (σ.2.1 14034) k (LM σ c) (σ.2.2.1 168 (Int32.toNatClampNeg c)) = true ∧ x = 1 ∨ msB (σ.2.1 14034) k (LM σ c) (σ.2.2.1 168 (Int32.toNatClampNeg c)) = false ∧ x = 0))) 92 [(some (.ref 140)), (some (.int c)), (some (.int k)), (some (.int g3_92)), (some (.int (σ.2.2.1 168 (Int32.toNatClampNeg c)))), (some (.int (nI j92))), g6_92, g7_92] [] (WW σ) 0 0 := by
            intro q
            induction q with
            | zero =>
              intro j92 g3_92 g6_92 g7_92 hj hs92 hg3_92 hX92_0 hX92_1 hX92_2
              obtain rfl : j92 = 5 := by omega
              refine R_iload (pc := 92) dX9_mayStand_92 rfl ?_
              refine R_iload (pc := 94) dX9_mayStand_94 rfl ?_
              refine R_icge (pc := 96) 190 dX9_mayStand_96 (by decide) (fun _ => ?_) (fun h => absurd (Int32.not_lt.mp (inR_up (iva_168 hI _ (lt_of_vp hx228)) (Int32.le_refl _) (by decide)).2) h)
              refine R_iload_n (pc := 190) dX9_mayStand_190 rfl rfl ?_
              exact R_iret (pc := 191) dX9_mayStand_191 rfl (nar01 hg3_92) (Nat.zero_le _) (Nat.zero_le _) ⟨_, rfl, rfl, hX92_0.elim (fun q => Or.inl ⟨ms_t2 q.2.1 (by rw [(show (Int32.toNatClampNeg (σ.2.2.1 168 (Int32.toNatClampNeg c))) = 5 from jn_of (by omega) (by first | exact nI_eqe hX92_1 (by assumption) | exact nI_eq5 hX92_1 (iva_168 hI _ (clamp19 hc))))]; exact q.2.2), q.1⟩) (fun q => Or.inr ⟨ms_f q.2 hX92_2 (by rw [(show (Int32.toNatClampNeg (σ.2.2.1 168 (Int32.toNatClampNeg c))) = 5 from jn_of (by omega) (by first | exact nI_eqe hX92_1 (by assumption) | exact nI_eq5 hX92_1 (iva_168 hI _ (clamp19 hc))))]; exact Nat.le_refl _), q.1⟩)⟩
            | succ q ih92 =>
              intro j92 g3_92 g6_92 g7_92 hj hs92 hg3_92 hX92_0 hX92_1 hX92_2
              have hrg92 : inR (nI j92) 0 4 := inR_ix hs92 (show j92 < 5 by omega) (by decide) (by decide) (by decide)
              have hlt92 : j92 < 5 := by omega
              refine R_iload (pc := 92) dX9_mayStand_92 rfl ?_
              refine R_iload (pc := 94) dX9_mayStand_94 rfl ?_
              refine R_icge (pc := 96) 190 dX9_mayStand_96 (by decide) (fun b96_299 => ?_) (fun b96_299 => ?_)
              · skip
                refine R_iload_n (pc := 190) dX9_mayStand_190 rfl rfl ?_
                exact R_iret (pc := 191) dX9_mayStand_191 rfl (nar01 hg3_92) (Nat.zero_le _) (Nat.zero_le _) ⟨_, rfl, rfl, hX92_0.elim (fun q => Or.inl ⟨ms_t2 q.2.1 (by rw [(show (Int32.toNatClampNeg (σ.2.2.1 168 (Int32.toNatClampNeg c))) = j92 from jn_of (by omega) (by first | exact nI_eqe hX92_1 (by assumption) | exact nI_eq5 hX92_1 (iva_168 hI _ (clamp19 hc))))]; exact q.2.2), q.1⟩) (fun q => Or.inr ⟨ms_f q.2 hX92_2 (by rw [(show (Int32.toNatClampNeg (σ.2.2.1 168 (Int32.toNatClampNeg c))) = j92 from jn_of (by omega) (by first | exact nI_eqe hX92_1 (by assumption) | exact nI_eq5 hX92_1 (iva_168 hI _ (clamp19 hc))))]; exact Nat.le_refl _), q.1⟩)⟩
              · skip
                refine R_iload_n (pc := 99) dX9_mayStand_99 rfl rfl ?_
                refine R_ifeq (pc := 100) 190 dX9_mayStand_100 (by decide) (fun b100_300 => ?_) (fun b100_300 => ?_)
                · skip
                  refine R_iload_n (pc := 190) dX9_mayStand_190 rfl rfl ?_
                  exact R_iret (pc := 191) dX9_mayStand_191 rfl (nar01 hg3_92) (Nat.zero_le _) (Nat.zero_le _) ⟨_, rfl, rfl, Or.inr ⟨(by have q := (hX92_0.resolve_left (fun e => absurd (e.1.symm.trans b100_300) (by decide))).2; exact ms_f q hX92_2 (Nat.le_of_succ_le (nI_slt (by omega) b96_299))), b100_300⟩⟩
                · skip
                  refine R_iload (pc := 103) dX9_mayStand_103 rfl ?_
                  refine R_iconst (pc := 105) (v := 1) dX9_mayStand_105 (by decide) ?_
                  refine R_icle (pc := 106) 190 dX9_mayStand_106 (by decide) (fun b106_301 => ?_) (fun b106_301 => ?_)
                  · skip
                    refine R_iload_n (pc := 190) dX9_mayStand_190 rfl rfl ?_
                    exact R_iret (pc := 191) dX9_mayStand_191 rfl (nar01 hg3_92) (Nat.zero_le _) (Nat.zero_le _) ⟨_, rfl, rfl, hX92_0.elim (fun q => Or.inl ⟨ms_t1 q.2.1 b106_301, q.1⟩) (fun q => Or.inr ⟨ms_f1 q.2 hX92_2 b106_301, q.1⟩)⟩
                  · skip
                    refine R_aload_n (pc := 109) dX9_mayStand_109 rfl rfl ?_
                    refine g_X9_99 (pc := 110) (v := .ref 167) rfl dX9_mayStand_110 (c_140 _) rfl ?_
                    refine R_aload_n (pc := 113) dX9_mayStand_113 rfl rfl ?_
                    refine g_X9_105 (pc := 114) (v := .ref 169) rfl dX9_mayStand_114 (c_140 _) rfl ?_
                    refine R_iconst (pc := 117) (v := 5) dX9_mayStand_117 (by decide) ?_
                    refine R_iload_n (pc := 118) dX9_mayStand_118 rfl rfl ?_
                    refine R_imul (pc := 119) dX9_mayStand_119 ?_
                    have r302 : inR (5 * c) 0 95 := inR_mulc (c := 5) (l := 0) (h := 95) 5 (by decide) (show inR c 0 19 from hc) (by decide) (by decide)
                    have e303 := ti_mulc (c := 5) (l := 0) (h := 95) 5 (by decide) (show inR c 0 19 from hc) (by decide) (by decide)
                    refine R_iload (pc := 120) dX9_mayStand_120 rfl ?_
                    refine R_iconst (pc := 122) (v := 1) dX9_mayStand_122 (by decide) ?_
                    refine R_iadd (pc := 123) dX9_mayStand_123 ?_
                    have r304 : inR ((nI j92) + 1) 1 5 := inR_add (show inR (nI j92) 0 4 from hrg92) (show inR 1 1 1 from (inR_self _)) (by decide) (by decide)
                    have e305 := ti_add (l := 1) (h := 5) (show inR (nI j92) 0 4 from hrg92) (show inR 1 1 1 from (inR_self _)) (by decide) (by decide)
                    refine R_iload (pc := 124) dX9_mayStand_124 rfl ?_
                    refine R_icge (pc := 126) 134 dX9_mayStand_126 (by decide) (fun b126_306 => ?_) (fun b126_306 => ?_)
                    · skip
                      refine R_iconst (pc := 134) (v := 0) dX9_mayStand_134 (by decide) ?_
                      refine R_iadd (pc := 135) dX9_mayStand_135 ?_
                      have r307 : inR ((5 * c) + 0) 0 95 := inR_add (show inR (5 * c) 0 95 from r302) (show inR 0 0 0 from (inR_self _)) (by decide) (by decide)
                      have e308 := ti_add (l := 0) (h := 95) (show inR (5 * c) 0 95 from r302) (show inR 0 0 0 from (inR_self _)) (by decide) (by decide)
                      have hx309 : vp_in ((5 * c) + 0) 100 := (vp_of_inR r307 (by decide))
                      refine R_iaload (pc := 136) dX9_mayStand_136 (c_169 _) hx309 ?_
                      have hx310 : vp_in (σ.2.2.1 169 (Int32.toNatClampNeg ((5 * c) + 0))) 8 := (vp_of_inR (iva_169 hI _ (lt_of_vp hx309)) (by decide))
                      refine R_iaload (pc := 137) dX9_mayStand_137 (c_167 _) hx310 ?_
                      refine st_8_6_i_i (pc := 138) dX9_mayStand_138 ?_
                      refine R_aload_n (pc := 140) dX9_mayStand_140 rfl rfl ?_
                      refine g_X9_99 (pc := 141) (v := .ref 167) rfl dX9_mayStand_141 (c_140 _) rfl ?_
                      refine R_aload_n (pc := 144) dX9_mayStand_144 rfl rfl ?_
                      refine g_X9_105 (pc := 145) (v := .ref 169) rfl dX9_mayStand_145 (c_140 _) rfl ?_
                      refine R_iconst (pc := 148) (v := 5) dX9_mayStand_148 (by decide) ?_
                      refine R_iload_n (pc := 149) dX9_mayStand_149 rfl rfl ?_
                      refine R_imul (pc := 150) dX9_mayStand_150 ?_
                      have r311 : inR (5 * c) 0 95 := inR_mulc (c := 5) (l := 0) (h := 95) 5 (by decide) (show inR c 0 19 from hc) (by decide) (by decide)
                      have e312 := ti_mulc (c := 5) (l := 0) (h := 95) 5 (by decide) (show inR c 0 19 from hc) (by decide) (by decide)
                      refine R_iload (pc := 151) dX9_mayStand_151 rfl ?_
                      refine R_iconst (pc := 153) (v := 1) dX9_mayStand_153 (by decide) ?_
                      refine R_iadd (pc := 154) dX9_mayStand_154 ?_
                      have r313 : inR ((nI j92) + 1) 1 5 := inR_add (show inR (nI j92) 0 4 from hrg92) (show inR 1 1 1 from (inR_self _)) (by decide) (by decide)
                      have e314 := ti_add (l := 1) (h := 5) (show inR (nI j92) 0 4 from hrg92) (show inR 1 1 1 from (inR_self _)) (by decide) (by decide)
                      refine R_iload (pc := 155) dX9_mayStand_155 rfl ?_
                      refine R_icge (pc := 157) 167 dX9_mayStand_157 (by decide) (fun b157_315 => ?_) (fun b157_315 => ?_)
                      · skip
                        refine R_iload (pc := 167) dX9_mayStand_167 rfl ?_
                        refine R_iadd (pc := 169) dX9_mayStand_169 ?_
                        have r316 : inR ((5 * c) + (nI j92)) 0 99 := inR_add (show inR (5 * c) 0 95 from r311) (show inR (nI j92) 0 4 from hrg92) (by decide) (by decide)
                        have e317 := ti_add (l := 0) (h := 99) (show inR (5 * c) 0 95 from r311) (show inR (nI j92) 0 4 from hrg92) (by decide) (by decide)
                        have hx318 : vp_in ((5 * c) + (nI j92)) 100 := (vp_of_inR r316 (by decide))
                        refine R_iaload (pc := 170) dX9_mayStand_170 (c_169 _) hx318 ?_
                        have hx319 : vp_in (σ.2.2.1 169 (Int32.toNatClampNeg ((5 * c) + (nI j92)))) 8 := (vp_of_inR (iva_169 hI _ (lt_of_vp hx318)) (by decide))
                        refine R_iaload (pc := 171) dX9_mayStand_171 (c_167 _) hx319 ?_
                        refine st_8_7_i_i (pc := 172) dX9_mayStand_172 ?_
                        refine R_aload_n (pc := 174) dX9_mayStand_174 rfl rfl ?_
                        refine R_iload_n (pc := 175) dX9_mayStand_175 rfl rfl ?_
                        refine R_iload (pc := 176) dX9_mayStand_176 rfl ?_
                        refine R_iload (pc := 178) dX9_mayStand_178 rfl ?_
                        refine k_X9_242 (pc := 180) (ge_X9_isOrdered _ _ _ _ hI) rfl (c_140 _) (by decide) (Nat.le_refl _) (Nat.le_refl _) (Nat.le_of_ble_eq_true rfl) dX9_mayStand_180 (fun x w2 h => ?_)
                        rcases h with ⟨rfl, ⟨h320, rfl⟩ | ⟨h320, rfl⟩⟩
                        · skip
                          refine st_8_3_i_i (pc := 183) dX9_mayStand_183 ?_
                          refine inc_8_5_1_i (pc := 184) dX9_mayStand_184 ?_
                          have r321 : inR ((nI j92) + 1) 1 5 := inR_add (show inR (nI j92) 0 4 from hrg92) (show inR 1 1 1 from (inR_self _)) (by decide) (by decide)
                          have e322 := ti_add (l := 1) (h := 5) (show inR (nI j92) 0 4 from hrg92) (show inR 1 1 1 from (inR_self _)) (by decide) (by decide)
                          refine R_goto (pc := 187) 92 dX9_mayStand_187 (by decide) ?_
                          rw [nI_1]
                          exact ih92 (j92 + 1) _ _ _ (by omega) (by omega) (show inR 1 0 1 from ⟨by decide, by decide⟩) (Or.inl ⟨rfl, (hX92_0.resolve_right (fun e => absurd e.1 b100_300)).2.1, o2_l (L := (LM σ c)) (hX92_0.resolve_right (fun e => absurd e.1 b100_300)).2.2 (Int32.not_lt.mpr b157_315) h320⟩) (nI_sle (by omega) b96_299) (Or.inr b106_301)
                        · skip
                          refine st_8_3_i_i (pc := 183) dX9_mayStand_183 ?_
                          refine inc_8_5_1_i (pc := 184) dX9_mayStand_184 ?_
                          have r323 : inR ((nI j92) + 1) 1 5 := inR_add (show inR (nI j92) 0 4 from hrg92) (show inR 1 1 1 from (inR_self _)) (by decide) (by decide)
                          have e324 := ti_add (l := 1) (h := 5) (show inR (nI j92) 0 4 from hrg92) (show inR 1 1 1 from (inR_self _)) (by decide) (by decide)
                          refine R_goto (pc := 187) 92 dX9_mayStand_187 (by decide) ?_
                          rw [nI_1]
                          exact ih92 (j92 + 1) _ _ _ (by omega) (by omega) (show inR 0 0 1 from ⟨by decide, by decide⟩) (Or.inr ⟨rfl, Or.inr (o2_l (L := (LM σ c)) (hX92_0.resolve_right (fun e => absurd e.1 b100_300)).2.2 (Int32.not_lt.mpr b157_315) h320)⟩) (nI_sle (by omega) b96_299) (Or.inr b106_301)
                      · skip
                        refine R_iload (pc := 160) dX9_mayStand_160 rfl ?_
                        refine R_iconst (pc := 162) (v := 1) dX9_mayStand_162 (by decide) ?_
                        refine R_iadd (pc := 163) dX9_mayStand_163 ?_
                        have r325 : inR ((nI j92) + 1) 1 5 := inR_add (show inR (nI j92) 0 4 from hrg92) (show inR 1 1 1 from (inR_self _)) (by decide) (by decide)
                        have e326 := ti_add (l := 1) (h := 5) (show inR (nI j92) 0 4 from hrg92) (show inR 1 1 1 from (inR_self _)) (by decide) (by decide)
                        refine R_goto (pc := 164) 169 dX9_mayStand_164 (by decide) ?_
                        refine R_iadd (pc := 169) dX9_mayStand_169 ?_
                        have r327 : inR ((5 * c) + ((nI j92) + 1)) 1 100 := inR_add (show inR (5 * c) 0 95 from r311) (show inR ((nI j92) + 1) 1 5 from r325) (by decide) (by decide)
                        have e328 := ti_add (l := 1) (h := 100) (show inR (5 * c) 0 95 from r311) (show inR ((nI j92) + 1) 1 5 from r325) (by decide) (by decide)
                        have hx329 : vp_in ((5 * c) + ((nI j92) + 1)) 100 := (vp_ti (by have q0 := e303; have q1 := e305; have q2 := e308; have q3 := e312; have q4 := e314; have q5 := e326; have q6 := e328; have q7 := ti_le b29_297; have q8 := ti_nle b96_299; have q9 := ti_ne b100_300; have q10 := ti_nle b106_301; have q11 := ti_le b126_306; have q12 := ti_nle b157_315; have q13 := ti_in hc; have q14 := ti_in hk; have q15 := ti_in (iva_168 hI _ (lt_of_vp hx228)); have q16 := ti_in hg3_25; have q17 := ti_in hrg25; have q18 := ti_in hg3_92; have q19 := ti_in hrg92; have q20 := ti_in r311; have q21 := ti_in r325; have q22 := ti_in r307; have q23 := ti_in (iva_169 hI _ (lt_of_vp hx309)); have q24 := ti_in r327; have z0 : (0 : Int32).toInt = 0 := (by decide); have z1 : (1 : Int32).toInt = 1 := (by decide); have z2 : (100 : Int32).toInt = 100 := (by decide); have z3 : (168 : Int32).toInt = 168 := (by decide); have z4 : (19 : Int32).toInt = 19 := (by decide); have z5 : (4 : Int32).toInt = 4 := (by decide); have z6 : (5 : Int32).toInt = 5 := (by decide); have z7 : (63 : Int32).toInt = 63 := (by decide); have z8 : (7 : Int32).toInt = 7 := (by decide); have z9 : (95 : Int32).toInt = 95 := (by decide); omega) (by have q0 := e303; have q1 := e305; have q2 := e308; have q3 := e312; have q4 := e314; have q5 := e326; have q6 := e328; have q7 := ti_le b29_297; have q8 := ti_nle b96_299; have q9 := ti_ne b100_300; have q10 := ti_nle b106_301; have q11 := ti_le b126_306; have q12 := ti_nle b157_315; have q13 := ti_in hc; have q14 := ti_in hk; have q15 := ti_in (iva_168 hI _ (lt_of_vp hx228)); have q16 := ti_in hg3_25; have q17 := ti_in hrg25; have q18 := ti_in hg3_92; have q19 := ti_in hrg92; have q20 := ti_in r311; have q21 := ti_in r325; have q22 := ti_in r307; have q23 := ti_in (iva_169 hI _ (lt_of_vp hx309)); have q24 := ti_in r327; have z0 : (0 : Int32).toInt = 0 := (by decide); have z1 : (1 : Int32).toInt = 1 := (by decide); have z2 : (100 : Int32).toInt = 100 := (by decide); have z3 : (168 : Int32).toInt = 168 := (by decide); have z4 : (19 : Int32).toInt = 19 := (by decide); have z5 : (4 : Int32).toInt = 4 := (by decide); have z6 : (5 : Int32).toInt = 5 := (by decide); have z7 : (63 : Int32).toInt = 63 := (by decide); have z8 : (7 : Int32).toInt = 7 := (by decide); have z9 : (95 : Int32).toInt = 95 := (by decide); omega))
                        refine R_iaload (pc := 170) dX9_mayStand_170 (c_169 _) hx329 ?_
                        have hx330 : vp_in (σ.2.2.1 169 (Int32.toNatClampNeg ((5 * c) + ((nI j92) + 1)))) 8 := (vp_of_inR (iva_169 hI _ (lt_of_vp hx329)) (by decide))
                        refine R_iaload (pc := 171) dX9_mayStand_171 (c_167 _) hx330 ?_
                        refine st_8_7_i_i (pc := 172) dX9_mayStand_172 ?_
                        refine R_aload_n (pc := 174) dX9_mayStand_174 rfl rfl ?_
                        refine R_iload_n (pc := 175) dX9_mayStand_175 rfl rfl ?_
                        refine R_iload (pc := 176) dX9_mayStand_176 rfl ?_
                        refine R_iload (pc := 178) dX9_mayStand_178 rfl ?_
                        refine k_X9_242 (pc := 180) (ge_X9_isOrdered _ _ _ _ hI) rfl (c_140 _) (by decide) (Nat.le_refl _) (Nat.le_refl _) (Nat.le_of_ble_eq_true rfl) dX9_mayStand_180 (fun x w2 h => ?_)
                        rcases h with ⟨rfl, ⟨h331, rfl⟩ | ⟨h331, rfl⟩⟩
                        · skip
                          refine st_8_3_i_i (pc := 183) dX9_mayStand_183 ?_
                          refine inc_8_5_1_i (pc := 184) dX9_mayStand_184 ?_
                          have r332 : inR ((nI j92) + 1) 1 5 := inR_add (show inR (nI j92) 0 4 from hrg92) (show inR 1 1 1 from (inR_self _)) (by decide) (by decide)
                          have e333 := ti_add (l := 1) (h := 5) (show inR (nI j92) 0 4 from hrg92) (show inR 1 1 1 from (inR_self _)) (by decide) (by decide)
                          refine R_goto (pc := 187) 92 dX9_mayStand_187 (by decide) ?_
                          rw [nI_1]
                          exact ih92 (j92 + 1) _ _ _ (by omega) (by omega) (show inR 1 0 1 from ⟨by decide, by decide⟩) (absurd b126_306 b157_315) (nI_sle (by omega) b96_299) (Or.inr b106_301)
                        · skip
                          refine st_8_3_i_i (pc := 183) dX9_mayStand_183 ?_
                          refine inc_8_5_1_i (pc := 184) dX9_mayStand_184 ?_
                          have r334 : inR ((nI j92) + 1) 1 5 := inR_add (show inR (nI j92) 0 4 from hrg92) (show inR 1 1 1 from (inR_self _)) (by decide) (by decide)
                          have e335 := ti_add (l := 1) (h := 5) (show inR (nI j92) 0 4 from hrg92) (show inR 1 1 1 from (inR_self _)) (by decide) (by decide)
                          refine R_goto (pc := 187) 92 dX9_mayStand_187 (by decide) ?_
                          rw [nI_1]
                          exact ih92 (j92 + 1) _ _ _ (by omega) (by omega) (show inR 0 0 1 from ⟨by decide, by decide⟩) (absurd b126_306 b157_315) (nI_sle (by omega) b96_299) (Or.inr b106_301)
                    · skip
                      refine R_iload (pc := 129) dX9_mayStand_129 rfl ?_
                      refine R_goto (pc := 131) 135 dX9_mayStand_131 (by decide) ?_
                      refine R_iadd (pc := 135) dX9_mayStand_135 ?_
                      have r336 : inR ((5 * c) + (nI j92)) 0 99 := inR_add (show inR (5 * c) 0 95 from r302) (show inR (nI j92) 0 4 from hrg92) (by decide) (by decide)
                      have e337 := ti_add (l := 0) (h := 99) (show inR (5 * c) 0 95 from r302) (show inR (nI j92) 0 4 from hrg92) (by decide) (by decide)
                      have hx338 : vp_in ((5 * c) + (nI j92)) 100 := (vp_of_inR r336 (by decide))
                      refine R_iaload (pc := 136) dX9_mayStand_136 (c_169 _) hx338 ?_
                      have hx339 : vp_in (σ.2.2.1 169 (Int32.toNatClampNeg ((5 * c) + (nI j92)))) 8 := (vp_of_inR (iva_169 hI _ (lt_of_vp hx338)) (by decide))
                      refine R_iaload (pc := 137) dX9_mayStand_137 (c_167 _) hx339 ?_
                      refine st_8_6_i_i (pc := 138) dX9_mayStand_138 ?_
                      refine R_aload_n (pc := 140) dX9_mayStand_140 rfl rfl ?_
                      refine g_X9_99 (pc := 141) (v := .ref 167) rfl dX9_mayStand_141 (c_140 _) rfl ?_
                      refine R_aload_n (pc := 144) dX9_mayStand_144 rfl rfl ?_
                      refine g_X9_105 (pc := 145) (v := .ref 169) rfl dX9_mayStand_145 (c_140 _) rfl ?_
                      refine R_iconst (pc := 148) (v := 5) dX9_mayStand_148 (by decide) ?_
                      refine R_iload_n (pc := 149) dX9_mayStand_149 rfl rfl ?_
                      refine R_imul (pc := 150) dX9_mayStand_150 ?_
                      have r340 : inR (5 * c) 0 95 := inR_mulc (c := 5) (l := 0) (h := 95) 5 (by decide) (show inR c 0 19 from hc) (by decide) (by decide)
                      have e341 := ti_mulc (c := 5) (l := 0) (h := 95) 5 (by decide) (show inR c 0 19 from hc) (by decide) (by decide)
                      refine R_iload (pc := 151) dX9_mayStand_151 rfl ?_
                      refine R_iconst (pc := 153) (v := 1) dX9_mayStand_153 (by decide) ?_
                      refine R_iadd (pc := 154) dX9_mayStand_154 ?_
                      have r342 : inR ((nI j92) + 1) 1 5 := inR_add (show inR (nI j92) 0 4 from hrg92) (show inR 1 1 1 from (inR_self _)) (by decide) (by decide)
                      have e343 := ti_add (l := 1) (h := 5) (show inR (nI j92) 0 4 from hrg92) (show inR 1 1 1 from (inR_self _)) (by decide) (by decide)
                      refine R_iload (pc := 155) dX9_mayStand_155 rfl ?_
                      refine R_icge (pc := 157) 167 dX9_mayStand_157 (by decide) (fun b157_344 => ?_) (fun b157_344 => ?_)
                      · skip
                        refine R_iload (pc := 167) dX9_mayStand_167 rfl ?_
                        refine R_iadd (pc := 169) dX9_mayStand_169 ?_
                        have r345 : inR ((5 * c) + (nI j92)) 0 99 := inR_add (show inR (5 * c) 0 95 from r340) (show inR (nI j92) 0 4 from hrg92) (by decide) (by decide)
                        have e346 := ti_add (l := 0) (h := 99) (show inR (5 * c) 0 95 from r340) (show inR (nI j92) 0 4 from hrg92) (by decide) (by decide)
                        have hx347 : vp_in ((5 * c) + (nI j92)) 100 := (vp_of_inR r345 (by decide))
                        refine R_iaload (pc := 170) dX9_mayStand_170 (c_169 _) hx347 ?_
                        have hx348 : vp_in (σ.2.2.1 169 (Int32.toNatClampNeg ((5 * c) + (nI j92)))) 8 := (vp_of_inR (iva_169 hI _ (lt_of_vp hx338)) (by decide))
                        refine R_iaload (pc := 171) dX9_mayStand_171 (c_167 _) hx348 ?_
                        refine st_8_7_i_i (pc := 172) dX9_mayStand_172 ?_
                        refine R_aload_n (pc := 174) dX9_mayStand_174 rfl rfl ?_
                        refine R_iload_n (pc := 175) dX9_mayStand_175 rfl rfl ?_
                        refine R_iload (pc := 176) dX9_mayStand_176 rfl ?_
                        refine R_iload (pc := 178) dX9_mayStand_178 rfl ?_
                        refine k_X9_242 (pc := 180) (ge_X9_isOrdered _ _ _ _ hI) rfl (c_140 _) (by decide) (Nat.le_refl _) (Nat.le_refl _) (Nat.le_of_ble_eq_true rfl) dX9_mayStand_180 (fun x w2 h => ?_)
                        rcases h with ⟨rfl, ⟨h349, rfl⟩ | ⟨h349, rfl⟩⟩
                        · skip
                          refine st_8_3_i_i (pc := 183) dX9_mayStand_183 ?_
                          refine inc_8_5_1_i (pc := 184) dX9_mayStand_184 ?_
                          have r350 : inR ((nI j92) + 1) 1 5 := inR_add (show inR (nI j92) 0 4 from hrg92) (show inR 1 1 1 from (inR_self _)) (by decide) (by decide)
                          have e351 := ti_add (l := 1) (h := 5) (show inR (nI j92) 0 4 from hrg92) (show inR 1 1 1 from (inR_self _)) (by decide) (by decide)
                          refine R_goto (pc := 187) 92 dX9_mayStand_187 (by decide) ?_
                          rw [nI_1]
                          exact ih92 (j92 + 1) _ _ _ (by omega) (by omega) (show inR 1 0 1 from ⟨by decide, by decide⟩) (absurd b157_344 b126_306) (nI_sle (by omega) b96_299) (Or.inr b106_301)
                        · skip
                          refine st_8_3_i_i (pc := 183) dX9_mayStand_183 ?_
                          refine inc_8_5_1_i (pc := 184) dX9_mayStand_184 ?_
                          have r352 : inR ((nI j92) + 1) 1 5 := inR_add (show inR (nI j92) 0 4 from hrg92) (show inR 1 1 1 from (inR_self _)) (by decide) (by decide)
                          have e353 := ti_add (l := 1) (h := 5) (show inR (nI j92) 0 4 from hrg92) (show inR 1 1 1 from (inR_self _)) (by decide) (by decide)
                          refine R_goto (pc := 187) 92 dX9_mayStand_187 (by decide) ?_
                          rw [nI_1]
                          exact ih92 (j92 + 1) _ _ _ (by omega) (by omega) (show inR 0 0 1 from ⟨by decide, by decide⟩) (absurd b157_344 b126_306) (nI_sle (by omega) b96_299) (Or.inr b106_301)
                      · skip
                        refine R_iload (pc := 160) dX9_mayStand_160 rfl ?_
                        refine R_iconst (pc := 162) (v := 1) dX9_mayStand_162 (by decide) ?_
                        refine R_iadd (pc := 163) dX9_mayStand_163 ?_
                        have r354 : inR ((nI j92) + 1) 1 5 := inR_add (show inR (nI j92) 0 4 from hrg92) (show inR 1 1 1 from (inR_self _)) (by decide) (by decide)
                        have e355 := ti_add (l := 1) (h := 5) (show inR (nI j92) 0 4 from hrg92) (show inR 1 1 1 from (inR_self _)) (by decide) (by decide)
                        refine R_goto (pc := 164) 169 dX9_mayStand_164 (by decide) ?_
                        refine R_iadd (pc := 169) dX9_mayStand_169 ?_
                        have r356 : inR ((5 * c) + ((nI j92) + 1)) 1 100 := inR_add (show inR (5 * c) 0 95 from r340) (show inR ((nI j92) + 1) 1 5 from r354) (by decide) (by decide)
                        have e357 := ti_add (l := 1) (h := 100) (show inR (5 * c) 0 95 from r340) (show inR ((nI j92) + 1) 1 5 from r354) (by decide) (by decide)
                        have hx358 : vp_in ((5 * c) + ((nI j92) + 1)) 100 := (vp_ti (by have q0 := e303; have q1 := e305; have q2 := e337; have q3 := e341; have q4 := e343; have q5 := e355; have q6 := e357; have q7 := ti_le b29_297; have q8 := ti_nle b96_299; have q9 := ti_ne b100_300; have q10 := ti_nle b106_301; have q11 := ti_nle b126_306; have q12 := ti_nle b157_344; have q13 := ti_in hc; have q14 := ti_in hk; have q15 := ti_in (iva_168 hI _ (lt_of_vp hx228)); have q16 := ti_in hg3_25; have q17 := ti_in hrg25; have q18 := ti_in hg3_92; have q19 := ti_in hrg92; have q20 := ti_in r340; have q21 := ti_in r354; have q22 := ti_in r336; have q23 := ti_in (iva_169 hI _ (lt_of_vp hx338)); have q24 := ti_in r356; have z0 : (0 : Int32).toInt = 0 := (by decide); have z1 : (1 : Int32).toInt = 1 := (by decide); have z2 : (100 : Int32).toInt = 100 := (by decide); have z3 : (168 : Int32).toInt = 168 := (by decide); have z4 : (19 : Int32).toInt = 19 := (by decide); have z5 : (4 : Int32).toInt = 4 := (by decide); have z6 : (5 : Int32).toInt = 5 := (by decide); have z7 : (63 : Int32).toInt = 63 := (by decide); have z8 : (7 : Int32).toInt = 7 := (by decide); have z9 : (95 : Int32).toInt = 95 := (by decide); have z10 : (99 : Int32).toInt = 99 := (by decide); omega) (by have q0 := e303; have q1 := e305; have q2 := e337; have q3 := e341; have q4 := e343; have q5 := e355; have q6 := e357; have q7 := ti_le b29_297; have q8 := ti_nle b96_299; have q9 := ti_ne b100_300; have q10 := ti_nle b106_301; have q11 := ti_nle b126_306; have q12 := ti_nle b157_344; have q13 := ti_in hc; have q14 := ti_in hk; have q15 := ti_in (iva_168 hI _ (lt_of_vp hx228)); have q16 := ti_in hg3_25; have q17 := ti_in hrg25; have q18 := ti_in hg3_92; have q19 := ti_in hrg92; have q20 := ti_in r340; have q21 := ti_in r354; have q22 := ti_in r336; have q23 := ti_in (iva_169 hI _ (lt_of_vp hx338)); have q24 := ti_in r356; have z0 : (0 : Int32).toInt = 0 := (by decide); have z1 : (1 : Int32).toInt = 1 := (by decide); have z2 : (100 : Int32).toInt = 100 := (by decide); have z3 : (168 : Int32).toInt = 168 := (by decide); have z4 : (19 : Int32).toInt = 19 := (by decide); have z5 : (4 : Int32).toInt = 4 := (by decide); have z6 : (5 : Int32).toInt = 5 := (by decide); have z7 : (63 : Int32).toInt = 63 := (by decide); have z8 : (7 : Int32).toInt = 7 := (by decide); have z9 : (95 : Int32).toInt = 95 := (by decide); have z10 : (99 : Int32).toInt = 99 := (by decide); omega))
                        refine R_iaload (pc := 170) dX9_mayStand_170 (c_169 _) hx358 ?_
                        have hx359 : vp_in (σ.2.2.1 169 (Int32.toNatClampNeg ((5 * c) + ((nI j92) + 1)))) 8 := (vp_of_inR (iva_169 hI _ (lt_of_vp hx358)) (by decide))
                        refine R_iaload (pc := 171) dX9_mayStand_171 (c_167 _) hx359 ?_
                        refine st_8_7_i_i (pc := 172) dX9_mayStand_172 ?_
                        refine R_aload_n (pc := 174) dX9_mayStand_174 rfl rfl ?_
                        refine R_iload_n (pc := 175) dX9_mayStand_175 rfl rfl ?_
                        refine R_iload (pc := 176) dX9_mayStand_176 rfl ?_
                        refine R_iload (pc := 178) dX9_mayStand_178 rfl ?_
                        refine k_X9_242 (pc := 180) (ge_X9_isOrdered _ _ _ _ hI) rfl (c_140 _) (by decide) (Nat.le_refl _) (Nat.le_refl _) (Nat.le_of_ble_eq_true rfl) dX9_mayStand_180 (fun x w2 h => ?_)
                        rcases h with ⟨rfl, ⟨h360, rfl⟩ | ⟨h360, rfl⟩⟩
                        · skip
                          refine st_8_3_i_i (pc := 183) dX9_mayStand_183 ?_
                          refine inc_8_5_1_i (pc := 184) dX9_mayStand_184 ?_
                          have r361 : inR ((nI j92) + 1) 1 5 := inR_add (show inR (nI j92) 0 4 from hrg92) (show inR 1 1 1 from (inR_self _)) (by decide) (by decide)
                          have e362 := ti_add (l := 1) (h := 5) (show inR (nI j92) 0 4 from hrg92) (show inR 1 1 1 from (inR_self _)) (by decide) (by decide)
                          refine R_goto (pc := 187) 92 dX9_mayStand_187 (by decide) ?_
                          rw [nI_1]
                          exact ih92 (j92 + 1) _ _ _ (by omega) (by omega) (show inR 1 0 1 from ⟨by decide, by decide⟩) (Or.inl ⟨rfl, (hX92_0.resolve_right (fun e => absurd e.1 b100_300)).2.1, o2_c (L := (LM σ c)) (hX92_0.resolve_right (fun e => absurd e.1 b100_300)).2.2 (Int32.not_le.mp b157_344) h360⟩) (nI_sle (by omega) b96_299) (Or.inr b106_301)
                        · skip
                          refine st_8_3_i_i (pc := 183) dX9_mayStand_183 ?_
                          refine inc_8_5_1_i (pc := 184) dX9_mayStand_184 ?_
                          have r363 : inR ((nI j92) + 1) 1 5 := inR_add (show inR (nI j92) 0 4 from hrg92) (show inR 1 1 1 from (inR_self _)) (by decide) (by decide)
                          have e364 := ti_add (l := 1) (h := 5) (show inR (nI j92) 0 4 from hrg92) (show inR 1 1 1 from (inR_self _)) (by decide) (by decide)
                          refine R_goto (pc := 187) 92 dX9_mayStand_187 (by decide) ?_
                          rw [nI_1]
                          exact ih92 (j92 + 1) _ _ _ (by omega) (by omega) (show inR 0 0 1 from ⟨by decide, by decide⟩) (Or.inr ⟨rfl, Or.inr (o2_c (L := (LM σ c)) (hX92_0.resolve_right (fun e => absurd e.1 b100_300)).2.2 (Int32.not_le.mp b157_344) h360)⟩) (nI_sle (by omega) b96_299) (Or.inr b106_301)
          exact HL92 5 0 _ _ _ (by omega) (by omega) hg3_25 (hM.imp (fun q => ⟨q.1, q.2, rfl⟩) (fun q => ⟨q.1, Or.inl q.2⟩)) (show (0 : Int32) ≤ (σ.2.2.1 168 (Int32.toNatClampNeg c)) from Int32.not_lt.mp (iva_168 hI _ (clamp19 hc)).1) (Or.inl rfl)
        · skip
          refine R_iload_n (pc := 32) dX9_mayStand_32 rfl rfl ?_
          refine R_ifeq (pc := 33) 89 dX9_mayStand_33 (by decide) (fun b33_365 => ?_) (fun b33_365 => ?_)
          · skip
            refine R_iconst (pc := 89) (v := 0) dX9_mayStand_89 (by decide) ?_
            refine st_8_5_i_i (pc := 90) dX9_mayStand_90 ?_
            have hM : g3_25 = 1 ∧ l1B (σ.2.1 14034) k (LM σ c) (Int32.toNatClampNeg (σ.2.2.1 168 (Int32.toNatClampNeg c))) = true ∨ g3_25 = 0 ∧ l1B (σ.2.1 14034) k (LM σ c) (Int32.toNatClampNeg (σ.2.2.1 168 (Int32.toNatClampNeg c))) = false := Or.inr ⟨b33_365, l1_mono (hX25_0.resolve_left (fun e => absurd (e.1.symm.trans b33_365) (by decide))).2 _ (Nat.le_of_succ_le (nI_slt (by omega) b29_297))⟩
            have HL92 : ∀ (q j92 : Nat) (g3_92 : Int32) (g6_92 : Option Value) (g7_92 : Option Value), j92 + q = 5 → 0 ≤ j92 → inR g3_92 0 1 → (g3_92 = 1 ∧ l1B (σ.2.1 14034) k (LM σ c) (Int32.toNatClampNeg (σ.2.2.1 168 (Int32.toNatClampNeg c))) = true ∧ o2B k (LM σ c) (σ.2.2.1 168 (Int32.toNatClampNeg c)) j92 = true ∨ g3_92 = 0 ∧ (l1B (σ.2.1 14034) k (LM σ c) (Int32.toNatClampNeg (σ.2.2.1 168 (Int32.toNatClampNeg c))) = false ∨ o2B k (LM σ c) (σ.2.2.1 168 (Int32.toNatClampNeg c)) j92 = false)) → nI j92 ≤ (σ.2.2.1 168 (Int32.toNatClampNeg c)) → (j92 = 0 ∨ ¬ (σ.2.2.1 168 (Int32.toNatClampNeg c)) ≤ 1) → R G l yX9_mayStand cX9_mayStand 8 (some .boolean) 2 0 0 (QI (fun x w2 => w2 = WW σ ∧ (msB (σ.2.1 14034) k (LM σ c) (σ.2.2.1 168 (Int32.toNatClampNeg c)) = true ∧ x = 1 ∨ msB (σ.2.1 14034) k (LM σ c) (σ.2.2.1 168 (Int32.toNatClampNeg c)) = false ∧ x = 0))) 92 [(some (.ref 140)), (some (.int c)), (some (.int k)), (some (.int g3_92)), (some (.int (σ.2.2.1 168 (Int32.toNatClampNeg c)))), (some (.int (nI j92))), g6_92, g7_92] [] (WW σ) 0 0 := by
              intro q
              induction q with
              | zero =>
                intro j92 g3_92 g6_92 g7_92 hj hs92 hg3_92 hX92_0 hX92_1 hX92_2
                obtain rfl : j92 = 5 := by omega
                refine R_iload (pc := 92) dX9_mayStand_92 rfl ?_
                refine R_iload (pc := 94) dX9_mayStand_94 rfl ?_
                refine R_icge (pc := 96) 190 dX9_mayStand_96 (by decide) (fun _ => ?_) (fun h => absurd (Int32.not_lt.mp (inR_up (iva_168 hI _ (lt_of_vp hx228)) (Int32.le_refl _) (by decide)).2) h)
                refine R_iload_n (pc := 190) dX9_mayStand_190 rfl rfl ?_
                exact R_iret (pc := 191) dX9_mayStand_191 rfl (nar01 hg3_92) (Nat.zero_le _) (Nat.zero_le _) ⟨_, rfl, rfl, hX92_0.elim (fun q => Or.inl ⟨ms_t2 q.2.1 (by rw [(show (Int32.toNatClampNeg (σ.2.2.1 168 (Int32.toNatClampNeg c))) = 5 from jn_of (by omega) (by first | exact nI_eqe hX92_1 (by assumption) | exact nI_eq5 hX92_1 (iva_168 hI _ (clamp19 hc))))]; exact q.2.2), q.1⟩) (fun q => Or.inr ⟨ms_f q.2 hX92_2 (by rw [(show (Int32.toNatClampNeg (σ.2.2.1 168 (Int32.toNatClampNeg c))) = 5 from jn_of (by omega) (by first | exact nI_eqe hX92_1 (by assumption) | exact nI_eq5 hX92_1 (iva_168 hI _ (clamp19 hc))))]; exact Nat.le_refl _), q.1⟩)⟩
              | succ q ih92 =>
                intro j92 g3_92 g6_92 g7_92 hj hs92 hg3_92 hX92_0 hX92_1 hX92_2
                have hrg92 : inR (nI j92) 0 4 := inR_ix hs92 (show j92 < 5 by omega) (by decide) (by decide) (by decide)
                have hlt92 : j92 < 5 := by omega
                refine R_iload (pc := 92) dX9_mayStand_92 rfl ?_
                refine R_iload (pc := 94) dX9_mayStand_94 rfl ?_
                refine R_icge (pc := 96) 190 dX9_mayStand_96 (by decide) (fun b96_367 => ?_) (fun b96_367 => ?_)
                · skip
                  refine R_iload_n (pc := 190) dX9_mayStand_190 rfl rfl ?_
                  exact R_iret (pc := 191) dX9_mayStand_191 rfl (nar01 hg3_92) (Nat.zero_le _) (Nat.zero_le _) ⟨_, rfl, rfl, hX92_0.elim (fun q => Or.inl ⟨ms_t2 q.2.1 (by rw [(show (Int32.toNatClampNeg (σ.2.2.1 168 (Int32.toNatClampNeg c))) = j92 from jn_of (by omega) (by first | exact nI_eqe hX92_1 (by assumption) | exact nI_eq5 hX92_1 (iva_168 hI _ (clamp19 hc))))]; exact q.2.2), q.1⟩) (fun q => Or.inr ⟨ms_f q.2 hX92_2 (by rw [(show (Int32.toNatClampNeg (σ.2.2.1 168 (Int32.toNatClampNeg c))) = j92 from jn_of (by omega) (by first | exact nI_eqe hX92_1 (by assumption) | exact nI_eq5 hX92_1 (iva_168 hI _ (clamp19 hc))))]; exact Nat.le_refl _), q.1⟩)⟩
                · skip
                  refine R_iload_n (pc := 99) dX9_mayStand_99 rfl rfl ?_
                  refine R_ifeq (pc := 100) 190 dX9_mayStand_100 (by decide) (fun b100_368 => ?_) (fun b100_368 => ?_)
                  · skip
                    refine R_iload_n (pc := 190) dX9_mayStand_190 rfl rfl ?_
                    exact R_iret (pc := 191) dX9_mayStand_191 rfl (nar01 hg3_92) (Nat.zero_le _) (Nat.zero_le _) ⟨_, rfl, rfl, Or.inr ⟨(by have q := (hX92_0.resolve_left (fun e => absurd (e.1.symm.trans b100_368) (by decide))).2; exact ms_f q hX92_2 (Nat.le_of_succ_le (nI_slt (by omega) b96_367))), b100_368⟩⟩
                  · skip
                    refine R_iload (pc := 103) dX9_mayStand_103 rfl ?_
                    refine R_iconst (pc := 105) (v := 1) dX9_mayStand_105 (by decide) ?_
                    refine R_icle (pc := 106) 190 dX9_mayStand_106 (by decide) (fun b106_369 => ?_) (fun b106_369 => ?_)
                    · skip
                      refine R_iload_n (pc := 190) dX9_mayStand_190 rfl rfl ?_
                      exact R_iret (pc := 191) dX9_mayStand_191 rfl (nar01 hg3_92) (Nat.zero_le _) (Nat.zero_le _) ⟨_, rfl, rfl, hX92_0.elim (fun q => Or.inl ⟨ms_t1 q.2.1 b106_369, q.1⟩) (fun q => Or.inr ⟨ms_f1 q.2 hX92_2 b106_369, q.1⟩)⟩
                    · skip
                      refine R_aload_n (pc := 109) dX9_mayStand_109 rfl rfl ?_
                      refine g_X9_99 (pc := 110) (v := .ref 167) rfl dX9_mayStand_110 (c_140 _) rfl ?_
                      refine R_aload_n (pc := 113) dX9_mayStand_113 rfl rfl ?_
                      refine g_X9_105 (pc := 114) (v := .ref 169) rfl dX9_mayStand_114 (c_140 _) rfl ?_
                      refine R_iconst (pc := 117) (v := 5) dX9_mayStand_117 (by decide) ?_
                      refine R_iload_n (pc := 118) dX9_mayStand_118 rfl rfl ?_
                      refine R_imul (pc := 119) dX9_mayStand_119 ?_
                      have r370 : inR (5 * c) 0 95 := inR_mulc (c := 5) (l := 0) (h := 95) 5 (by decide) (show inR c 0 19 from hc) (by decide) (by decide)
                      have e371 := ti_mulc (c := 5) (l := 0) (h := 95) 5 (by decide) (show inR c 0 19 from hc) (by decide) (by decide)
                      refine R_iload (pc := 120) dX9_mayStand_120 rfl ?_
                      refine R_iconst (pc := 122) (v := 1) dX9_mayStand_122 (by decide) ?_
                      refine R_iadd (pc := 123) dX9_mayStand_123 ?_
                      have r372 : inR ((nI j92) + 1) 1 5 := inR_add (show inR (nI j92) 0 4 from hrg92) (show inR 1 1 1 from (inR_self _)) (by decide) (by decide)
                      have e373 := ti_add (l := 1) (h := 5) (show inR (nI j92) 0 4 from hrg92) (show inR 1 1 1 from (inR_self _)) (by decide) (by decide)
                      refine R_iload (pc := 124) dX9_mayStand_124 rfl ?_
                      refine R_icge (pc := 126) 134 dX9_mayStand_126 (by decide) (fun b126_374 => ?_) (fun b126_374 => ?_)
                      · skip
                        refine R_iconst (pc := 134) (v := 0) dX9_mayStand_134 (by decide) ?_
                        refine R_iadd (pc := 135) dX9_mayStand_135 ?_
                        have r375 : inR ((5 * c) + 0) 0 95 := inR_add (show inR (5 * c) 0 95 from r370) (show inR 0 0 0 from (inR_self _)) (by decide) (by decide)
                        have e376 := ti_add (l := 0) (h := 95) (show inR (5 * c) 0 95 from r370) (show inR 0 0 0 from (inR_self _)) (by decide) (by decide)
                        have hx377 : vp_in ((5 * c) + 0) 100 := (vp_of_inR r375 (by decide))
                        refine R_iaload (pc := 136) dX9_mayStand_136 (c_169 _) hx377 ?_
                        have hx378 : vp_in (σ.2.2.1 169 (Int32.toNatClampNeg ((5 * c) + 0))) 8 := (vp_of_inR (iva_169 hI _ (lt_of_vp hx377)) (by decide))
                        refine R_iaload (pc := 137) dX9_mayStand_137 (c_167 _) hx378 ?_
                        refine st_8_6_i_i (pc := 138) dX9_mayStand_138 ?_
                        refine R_aload_n (pc := 140) dX9_mayStand_140 rfl rfl ?_
                        refine g_X9_99 (pc := 141) (v := .ref 167) rfl dX9_mayStand_141 (c_140 _) rfl ?_
                        refine R_aload_n (pc := 144) dX9_mayStand_144 rfl rfl ?_
                        refine g_X9_105 (pc := 145) (v := .ref 169) rfl dX9_mayStand_145 (c_140 _) rfl ?_
                        refine R_iconst (pc := 148) (v := 5) dX9_mayStand_148 (by decide) ?_
                        refine R_iload_n (pc := 149) dX9_mayStand_149 rfl rfl ?_
                        refine R_imul (pc := 150) dX9_mayStand_150 ?_
                        have r379 : inR (5 * c) 0 95 := inR_mulc (c := 5) (l := 0) (h := 95) 5 (by decide) (show inR c 0 19 from hc) (by decide) (by decide)
                        have e380 := ti_mulc (c := 5) (l := 0) (h := 95) 5 (by decide) (show inR c 0 19 from hc) (by decide) (by decide)
                        refine R_iload (pc := 151) dX9_mayStand_151 rfl ?_
                        refine R_iconst (pc := 153) (v := 1) dX9_mayStand_153 (by decide) ?_
                        refine R_iadd (pc := 154) dX9_mayStand_154 ?_
                        have r381 : inR ((nI j92) + 1) 1 5 := inR_add (show inR (nI j92) 0 4 from hrg92) (show inR 1 1 1 from (inR_self _)) (by decide) (by decide)
                        have e382 := ti_add (l := 1) (h := 5) (show inR (nI j92) 0 4 from hrg92) (show inR 1 1 1 from (inR_self _)) (by decide) (by decide)
                        refine R_iload (pc := 155) dX9_mayStand_155 rfl ?_
                        refine R_icge (pc := 157) 167 dX9_mayStand_157 (by decide) (fun b157_383 => ?_) (fun b157_383 => ?_)
                        · skip
                          refine R_iload (pc := 167) dX9_mayStand_167 rfl ?_
                          refine R_iadd (pc := 169) dX9_mayStand_169 ?_
                          have r384 : inR ((5 * c) + (nI j92)) 0 99 := inR_add (show inR (5 * c) 0 95 from r379) (show inR (nI j92) 0 4 from hrg92) (by decide) (by decide)
                          have e385 := ti_add (l := 0) (h := 99) (show inR (5 * c) 0 95 from r379) (show inR (nI j92) 0 4 from hrg92) (by decide) (by decide)
                          have hx386 : vp_in ((5 * c) + (nI j92)) 100 := (vp_of_inR r384 (by decide))
                          refine R_iaload (pc := 170) dX9_mayStand_170 (c_169 _) hx386 ?_
                          have hx387 : vp_in (σ.2.2.1 169 (Int32.toNatClampNeg ((5 * c) + (nI j92)))) 8 := (vp_of_inR (iva_169 hI _ (lt_of_vp hx386)) (by decide))
                          refine R_iaload (pc := 171) dX9_mayStand_171 (c_167 _) hx387 ?_
                          refine st_8_7_i_i (pc := 172) dX9_mayStand_172 ?_
                          refine R_aload_n (pc := 174) dX9_mayStand_174 rfl rfl ?_
                          refine R_iload_n (pc := 175) dX9_mayStand_175 rfl rfl ?_
                          refine R_iload (pc := 176) dX9_mayStand_176 rfl ?_
                          refine R_iload (pc := 178) dX9_mayStand_178 rfl ?_
                          refine k_X9_242 (pc := 180) (ge_X9_isOrdered _ _ _ _ hI) rfl (c_140 _) (by decide) (Nat.le_refl _) (Nat.le_refl _) (Nat.le_of_ble_eq_true rfl) dX9_mayStand_180 (fun x w2 h => ?_)
                          rcases h with ⟨rfl, ⟨h388, rfl⟩ | ⟨h388, rfl⟩⟩
                          · skip
                            refine st_8_3_i_i (pc := 183) dX9_mayStand_183 ?_
                            refine inc_8_5_1_i (pc := 184) dX9_mayStand_184 ?_
                            have r389 : inR ((nI j92) + 1) 1 5 := inR_add (show inR (nI j92) 0 4 from hrg92) (show inR 1 1 1 from (inR_self _)) (by decide) (by decide)
                            have e390 := ti_add (l := 1) (h := 5) (show inR (nI j92) 0 4 from hrg92) (show inR 1 1 1 from (inR_self _)) (by decide) (by decide)
                            refine R_goto (pc := 187) 92 dX9_mayStand_187 (by decide) ?_
                            rw [nI_1]
                            exact ih92 (j92 + 1) _ _ _ (by omega) (by omega) (show inR 1 0 1 from ⟨by decide, by decide⟩) (Or.inl ⟨rfl, (hX92_0.resolve_right (fun e => absurd e.1 b100_368)).2.1, o2_l (L := (LM σ c)) (hX92_0.resolve_right (fun e => absurd e.1 b100_368)).2.2 (Int32.not_lt.mpr b157_383) h388⟩) (nI_sle (by omega) b96_367) (Or.inr b106_369)
                          · skip
                            refine st_8_3_i_i (pc := 183) dX9_mayStand_183 ?_
                            refine inc_8_5_1_i (pc := 184) dX9_mayStand_184 ?_
                            have r391 : inR ((nI j92) + 1) 1 5 := inR_add (show inR (nI j92) 0 4 from hrg92) (show inR 1 1 1 from (inR_self _)) (by decide) (by decide)
                            have e392 := ti_add (l := 1) (h := 5) (show inR (nI j92) 0 4 from hrg92) (show inR 1 1 1 from (inR_self _)) (by decide) (by decide)
                            refine R_goto (pc := 187) 92 dX9_mayStand_187 (by decide) ?_
                            rw [nI_1]
                            exact ih92 (j92 + 1) _ _ _ (by omega) (by omega) (show inR 0 0 1 from ⟨by decide, by decide⟩) (Or.inr ⟨rfl, Or.inr (o2_l (L := (LM σ c)) (hX92_0.resolve_right (fun e => absurd e.1 b100_368)).2.2 (Int32.not_lt.mpr b157_383) h388)⟩) (nI_sle (by omega) b96_367) (Or.inr b106_369)
                        · skip
                          refine R_iload (pc := 160) dX9_mayStand_160 rfl ?_
                          refine R_iconst (pc := 162) (v := 1) dX9_mayStand_162 (by decide) ?_
                          refine R_iadd (pc := 163) dX9_mayStand_163 ?_
                          have r393 : inR ((nI j92) + 1) 1 5 := inR_add (show inR (nI j92) 0 4 from hrg92) (show inR 1 1 1 from (inR_self _)) (by decide) (by decide)
                          have e394 := ti_add (l := 1) (h := 5) (show inR (nI j92) 0 4 from hrg92) (show inR 1 1 1 from (inR_self _)) (by decide) (by decide)
                          refine R_goto (pc := 164) 169 dX9_mayStand_164 (by decide) ?_
                          refine R_iadd (pc := 169) dX9_mayStand_169 ?_
                          have r395 : inR ((5 * c) + ((nI j92) + 1)) 1 100 := inR_add (show inR (5 * c) 0 95 from r379) (show inR ((nI j92) + 1) 1 5 from r393) (by decide) (by decide)
                          have e396 := ti_add (l := 1) (h := 100) (show inR (5 * c) 0 95 from r379) (show inR ((nI j92) + 1) 1 5 from r393) (by decide) (by decide)
                          have hx397 : vp_in ((5 * c) + ((nI j92) + 1)) 100 := (vp_ti (by have q0 := e371; have q1 := e373; have q2 := e376; have q3 := e380; have q4 := e382; have q5 := e394; have q6 := e396; have q7 := ti_nle b29_297; have q8 := ti_eq b33_365; have q9 := ti_nle b96_367; have q10 := ti_ne b100_368; have q11 := ti_nle b106_369; have q12 := ti_le b126_374; have q13 := ti_nle b157_383; have q14 := ti_in hc; have q15 := ti_in hk; have q16 := ti_in (iva_168 hI _ (lt_of_vp hx228)); have q17 := ti_in hg3_25; have q18 := ti_in hrg25; have q19 := ti_in hg3_92; have q20 := ti_in hrg92; have q21 := ti_in r379; have q22 := ti_in r393; have q23 := ti_in r375; have q24 := ti_in (iva_169 hI _ (lt_of_vp hx377)); have q25 := ti_in r395; have z0 : (0 : Int32).toInt = 0 := (by decide); have z1 : (1 : Int32).toInt = 1 := (by decide); have z2 : (100 : Int32).toInt = 100 := (by decide); have z3 : (168 : Int32).toInt = 168 := (by decide); have z4 : (19 : Int32).toInt = 19 := (by decide); have z5 : (4 : Int32).toInt = 4 := (by decide); have z6 : (5 : Int32).toInt = 5 := (by decide); have z7 : (63 : Int32).toInt = 63 := (by decide); have z8 : (7 : Int32).toInt = 7 := (by decide); have z9 : (95 : Int32).toInt = 95 := (by decide); omega) (by have q0 := e371; have q1 := e373; have q2 := e376; have q3 := e380; have q4 := e382; have q5 := e394; have q6 := e396; have q7 := ti_nle b29_297; have q8 := ti_eq b33_365; have q9 := ti_nle b96_367; have q10 := ti_ne b100_368; have q11 := ti_nle b106_369; have q12 := ti_le b126_374; have q13 := ti_nle b157_383; have q14 := ti_in hc; have q15 := ti_in hk; have q16 := ti_in (iva_168 hI _ (lt_of_vp hx228)); have q17 := ti_in hg3_25; have q18 := ti_in hrg25; have q19 := ti_in hg3_92; have q20 := ti_in hrg92; have q21 := ti_in r379; have q22 := ti_in r393; have q23 := ti_in r375; have q24 := ti_in (iva_169 hI _ (lt_of_vp hx377)); have q25 := ti_in r395; have z0 : (0 : Int32).toInt = 0 := (by decide); have z1 : (1 : Int32).toInt = 1 := (by decide); have z2 : (100 : Int32).toInt = 100 := (by decide); have z3 : (168 : Int32).toInt = 168 := (by decide); have z4 : (19 : Int32).toInt = 19 := (by decide); have z5 : (4 : Int32).toInt = 4 := (by decide); have z6 : (5 : Int32).toInt = 5 := (by decide); have z7 : (63 : Int32).toInt = 63 := (by decide); have z8 : (7 : Int32).toInt = 7 := (by decide); have z9 : (95 : Int32).toInt = 95 := (by decide); omega))
                          refine R_iaload (pc := 170) dX9_mayStand_170 (c_169 _) hx397 ?_
                          have hx398 : vp_in (σ.2.2.1 169 (Int32.toNatClampNeg ((5 * c) + ((nI j92) + 1)))) 8 := (vp_of_inR (iva_169 hI _ (lt_of_vp hx397)) (by decide))
                          refine R_iaload (pc := 171) dX9_mayStand_171 (c_167 _) hx398 ?_
                          refine st_8_7_i_i (pc := 172) dX9_mayStand_172 ?_
                          refine R_aload_n (pc := 174) dX9_mayStand_174 rfl rfl ?_
                          refine R_iload_n (pc := 175) dX9_mayStand_175 rfl rfl ?_
                          refine R_iload (pc := 176) dX9_mayStand_176 rfl ?_
                          refine R_iload (pc := 178) dX9_mayStand_178 rfl ?_
                          refine k_X9_242 (pc := 180) (ge_X9_isOrdered _ _ _ _ hI) rfl (c_140 _) (by decide) (Nat.le_refl _) (Nat.le_refl _) (Nat.le_of_ble_eq_true rfl) dX9_mayStand_180 (fun x w2 h => ?_)
                          rcases h with ⟨rfl, ⟨h399, rfl⟩ | ⟨h399, rfl⟩⟩
                          · skip
                            refine st_8_3_i_i (pc := 183) dX9_mayStand_183 ?_
                            refine inc_8_5_1_i (pc := 184) dX9_mayStand_184 ?_
                            have r400 : inR ((nI j92) + 1) 1 5 := inR_add (show inR (nI j92) 0 4 from hrg92) (show inR 1 1 1 from (inR_self _)) (by decide) (by decide)
                            have e401 := ti_add (l := 1) (h := 5) (show inR (nI j92) 0 4 from hrg92) (show inR 1 1 1 from (inR_self _)) (by decide) (by decide)
                            refine R_goto (pc := 187) 92 dX9_mayStand_187 (by decide) ?_
                            rw [nI_1]
                            exact ih92 (j92 + 1) _ _ _ (by omega) (by omega) (show inR 1 0 1 from ⟨by decide, by decide⟩) (absurd b126_374 b157_383) (nI_sle (by omega) b96_367) (Or.inr b106_369)
                          · skip
                            refine st_8_3_i_i (pc := 183) dX9_mayStand_183 ?_
                            refine inc_8_5_1_i (pc := 184) dX9_mayStand_184 ?_
                            have r402 : inR ((nI j92) + 1) 1 5 := inR_add (show inR (nI j92) 0 4 from hrg92) (show inR 1 1 1 from (inR_self _)) (by decide) (by decide)
                            have e403 := ti_add (l := 1) (h := 5) (show inR (nI j92) 0 4 from hrg92) (show inR 1 1 1 from (inR_self _)) (by decide) (by decide)
                            refine R_goto (pc := 187) 92 dX9_mayStand_187 (by decide) ?_
                            rw [nI_1]
                            exact ih92 (j92 + 1) _ _ _ (by omega) (by omega) (show inR 0 0 1 from ⟨by decide, by decide⟩) (absurd b126_374 b157_383) (nI_sle (by omega) b96_367) (Or.inr b106_369)
                      · skip
                        refine R_iload (pc := 129) dX9_mayStand_129 rfl ?_
                        refine R_goto (pc := 131) 135 dX9_mayStand_131 (by decide) ?_
                        refine R_iadd (pc := 135) dX9_mayStand_135 ?_
                        have r404 : inR ((5 * c) + (nI j92)) 0 99 := inR_add (show inR (5 * c) 0 95 from r370) (show inR (nI j92) 0 4 from hrg92) (by decide) (by decide)
                        have e405 := ti_add (l := 0) (h := 99) (show inR (5 * c) 0 95 from r370) (show inR (nI j92) 0 4 from hrg92) (by decide) (by decide)
                        have hx406 : vp_in ((5 * c) + (nI j92)) 100 := (vp_of_inR r404 (by decide))
                        refine R_iaload (pc := 136) dX9_mayStand_136 (c_169 _) hx406 ?_
                        have hx407 : vp_in (σ.2.2.1 169 (Int32.toNatClampNeg ((5 * c) + (nI j92)))) 8 := (vp_of_inR (iva_169 hI _ (lt_of_vp hx406)) (by decide))
                        refine R_iaload (pc := 137) dX9_mayStand_137 (c_167 _) hx407 ?_
                        refine st_8_6_i_i (pc := 138) dX9_mayStand_138 ?_
                        refine R_aload_n (pc := 140) dX9_mayStand_140 rfl rfl ?_
                        refine g_X9_99 (pc := 141) (v := .ref 167) rfl dX9_mayStand_141 (c_140 _) rfl ?_
                        refine R_aload_n (pc := 144) dX9_mayStand_144 rfl rfl ?_
                        refine g_X9_105 (pc := 145) (v := .ref 169) rfl dX9_mayStand_145 (c_140 _) rfl ?_
                        refine R_iconst (pc := 148) (v := 5) dX9_mayStand_148 (by decide) ?_
                        refine R_iload_n (pc := 149) dX9_mayStand_149 rfl rfl ?_
                        refine R_imul (pc := 150) dX9_mayStand_150 ?_
                        have r408 : inR (5 * c) 0 95 := inR_mulc (c := 5) (l := 0) (h := 95) 5 (by decide) (show inR c 0 19 from hc) (by decide) (by decide)
                        have e409 := ti_mulc (c := 5) (l := 0) (h := 95) 5 (by decide) (show inR c 0 19 from hc) (by decide) (by decide)
                        refine R_iload (pc := 151) dX9_mayStand_151 rfl ?_
                        refine R_iconst (pc := 153) (v := 1) dX9_mayStand_153 (by decide) ?_
                        refine R_iadd (pc := 154) dX9_mayStand_154 ?_
                        have r410 : inR ((nI j92) + 1) 1 5 := inR_add (show inR (nI j92) 0 4 from hrg92) (show inR 1 1 1 from (inR_self _)) (by decide) (by decide)
                        have e411 := ti_add (l := 1) (h := 5) (show inR (nI j92) 0 4 from hrg92) (show inR 1 1 1 from (inR_self _)) (by decide) (by decide)
                        refine R_iload (pc := 155) dX9_mayStand_155 rfl ?_
                        refine R_icge (pc := 157) 167 dX9_mayStand_157 (by decide) (fun b157_412 => ?_) (fun b157_412 => ?_)
                        · skip
                          refine R_iload (pc := 167) dX9_mayStand_167 rfl ?_
                          refine R_iadd (pc := 169) dX9_mayStand_169 ?_
                          have r413 : inR ((5 * c) + (nI j92)) 0 99 := inR_add (show inR (5 * c) 0 95 from r408) (show inR (nI j92) 0 4 from hrg92) (by decide) (by decide)
                          have e414 := ti_add (l := 0) (h := 99) (show inR (5 * c) 0 95 from r408) (show inR (nI j92) 0 4 from hrg92) (by decide) (by decide)
                          have hx415 : vp_in ((5 * c) + (nI j92)) 100 := (vp_of_inR r413 (by decide))
                          refine R_iaload (pc := 170) dX9_mayStand_170 (c_169 _) hx415 ?_
                          have hx416 : vp_in (σ.2.2.1 169 (Int32.toNatClampNeg ((5 * c) + (nI j92)))) 8 := (vp_of_inR (iva_169 hI _ (lt_of_vp hx406)) (by decide))
                          refine R_iaload (pc := 171) dX9_mayStand_171 (c_167 _) hx416 ?_
                          refine st_8_7_i_i (pc := 172) dX9_mayStand_172 ?_
                          refine R_aload_n (pc := 174) dX9_mayStand_174 rfl rfl ?_
                          refine R_iload_n (pc := 175) dX9_mayStand_175 rfl rfl ?_
                          refine R_iload (pc := 176) dX9_mayStand_176 rfl ?_
                          refine R_iload (pc := 178) dX9_mayStand_178 rfl ?_
                          refine k_X9_242 (pc := 180) (ge_X9_isOrdered _ _ _ _ hI) rfl (c_140 _) (by decide) (Nat.le_refl _) (Nat.le_refl _) (Nat.le_of_ble_eq_true rfl) dX9_mayStand_180 (fun x w2 h => ?_)
                          rcases h with ⟨rfl, ⟨h417, rfl⟩ | ⟨h417, rfl⟩⟩
                          · skip
                            refine st_8_3_i_i (pc := 183) dX9_mayStand_183 ?_
                            refine inc_8_5_1_i (pc := 184) dX9_mayStand_184 ?_
                            have r418 : inR ((nI j92) + 1) 1 5 := inR_add (show inR (nI j92) 0 4 from hrg92) (show inR 1 1 1 from (inR_self _)) (by decide) (by decide)
                            have e419 := ti_add (l := 1) (h := 5) (show inR (nI j92) 0 4 from hrg92) (show inR 1 1 1 from (inR_self _)) (by decide) (by decide)
                            refine R_goto (pc := 187) 92 dX9_mayStand_187 (by decide) ?_
                            rw [nI_1]
                            exact ih92 (j92 + 1) _ _ _ (by omega) (by omega) (show inR 1 0 1 from ⟨by decide, by decide⟩) (absurd b157_412 b126_374) (nI_sle (by omega) b96_367) (Or.inr b106_369)
                          · skip
                            refine st_8_3_i_i (pc := 183) dX9_mayStand_183 ?_
                            refine inc_8_5_1_i (pc := 184) dX9_mayStand_184 ?_
                            have r420 : inR ((nI j92) + 1) 1 5 := inR_add (show inR (nI j92) 0 4 from hrg92) (show inR 1 1 1 from (inR_self _)) (by decide) (by decide)
                            have e421 := ti_add (l := 1) (h := 5) (show inR (nI j92) 0 4 from hrg92) (show inR 1 1 1 from (inR_self _)) (by decide) (by decide)
                            refine R_goto (pc := 187) 92 dX9_mayStand_187 (by decide) ?_
                            rw [nI_1]
                            exact ih92 (j92 + 1) _ _ _ (by omega) (by omega) (show inR 0 0 1 from ⟨by decide, by decide⟩) (absurd b157_412 b126_374) (nI_sle (by omega) b96_367) (Or.inr b106_369)
                        · skip
                          refine R_iload (pc := 160) dX9_mayStand_160 rfl ?_
                          refine R_iconst (pc := 162) (v := 1) dX9_mayStand_162 (by decide) ?_
                          refine R_iadd (pc := 163) dX9_mayStand_163 ?_
                          have r422 : inR ((nI j92) + 1) 1 5 := inR_add (show inR (nI j92) 0 4 from hrg92) (show inR 1 1 1 from (inR_self _)) (by decide) (by decide)
                          have e423 := ti_add (l := 1) (h := 5) (show inR (nI j92) 0 4 from hrg92) (show inR 1 1 1 from (inR_self _)) (by decide) (by decide)
                          refine R_goto (pc := 164) 169 dX9_mayStand_164 (by decide) ?_
                          refine R_iadd (pc := 169) dX9_mayStand_169 ?_
                          have r424 : inR ((5 * c) + ((nI j92) + 1)) 1 100 := inR_add (show inR (5 * c) 0 95 from r408) (show inR ((nI j92) + 1) 1 5 from r422) (by decide) (by decide)
                          have e425 := ti_add (l := 1) (h := 100) (show inR (5 * c) 0 95 from r408) (show inR ((nI j92) + 1) 1 5 from r422) (by decide) (by decide)
                          have hx426 : vp_in ((5 * c) + ((nI j92) + 1)) 100 := (vp_ti (by have q0 := e371; have q1 := e373; have q2 := e405; have q3 := e409; have q4 := e411; have q5 := e423; have q6 := e425; have q7 := ti_nle b29_297; have q8 := ti_eq b33_365; have q9 := ti_nle b96_367; have q10 := ti_ne b100_368; have q11 := ti_nle b106_369; have q12 := ti_nle b126_374; have q13 := ti_nle b157_412; have q14 := ti_in hc; have q15 := ti_in hk; have q16 := ti_in (iva_168 hI _ (lt_of_vp hx228)); have q17 := ti_in hg3_25; have q18 := ti_in hrg25; have q19 := ti_in hg3_92; have q20 := ti_in hrg92; have q21 := ti_in r408; have q22 := ti_in r422; have q23 := ti_in r404; have q24 := ti_in (iva_169 hI _ (lt_of_vp hx406)); have q25 := ti_in r424; have z0 : (0 : Int32).toInt = 0 := (by decide); have z1 : (1 : Int32).toInt = 1 := (by decide); have z2 : (100 : Int32).toInt = 100 := (by decide); have z3 : (168 : Int32).toInt = 168 := (by decide); have z4 : (19 : Int32).toInt = 19 := (by decide); have z5 : (4 : Int32).toInt = 4 := (by decide); have z6 : (5 : Int32).toInt = 5 := (by decide); have z7 : (63 : Int32).toInt = 63 := (by decide); have z8 : (7 : Int32).toInt = 7 := (by decide); have z9 : (95 : Int32).toInt = 95 := (by decide); have z10 : (99 : Int32).toInt = 99 := (by decide); omega) (by have q0 := e371; have q1 := e373; have q2 := e405; have q3 := e409; have q4 := e411; have q5 := e423; have q6 := e425; have q7 := ti_nle b29_297; have q8 := ti_eq b33_365; have q9 := ti_nle b96_367; have q10 := ti_ne b100_368; have q11 := ti_nle b106_369; have q12 := ti_nle b126_374; have q13 := ti_nle b157_412; have q14 := ti_in hc; have q15 := ti_in hk; have q16 := ti_in (iva_168 hI _ (lt_of_vp hx228)); have q17 := ti_in hg3_25; have q18 := ti_in hrg25; have q19 := ti_in hg3_92; have q20 := ti_in hrg92; have q21 := ti_in r408; have q22 := ti_in r422; have q23 := ti_in r404; have q24 := ti_in (iva_169 hI _ (lt_of_vp hx406)); have q25 := ti_in r424; have z0 : (0 : Int32).toInt = 0 := (by decide); have z1 : (1 : Int32).toInt = 1 := (by decide); have z2 : (100 : Int32).toInt = 100 := (by decide); have z3 : (168 : Int32).toInt = 168 := (by decide); have z4 : (19 : Int32).toInt = 19 := (by decide); have z5 : (4 : Int32).toInt = 4 := (by decide); have z6 : (5 : Int32).toInt = 5 := (by decide); have z7 : (63 : Int32).toInt = 63 := (by decide); have z8 : (7 : Int32).toInt = 7 := (by decide); have z9 : (95 : Int32).toInt = 95 := (by decide); have z10 : (99 : Int32).toInt = 99 := (by decide); omega))
                          refine R_iaload (pc := 170) dX9_mayStand_170 (c_169 _) hx426 ?_
                          have hx427 : vp_in (σ.2.2.1 169 (Int32.toNatClampNeg ((5 * c) + ((nI j92) + 1)))) 8 := (vp_of_inR (iva_169 hI _ (lt_of_vp hx426)) (by decide))
                          refine R_iaload (pc := 171) dX9_mayStand_171 (c_167 _) hx427 ?_
                          refine st_8_7_i_i (pc := 172) dX9_mayStand_172 ?_
                          refine R_aload_n (pc := 174) dX9_mayStand_174 rfl rfl ?_
                          refine R_iload_n (pc := 175) dX9_mayStand_175 rfl rfl ?_
                          refine R_iload (pc := 176) dX9_mayStand_176 rfl ?_
                          refine R_iload (pc := 178) dX9_mayStand_178 rfl ?_
                          refine k_X9_242 (pc := 180) (ge_X9_isOrdered _ _ _ _ hI) rfl (c_140 _) (by decide) (Nat.le_refl _) (Nat.le_refl _) (Nat.le_of_ble_eq_true rfl) dX9_mayStand_180 (fun x w2 h => ?_)
                          rcases h with ⟨rfl, ⟨h428, rfl⟩ | ⟨h428, rfl⟩⟩
                          · skip
                            refine st_8_3_i_i (pc := 183) dX9_mayStand_183 ?_
                            refine inc_8_5_1_i (pc := 184) dX9_mayStand_184 ?_
                            have r429 : inR ((nI j92) + 1) 1 5 := inR_add (show inR (nI j92) 0 4 from hrg92) (show inR 1 1 1 from (inR_self _)) (by decide) (by decide)
                            have e430 := ti_add (l := 1) (h := 5) (show inR (nI j92) 0 4 from hrg92) (show inR 1 1 1 from (inR_self _)) (by decide) (by decide)
                            refine R_goto (pc := 187) 92 dX9_mayStand_187 (by decide) ?_
                            rw [nI_1]
                            exact ih92 (j92 + 1) _ _ _ (by omega) (by omega) (show inR 1 0 1 from ⟨by decide, by decide⟩) (Or.inl ⟨rfl, (hX92_0.resolve_right (fun e => absurd e.1 b100_368)).2.1, o2_c (L := (LM σ c)) (hX92_0.resolve_right (fun e => absurd e.1 b100_368)).2.2 (Int32.not_le.mp b157_412) h428⟩) (nI_sle (by omega) b96_367) (Or.inr b106_369)
                          · skip
                            refine st_8_3_i_i (pc := 183) dX9_mayStand_183 ?_
                            refine inc_8_5_1_i (pc := 184) dX9_mayStand_184 ?_
                            have r431 : inR ((nI j92) + 1) 1 5 := inR_add (show inR (nI j92) 0 4 from hrg92) (show inR 1 1 1 from (inR_self _)) (by decide) (by decide)
                            have e432 := ti_add (l := 1) (h := 5) (show inR (nI j92) 0 4 from hrg92) (show inR 1 1 1 from (inR_self _)) (by decide) (by decide)
                            refine R_goto (pc := 187) 92 dX9_mayStand_187 (by decide) ?_
                            rw [nI_1]
                            exact ih92 (j92 + 1) _ _ _ (by omega) (by omega) (show inR 0 0 1 from ⟨by decide, by decide⟩) (Or.inr ⟨rfl, Or.inr (o2_c (L := (LM σ c)) (hX92_0.resolve_right (fun e => absurd e.1 b100_368)).2.2 (Int32.not_le.mp b157_412) h428)⟩) (nI_sle (by omega) b96_367) (Or.inr b106_369)
            exact HL92 5 0 _ _ _ (by omega) (by omega) hg3_25 (hM.imp (fun q => ⟨q.1, q.2, rfl⟩) (fun q => ⟨q.1, Or.inl q.2⟩)) (show (0 : Int32) ≤ (σ.2.2.1 168 (Int32.toNatClampNeg c)) from Int32.not_lt.mp (iva_168 hI _ (clamp19 hc)).1) (Or.inl rfl)
          · skip
            refine R_aload_n (pc := 36) dX9_mayStand_36 rfl rfl ?_
            refine g_X9_99 (pc := 37) (v := .ref 167) rfl dX9_mayStand_37 (c_140 _) rfl ?_
            refine R_aload_n (pc := 40) dX9_mayStand_40 rfl rfl ?_
            refine g_X9_105 (pc := 41) (v := .ref 169) rfl dX9_mayStand_41 (c_140 _) rfl ?_
            refine R_iconst (pc := 44) (v := 5) dX9_mayStand_44 (by decide) ?_
            refine R_iload_n (pc := 45) dX9_mayStand_45 rfl rfl ?_
            refine R_imul (pc := 46) dX9_mayStand_46 ?_
            have r433 : inR (5 * c) 0 95 := inR_mulc (c := 5) (l := 0) (h := 95) 5 (by decide) (show inR c 0 19 from hc) (by decide) (by decide)
            have e434 := ti_mulc (c := 5) (l := 0) (h := 95) 5 (by decide) (show inR c 0 19 from hc) (by decide) (by decide)
            refine R_iload (pc := 47) dX9_mayStand_47 rfl ?_
            refine R_iadd (pc := 49) dX9_mayStand_49 ?_
            have r435 : inR ((5 * c) + (nI j25)) 0 99 := inR_add (show inR (5 * c) 0 95 from r433) (show inR (nI j25) 0 4 from hrg25) (by decide) (by decide)
            have e436 := ti_add (l := 0) (h := 99) (show inR (5 * c) 0 95 from r433) (show inR (nI j25) 0 4 from hrg25) (by decide) (by decide)
            have hx437 : vp_in ((5 * c) + (nI j25)) 100 := (vp_of_inR r435 (by decide))
            refine R_iaload (pc := 50) dX9_mayStand_50 (c_169 _) hx437 ?_
            have hx438 : vp_in (σ.2.2.1 169 (Int32.toNatClampNeg ((5 * c) + (nI j25)))) 8 := (vp_of_inR (iva_169 hI _ (lt_of_vp hx437)) (by decide))
            refine R_iaload (pc := 51) dX9_mayStand_51 (c_167 _) hx438 ?_
            refine st_8_6_i_i (pc := 52) dX9_mayStand_52 ?_
            refine R_iload (pc := 54) dX9_mayStand_54 rfl ?_
            refine R_bipush (pc := 56) (v := 64) dX9_mayStand_56 (by decide) ?_
            refine R_icge (pc := 58) 81 dX9_mayStand_58 (by decide) (fun b58_439 => ?_) (fun b58_439 => ?_)
            · skip
              refine R_iconst (pc := 81) (v := 0) dX9_mayStand_81 (by decide) ?_
              refine st_8_3_i_i (pc := 82) dX9_mayStand_82 ?_
              refine inc_8_5_1_i (pc := 83) dX9_mayStand_83 ?_
              have r440 : inR ((nI j25) + 1) 1 5 := inR_add (show inR (nI j25) 0 4 from hrg25) (show inR 1 1 1 from (inR_self _)) (by decide) (by decide)
              have e441 := ti_add (l := 1) (h := 5) (show inR (nI j25) 0 4 from hrg25) (show inR 1 1 1 from (inR_self _)) (by decide) (by decide)
              refine R_goto (pc := 86) 25 dX9_mayStand_86 (by decide) ?_
              rw [nI_1]
              exact ih25 (j25 + 1) _ _ _ (by omega) (by omega) (show inR 0 0 1 from ⟨by decide, by decide⟩) (Or.inr ⟨rfl, l1_f1 (L := (LM σ c)) (Int32.not_lt.mpr b58_439)⟩) (nI_sle (by omega) b29_297)
            · skip
              refine R_iload (pc := 61) dX9_mayStand_61 rfl ?_
              refine R_iload_n (pc := 63) dX9_mayStand_63 rfl rfl ?_
              refine R_iceq (pc := 64) 81 dX9_mayStand_64 (by decide) (fun b64_442 => ?_) (fun b64_442 => ?_)
              · skip
                refine R_iconst (pc := 81) (v := 0) dX9_mayStand_81 (by decide) ?_
                refine st_8_3_i_i (pc := 82) dX9_mayStand_82 ?_
                refine inc_8_5_1_i (pc := 83) dX9_mayStand_83 ?_
                have r443 : inR ((nI j25) + 1) 1 5 := inR_add (show inR (nI j25) 0 4 from hrg25) (show inR 1 1 1 from (inR_self _)) (by decide) (by decide)
                have e444 := ti_add (l := 1) (h := 5) (show inR (nI j25) 0 4 from hrg25) (show inR 1 1 1 from (inR_self _)) (by decide) (by decide)
                refine R_goto (pc := 86) 25 dX9_mayStand_86 (by decide) ?_
                rw [nI_1]
                exact ih25 (j25 + 1) _ _ _ (by omega) (by omega) (show inR 0 0 1 from ⟨by decide, by decide⟩) (Or.inr ⟨rfl, l1_f2 (L := (LM σ c)) b64_442⟩) (nI_sle (by omega) b29_297)
              · skip
                refine R_aload_n (pc := 67) dX9_mayStand_67 rfl rfl ?_
                refine R_iload_n (pc := 68) dX9_mayStand_68 rfl rfl ?_
                refine R_iload (pc := 69) dX9_mayStand_69 rfl ?_
                refine k_X9_239 (pc := 71) (ge_X9_isSeen _ _ _ hI hk (cell63m hlm (iva_169 hI _ (lt_of_vp (vp_ti (by have q0 := e434; have q1 := e436; have q2 := ti_nle b29_297; have q3 := ti_ne b33_365; have q4 := ti_nle b58_439; have q5 := ti_ne b64_442; have q6 := ti_in hc; have q7 := ti_in hk; have q8 := ti_in (iva_168 hI _ (lt_of_vp hx228)); have q9 := ti_in hg3_25; have q10 := ti_in hrg25; have q11 := ti_in r433; have q12 := ti_in r435; have q13 := ti_in (iva_169 hI _ (lt_of_vp hx437)); have z0 : (0 : Int32).toInt = 0 := (by decide); have z1 : (1 : Int32).toInt = 1 := (by decide); have z2 : (167 : Int32).toInt = 167 := (by decide); have z3 : (168 : Int32).toInt = 168 := (by decide); have z4 : (169 : Int32).toInt = 169 := (by decide); have z5 : (19 : Int32).toInt = 19 := (by decide); have z6 : (4 : Int32).toInt = 4 := (by decide); have z7 : (5 : Int32).toInt = 5 := (by decide); have z8 : (63 : Int32).toInt = 63 := (by decide); have z9 : (64 : Int32).toInt = 64 := (by decide); have z10 : (7 : Int32).toInt = 7 := (by decide); have z11 : (95 : Int32).toInt = 95 := (by decide); have z12 : (99 : Int32).toInt = 99 := (by decide); omega) (by have q0 := e434; have q1 := e436; have q2 := ti_nle b29_297; have q3 := ti_ne b33_365; have q4 := ti_nle b58_439; have q5 := ti_ne b64_442; have q6 := ti_in hc; have q7 := ti_in hk; have q8 := ti_in (iva_168 hI _ (lt_of_vp hx228)); have q9 := ti_in hg3_25; have q10 := ti_in hrg25; have q11 := ti_in r433; have q12 := ti_in r435; have q13 := ti_in (iva_169 hI _ (lt_of_vp hx437)); have z0 : (0 : Int32).toInt = 0 := (by decide); have z1 : (1 : Int32).toInt = 1 := (by decide); have z2 : (167 : Int32).toInt = 167 := (by decide); have z3 : (168 : Int32).toInt = 168 := (by decide); have z4 : (169 : Int32).toInt = 169 := (by decide); have z5 : (19 : Int32).toInt = 19 := (by decide); have z6 : (4 : Int32).toInt = 4 := (by decide); have z7 : (5 : Int32).toInt = 5 := (by decide); have z8 : (63 : Int32).toInt = 63 := (by decide); have z9 : (64 : Int32).toInt = 64 := (by decide); have z10 : (7 : Int32).toInt = 7 := (by decide); have z11 : (95 : Int32).toInt = 95 := (by decide); have z12 : (99 : Int32).toInt = 99 := (by decide); omega)))) (Int32.not_le.mp b58_439))) rfl (c_140 _) (by decide) (Nat.le_refl _) (Nat.le_refl _) (Nat.le_of_ble_eq_true rfl) dX9_mayStand_71 (fun x w2 h => ?_)
                rcases h with ⟨rfl, ⟨h445, rfl⟩ | ⟨h445, rfl⟩⟩
                · skip
                  refine R_ifeq (pc := 74) 81 dX9_mayStand_74 (by decide) (fun h => absurd h (by decide)) (fun _ => ?_)
                  refine R_iconst (pc := 77) (v := 1) dX9_mayStand_77 (by decide) ?_
                  refine R_goto (pc := 78) 82 dX9_mayStand_78 (by decide) ?_
                  refine st_8_3_i_i (pc := 82) dX9_mayStand_82 ?_
                  refine inc_8_5_1_i (pc := 83) dX9_mayStand_83 ?_
                  have r447 : inR ((nI j25) + 1) 1 5 := inR_add (show inR (nI j25) 0 4 from hrg25) (show inR 1 1 1 from (inR_self _)) (by decide) (by decide)
                  have e448 := ti_add (l := 1) (h := 5) (show inR (nI j25) 0 4 from hrg25) (show inR 1 1 1 from (inR_self _)) (by decide) (by decide)
                  refine R_goto (pc := 86) 25 dX9_mayStand_86 (by decide) ?_
                  rw [nI_1]
                  exact ih25 (j25 + 1) _ _ _ (by omega) (by omega) (show inR 1 0 1 from ⟨by decide, by decide⟩) (Or.inl ⟨rfl, l1_t (L := (LM σ c)) (hX25_0.resolve_right (fun e => absurd e.1 b33_365)).2 (Int32.not_le.mp b58_439) b64_442 h445⟩) (nI_sle (by omega) b29_297)
                · skip
                  refine R_ifeq (pc := 74) 81 dX9_mayStand_74 (by decide) (fun _ => ?_) (fun h => absurd (by decide) h)
                  refine R_iconst (pc := 81) (v := 0) dX9_mayStand_81 (by decide) ?_
                  refine st_8_3_i_i (pc := 82) dX9_mayStand_82 ?_
                  refine inc_8_5_1_i (pc := 83) dX9_mayStand_83 ?_
                  have r450 : inR ((nI j25) + 1) 1 5 := inR_add (show inR (nI j25) 0 4 from hrg25) (show inR 1 1 1 from (inR_self _)) (by decide) (by decide)
                  have e451 := ti_add (l := 1) (h := 5) (show inR (nI j25) 0 4 from hrg25) (show inR 1 1 1 from (inR_self _)) (by decide) (by decide)
                  refine R_goto (pc := 86) 25 dX9_mayStand_86 (by decide) ?_
                  rw [nI_1]
                  exact ih25 (j25 + 1) _ _ _ (by omega) (by omega) (show inR 0 0 1 from ⟨by decide, by decide⟩) (Or.inr ⟨rfl, l1_f3 (L := (LM σ c)) h445⟩) (nI_sle (by omega) b29_297)
    exact HL25 5 0 _ _ _ (by omega) (by omega) (show inR 1 0 1 from ⟨by decide, by decide⟩) (Or.inl ⟨rfl, (by show (!wB (σ.2.1 14034) k) = true; rw [h1]; rfl)⟩) (show (0 : Int32) ≤ (σ.2.2.1 168 (Int32.toNatClampNeg c)) from Int32.not_lt.mp (iva_168 hI _ (clamp19 hc)).1)
def stdM (σ : Sg) (c : Int32) : Int64 := stR (fun n => msB (σ.2.1 14034) (nI n) (LM σ c) (σ.2.2.1 168 (Int32.toNatClampNeg c))) 64
set_option maxRecDepth 100000 in
set_option maxHeartbeats 40000000 in
theorem ge_X9_stoodOf {G : vG} {l : Launch} (σ : Sg) (c : Int32) (hI : Inv σ) (hc : inR c 0 19) (hlm : ∀ l : Nat, l < 8 → inR (σ.2.2.1 167 l) 0 64) : Sp G l yX9_stoodOf cX9_stoodOf 5 (some .long) 3 0 0 [.ref 140, .int c] (WW σ) (QL (fun x w2 => w2 = WW σ ∧ x = stdM σ c)) := by
  refine Sp_of_R [(some (.ref 140)), (some (.int c)), none, none, none] [none, none, none] rfl (by simp) rfl (Nat.le_of_ble_eq_true rfl) ?_
  refine R_lconst (pc := 0) (v := 0) dX9_stoodOf_0 (by decide) ?_
  refine st_5_2_l_i (pc := 1) dX9_stoodOf_1 ?_
  refine R_iconst (pc := 2) (v := 0) dX9_stoodOf_2 (by decide) ?_
  refine st_5_4_i_n (pc := 3) dX9_stoodOf_3 ?_
  have HL5 : ∀ (q j5 : Nat) (g2_5 : Int64), j5 + q = 64 → 0 ≤ j5 → g2_5 = stR (fun n => msB (σ.2.1 14034) (nI n) (LM σ c) (σ.2.2.1 168 (Int32.toNatClampNeg c))) j5 → R G l yX9_stoodOf cX9_stoodOf 5 (some .long) 3 0 0 (QL (fun x w2 => w2 = WW σ ∧ x = stdM σ c)) 5 [(some (.ref 140)), (some (.int c)), (some (.long g2_5)), none, (some (.int (nI j5)))] [] (WW σ) 0 0 := by
    intro q
    induction q with
    | zero =>
      intro j5 g2_5 hj hs5 hX5_0
      obtain rfl : j5 = 64 := by omega
      refine R_iload (pc := 5) dX9_stoodOf_5 rfl ?_
      refine R_bipush (pc := 7) (v := 64) dX9_stoodOf_7 (by decide) ?_
      refine R_icge (pc := 9) 39 dX9_stoodOf_9 (by decide) (fun _ => ?_) (fun h => absurd (by decide) h)
      refine R_lload_n (pc := 39) dX9_stoodOf_39 rfl rfl ?_
      exact R_lret (pc := 40) dX9_stoodOf_40 rfl (Nat.zero_le _) (Nat.zero_le _) ⟨_, rfl, rfl, hX5_0⟩
    | succ q ih5 =>
      intro j5 g2_5 hj hs5 hX5_0
      have hrg5 : inR (nI j5) 0 63 := inR_ix hs5 (show j5 < 64 by omega) (by decide) (by decide) (by decide)
      have hlt5 : j5 < 64 := by omega
      refine R_iload (pc := 5) dX9_stoodOf_5 rfl ?_
      refine R_bipush (pc := 7) (v := 64) dX9_stoodOf_7 (by decide) ?_
      refine R_icge (pc := 9) 39 dX9_stoodOf_9 (by decide) (fun h => False.elim (by have q1 := ti_le h; have q2 := ti_in (show inR (nI j5) 0 63 from hrg5); have q3 := ti_in (show inR 64 64 64 from (inR_self _)); have z0 : (0 : Int32).toInt = 0 := (by decide);  have z1 : (63 : Int32).toInt = 63 := (by decide);  have z2 : (64 : Int32).toInt = 64 := (by decide); omega)) (fun _ => ?_)
      refine R_lload_n (pc := 12) dX9_stoodOf_12 rfl rfl ?_
      refine R_aload_n (pc := 13) dX9_stoodOf_13 rfl rfl ?_
      refine R_iload_n (pc := 14) dX9_stoodOf_14 rfl rfl ?_
      refine R_iload (pc := 15) dX9_stoodOf_15 rfl ?_
      refine k_X9_245 (pc := 17) (ge_X9_mayStand _ _ _ hI hc hrg5 hlm) rfl (c_140 _) (by decide) (Nat.le_refl _) (Nat.le_refl _) (Nat.le_of_ble_eq_true rfl) dX9_stoodOf_17 (fun x w2 h => ?_)
      rcases h with ⟨rfl, ⟨h3, rfl⟩ | ⟨h3, rfl⟩⟩
      · skip
        refine R_ifeq (pc := 20) 30 dX9_stoodOf_20 (by decide) (fun h => absurd h (by decide)) (fun _ => ?_)
        refine R_lconst (pc := 23) (v := 1) dX9_stoodOf_23 (by decide) ?_
        refine R_iload (pc := 24) dX9_stoodOf_24 rfl ?_
        refine R_lshl (pc := 26) dX9_stoodOf_26 ?_
        refine R_goto (pc := 27) 31 dX9_stoodOf_27 (by decide) ?_
        refine R_lor (pc := 31) dX9_stoodOf_31 ?_
        refine st_5_2_l_i (pc := 32) dX9_stoodOf_32 ?_
        refine inc_5_4_1_n (pc := 33) dX9_stoodOf_33 ?_
        have r5 : inR ((nI j5) + 1) 1 64 := inR_add (show inR (nI j5) 0 63 from hrg5) (show inR 1 1 1 from (inR_self _)) (by decide) (by decide)
        have e6 := ti_add (l := 1) (h := 64) (show inR (nI j5) 0 63 from hrg5) (show inR 1 1 1 from (inR_self _)) (by decide) (by decide)
        refine R_goto (pc := 36) 5 dX9_stoodOf_36 (by decide) ?_
        rw [nI_1]
        exact ih5 (j5 + 1) _ (by omega) (by omega) (st_t (f := (fun n => msB (σ.2.1 14034) (nI n) (LM σ c) (σ.2.2.1 168 (Int32.toNatClampNeg c)))) hX5_0 h3)
      · skip
        refine R_ifeq (pc := 20) 30 dX9_stoodOf_20 (by decide) (fun _ => ?_) (fun h => absurd (by decide) h)
        refine R_lconst (pc := 30) (v := 0) dX9_stoodOf_30 (by decide) ?_
        refine R_lor (pc := 31) dX9_stoodOf_31 ?_
        refine st_5_2_l_i (pc := 32) dX9_stoodOf_32 ?_
        refine inc_5_4_1_n (pc := 33) dX9_stoodOf_33 ?_
        have r8 : inR ((nI j5) + 1) 1 64 := inR_add (show inR (nI j5) 0 63 from hrg5) (show inR 1 1 1 from (inR_self _)) (by decide) (by decide)
        have e9 := ti_add (l := 1) (h := 64) (show inR (nI j5) 0 63 from hrg5) (show inR 1 1 1 from (inR_self _)) (by decide) (by decide)
        refine R_goto (pc := 36) 5 dX9_stoodOf_36 (by decide) ?_
        rw [nI_1]
        exact ih5 (j5 + 1) _ (by omega) (by omega) (st_f0 (f := (fun n => msB (σ.2.1 14034) (nI n) (LM σ c) (σ.2.2.1 168 (Int32.toNatClampNeg c)))) hX5_0 h3)
  exact HL5 64 0 _ (by omega) (by omega) rfl
