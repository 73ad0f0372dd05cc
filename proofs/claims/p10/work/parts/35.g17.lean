/-! methods on any state that keeps the invariant -/
theorem div8 (a : Int32) : (a / 8).toInt = a.toInt.tdiv 8 := by
  rw [Int32.toInt_div_of_ne_right _ _ (by decide)]
  rfl
theorem tdiv8 (x : Int) : -7 ≤ x - x.tdiv 8 * 8 ∧ x - x.tdiv 8 * 8 ≤ 7 ∧ (0 ≤ x → 0 ≤ x.tdiv 8 ∧ x.tdiv 8 * 8 ≤ x) ∧ (x ≤ 0 → x.tdiv 8 ≤ 0 ∧ x ≤ x.tdiv 8 * 8) := by
  rcases Int.le_total 0 x with hx | hx
  · rw [Int.tdiv_eq_ediv_of_nonneg hx]; omega
  · have e : x.tdiv 8 = -((-x) / 8) := by rw [← Int.tdiv_eq_ediv_of_nonneg (by omega), Int.neg_tdiv, Int.neg_neg]
    rw [e]; omega
theorem div8_in (a : Int32) : inR (a / 8) (-268435456) 268435455 := by
  have h := div8 a
  have r := ti_rng a
  have t := tdiv8 a.toInt
  have z1 : (-268435456 : Int32).toInt = -268435456 := by decide
  have z2 : (268435455 : Int32).toInt = 268435455 := by decide
  exact of_ti (by omega) (by omega)
theorem rem8_in (a : Int32) : inR (a - a / 8 * 8) (-7) 7 := by
  have h := div8 a
  have r := ti_rng a
  have t := tdiv8 a.toInt
  have z1 : (-7 : Int32).toInt = -7 := by decide
  have z2 : (7 : Int32).toInt = 7 := by decide
  have z3 : (8 : Int32).toInt = 8 := by decide
  have hp : (a / 8 * 8).toInt = a.toInt.tdiv 8 * 8 := by
    rw [Int32.toInt_mul, h, z3]; exact Int.bmod_eq_of_le (by omega) (by omega)
  have hs : (a - a / 8 * 8).toInt = a.toInt - a.toInt.tdiv 8 * 8 := by
    rw [Int32.toInt_sub, hp]; exact Int.bmod_eq_of_le (by omega) (by omega)
  exact of_ti (by omega) (by omega)

theorem ti_neg {a l h : Int32} (x : inR a l h) (hl : -2147483648 < l.toInt) : (-a).toInt = -a.toInt := by
  have q := ti_in x
  have r := ti_rng a
  rw [Int32.toInt_neg]; exact Int.bmod_eq_of_le (by omega) (by omega)
theorem dX9_isSeen_0 : decode cX9_isSeen 0 = .ok (.iload_n 2, 1) := by decide +kernel
theorem dX9_isSeen_1 : decode cX9_isSeen 1 = .ok (.bipush 8, 2) := by decide +kernel
theorem dX9_isSeen_3 : decode cX9_isSeen 3 = .ok (.irem, 1) := by decide +kernel
theorem dX9_isSeen_4 : decode cX9_isSeen 4 = .ok (.iload_n 1, 1) := by decide +kernel
theorem dX9_isSeen_5 : decode cX9_isSeen 5 = .ok (.bipush 8, 2) := by decide +kernel
theorem dX9_isSeen_7 : decode cX9_isSeen 7 = .ok (.irem, 1) := by decide +kernel
theorem dX9_isSeen_8 : decode cX9_isSeen 8 = .ok (.isub, 1) := by decide +kernel
theorem dX9_isSeen_9 : decode cX9_isSeen 9 = .ok (.istore_n 3, 1) := by decide +kernel
theorem dX9_isSeen_10 : decode cX9_isSeen 10 = .ok (.iload_n 2, 1) := by decide +kernel
theorem dX9_isSeen_11 : decode cX9_isSeen 11 = .ok (.bipush 8, 2) := by decide +kernel
theorem dX9_isSeen_13 : decode cX9_isSeen 13 = .ok (.idiv, 1) := by decide +kernel
theorem dX9_isSeen_14 : decode cX9_isSeen 14 = .ok (.iload_n 1, 1) := by decide +kernel
theorem dX9_isSeen_15 : decode cX9_isSeen 15 = .ok (.bipush 8, 2) := by decide +kernel
theorem dX9_isSeen_17 : decode cX9_isSeen 17 = .ok (.idiv, 1) := by decide +kernel
theorem dX9_isSeen_18 : decode cX9_isSeen 18 = .ok (.isub, 1) := by decide +kernel
theorem dX9_isSeen_19 : decode cX9_isSeen 19 = .ok (.istore 4, 2) := by decide +kernel
theorem dX9_isSeen_21 : decode cX9_isSeen 21 = .ok (.iload_n 3, 1) := by decide +kernel
theorem dX9_isSeen_22 : decode cX9_isSeen 22 = .ok (.ifCond .ge 8, 3) := by decide +kernel
theorem dX9_isSeen_25 : decode cX9_isSeen 25 = .ok (.iload_n 3, 1) := by decide +kernel
theorem dX9_isSeen_26 : decode cX9_isSeen 26 = .ok (.ineg, 1) := by decide +kernel
theorem dX9_isSeen_27 : decode cX9_isSeen 27 = .ok (.goto 4, 3) := by decide +kernel
theorem dX9_isSeen_30 : decode cX9_isSeen 30 = .ok (.iload_n 3, 1) := by decide +kernel
theorem dX9_isSeen_31 : decode cX9_isSeen 31 = .ok (.iload 4, 2) := by decide +kernel
theorem dX9_isSeen_33 : decode cX9_isSeen 33 = .ok (.ifCond .ge 9, 3) := by decide +kernel
theorem dX9_isSeen_36 : decode cX9_isSeen 36 = .ok (.iload 4, 2) := by decide +kernel
theorem dX9_isSeen_38 : decode cX9_isSeen 38 = .ok (.ineg, 1) := by decide +kernel
theorem dX9_isSeen_39 : decode cX9_isSeen 39 = .ok (.goto 5, 3) := by decide +kernel
theorem dX9_isSeen_42 : decode cX9_isSeen 42 = .ok (.iload 4, 2) := by decide +kernel
theorem dX9_isSeen_44 : decode cX9_isSeen 44 = .ok (.invokestatic 191, 3) := by decide +kernel
theorem dX9_isSeen_47 : decode cX9_isSeen 47 = .ok (.istore 5, 2) := by decide +kernel
theorem dX9_isSeen_49 : decode cX9_isSeen 49 = .ok (.iconst 1, 1) := by decide +kernel
theorem dX9_isSeen_50 : decode cX9_isSeen 50 = .ok (.istore 6, 2) := by decide +kernel
theorem dX9_isSeen_52 : decode cX9_isSeen 52 = .ok (.iconst 1, 1) := by decide +kernel
theorem dX9_isSeen_53 : decode cX9_isSeen 53 = .ok (.istore 7, 2) := by decide +kernel
theorem dX9_isSeen_55 : decode cX9_isSeen 55 = .ok (.iload 7, 2) := by decide +kernel
theorem dX9_isSeen_57 : decode cX9_isSeen 57 = .ok (.iload 5, 2) := by decide +kernel
theorem dX9_isSeen_59 : decode cX9_isSeen 59 = .ok (.if_icmp .ge 49, 3) := by decide +kernel
theorem dX9_isSeen_62 : decode cX9_isSeen 62 = .ok (.iload 6, 2) := by decide +kernel
theorem dX9_isSeen_64 : decode cX9_isSeen 64 = .ok (.ifCond .eq 35, 3) := by decide +kernel
theorem dX9_isSeen_67 : decode cX9_isSeen 67 = .ok (.aload_n 0, 1) := by decide +kernel
theorem dX9_isSeen_68 : decode cX9_isSeen 68 = .ok (.iload_n 1, 1) := by decide +kernel
theorem dX9_isSeen_69 : decode cX9_isSeen 69 = .ok (.iload 7, 2) := by decide +kernel
theorem dX9_isSeen_71 : decode cX9_isSeen 71 = .ok (.iload_n 3, 1) := by decide +kernel
theorem dX9_isSeen_72 : decode cX9_isSeen 72 = .ok (.iload 5, 2) := by decide +kernel
theorem dX9_isSeen_74 : decode cX9_isSeen 74 = .ok (.idiv, 1) := by decide +kernel
theorem dX9_isSeen_75 : decode cX9_isSeen 75 = .ok (.imul, 1) := by decide +kernel
theorem dX9_isSeen_76 : decode cX9_isSeen 76 = .ok (.iadd, 1) := by decide +kernel
theorem dX9_isSeen_77 : decode cX9_isSeen 77 = .ok (.bipush 8, 2) := by decide +kernel
theorem dX9_isSeen_79 : decode cX9_isSeen 79 = .ok (.iload 7, 2) := by decide +kernel
theorem dX9_isSeen_81 : decode cX9_isSeen 81 = .ok (.imul, 1) := by decide +kernel
theorem dX9_isSeen_82 : decode cX9_isSeen 82 = .ok (.iload 4, 2) := by decide +kernel
theorem dX9_isSeen_84 : decode cX9_isSeen 84 = .ok (.iload 5, 2) := by decide +kernel
theorem dX9_isSeen_86 : decode cX9_isSeen 86 = .ok (.idiv, 1) := by decide +kernel
theorem dX9_isSeen_87 : decode cX9_isSeen 87 = .ok (.imul, 1) := by decide +kernel
theorem dX9_isSeen_88 : decode cX9_isSeen 88 = .ok (.iadd, 1) := by decide +kernel
theorem dX9_isSeen_89 : decode cX9_isSeen 89 = .ok (.invokevirtual 236, 3) := by decide +kernel
theorem dX9_isSeen_92 : decode cX9_isSeen 92 = .ok (.ifCond .ne 7, 3) := by decide +kernel
theorem dX9_isSeen_95 : decode cX9_isSeen 95 = .ok (.iconst 1, 1) := by decide +kernel
theorem dX9_isSeen_96 : decode cX9_isSeen 96 = .ok (.goto 4, 3) := by decide +kernel
theorem dX9_isSeen_99 : decode cX9_isSeen 99 = .ok (.iconst 0, 1) := by decide +kernel
theorem dX9_isSeen_100 : decode cX9_isSeen 100 = .ok (.istore 6, 2) := by decide +kernel
theorem dX9_isSeen_102 : decode cX9_isSeen 102 = .ok (.iinc 7 1, 3) := by decide +kernel
theorem dX9_isSeen_105 : decode cX9_isSeen 105 = .ok (.goto (-50), 3) := by decide +kernel
theorem dX9_isSeen_108 : decode cX9_isSeen 108 = .ok (.iload 6, 2) := by decide +kernel
theorem dX9_isSeen_110 : decode cX9_isSeen 110 = .ok (.ireturn, 1) := by decide +kernel
set_option maxRecDepth 100000 in
set_option maxHeartbeats 40000000 in
theorem gx_X9_isSeen {G : vG} {l : Launch} (σ : Sg) (a b : Int32) (hI : Inv σ) : Sp G l yX9_isSeen cX9_isSeen 8 (some .boolean) 1 0 0 [.ref 140, .int a, .int b] (WW σ) (QI (fun x w2 => w2 = WW σ)) := by
  refine Sp_of_R [(some (.ref 140)), (some (.int a)), (some (.int b)), none, none, none, none, none] [none, none, none, none, none] rfl (by simp) rfl (Nat.le_of_ble_eq_true rfl) ?_
  refine R_iload_n (pc := 0) dX9_isSeen_0 rfl rfl ?_
  refine R_bipush (pc := 1) (v := 8) dX9_isSeen_1 (by decide) ?_
  refine R_irem (pc := 3) dX9_isSeen_3 (by decide) ?_
  refine R_iload_n (pc := 4) dX9_isSeen_4 rfl rfl ?_
  refine R_bipush (pc := 5) (v := 8) dX9_isSeen_5 (by decide) ?_
  refine R_irem (pc := 7) dX9_isSeen_7 (by decide) ?_
  refine R_isub (pc := 8) dX9_isSeen_8 ?_
  have r1 : inR ((b - b / 8 * 8) - (a - a / 8 * 8)) (-14) 14 := inR_sub (show inR (b - b / 8 * 8) (-7) 7 from (rem8_in b)) (show inR (a - a / 8 * 8) (-7) 7 from (rem8_in a)) (by decide) (by decide)
  have e2 := ti_sub (l := (-14)) (h := 14) (show inR (b - b / 8 * 8) (-7) 7 from (rem8_in b)) (show inR (a - a / 8 * 8) (-7) 7 from (rem8_in a)) (by decide) (by decide)
  refine st_8_3_i_i (pc := 9) dX9_isSeen_9 ?_
  refine R_iload_n (pc := 10) dX9_isSeen_10 rfl rfl ?_
  refine R_bipush (pc := 11) (v := 8) dX9_isSeen_11 (by decide) ?_
  refine R_idiv (pc := 13) dX9_isSeen_13 (by decide) ?_
  refine R_iload_n (pc := 14) dX9_isSeen_14 rfl rfl ?_
  refine R_bipush (pc := 15) (v := 8) dX9_isSeen_15 (by decide) ?_
  refine R_idiv (pc := 17) dX9_isSeen_17 (by decide) ?_
  refine R_isub (pc := 18) dX9_isSeen_18 ?_
  have r3 : inR ((b / 8) - (a / 8)) (-536870911) 536870911 := inR_sub (show inR (b / 8) (-268435456) 268435455 from (div8_in b)) (show inR (a / 8) (-268435456) 268435455 from (div8_in a)) (by decide) (by decide)
  have e4 := ti_sub (l := (-536870911)) (h := 536870911) (show inR (b / 8) (-268435456) 268435455 from (div8_in b)) (show inR (a / 8) (-268435456) 268435455 from (div8_in a)) (by decide) (by decide)
  refine st_8_4_i_i (pc := 19) dX9_isSeen_19 ?_
  refine R_iload_n (pc := 21) dX9_isSeen_21 rfl rfl ?_
  refine R_ifge (pc := 22) 30 dX9_isSeen_22 (by decide) (fun b22_5 => ?_) (fun b22_5 => ?_)
  · skip
    refine R_iload_n (pc := 30) dX9_isSeen_30 rfl rfl ?_
    refine R_iload (pc := 31) dX9_isSeen_31 rfl ?_
    refine R_ifge (pc := 33) 42 dX9_isSeen_33 (by decide) (fun b33_6 => ?_) (fun b33_6 => ?_)
    · skip
      refine R_iload (pc := 42) dX9_isSeen_42 rfl ?_
      refine k_X9_191 (pc := 44) (gx_X9_common _ _ _ (by have q0 := e2; have q1 := e4; have q2 := ti_le b22_5; have q3 := ti_le b33_6; have q4 := ti_in (rem8_in b); have q5 := ti_in (rem8_in a); have q6 := ti_in r1; have q7 := ti_in (div8_in b); have q8 := ti_in (div8_in a); have q9 := ti_in r3; have z0 : (-14 : Int32).toInt = -14 := (by decide); have z1 : (-268435456 : Int32).toInt = -268435456 := (by decide); have z2 : (-536870911 : Int32).toInt = -536870911 := (by decide); have z3 : (-7 : Int32).toInt = -7 := (by decide); have z4 : (0 : Int32).toInt = 0 := (by decide); have z5 : (1 : Int32).toInt = 1 := (by decide); have z6 : (14 : Int32).toInt = 14 := (by decide); have z7 : (268435455 : Int32).toInt = 268435455 := (by decide); have z8 : (536870911 : Int32).toInt = 536870911 := (by decide); have z9 : (7 : Int32).toInt = 7 := (by decide); have z10 : (8 : Int32).toInt = 8 := (by decide); omega) (by have q0 := e2; have q1 := e4; have q2 := ti_le b22_5; have q3 := ti_le b33_6; have q4 := ti_in (rem8_in b); have q5 := ti_in (rem8_in a); have q6 := ti_in r1; have q7 := ti_in (div8_in b); have q8 := ti_in (div8_in a); have q9 := ti_in r3; have z0 : (-14 : Int32).toInt = -14 := (by decide); have z1 : (-268435456 : Int32).toInt = -268435456 := (by decide); have z2 : (-536870911 : Int32).toInt = -536870911 := (by decide); have z3 : (-7 : Int32).toInt = -7 := (by decide); have z4 : (0 : Int32).toInt = 0 := (by decide); have z5 : (1 : Int32).toInt = 1 := (by decide); have z6 : (14 : Int32).toInt = 14 := (by decide); have z7 : (268435455 : Int32).toInt = 268435455 := (by decide); have z8 : (536870911 : Int32).toInt = 536870911 := (by decide); have z9 : (7 : Int32).toInt = 7 := (by decide); have z10 : (8 : Int32).toInt = 8 := (by decide); omega)) rfl (by decide) (Nat.le_refl _) (Nat.le_refl _) (Nat.le_of_ble_eq_true rfl) dX9_isSeen_44 (fun y7 w2 h => ?_)
      obtain ⟨rfl, -, -⟩ := h
      refine st_8_5_i_i (pc := 47) dX9_isSeen_47 ?_
      refine R_iconst (pc := 49) (v := 1) dX9_isSeen_49 (by decide) ?_
      refine st_8_6_i_i (pc := 50) dX9_isSeen_50 ?_
      refine R_iconst (pc := 52) (v := 1) dX9_isSeen_52 (by decide) ?_
      refine st_8_7_i_i (pc := 53) dX9_isSeen_53 ?_
      have HL55 : ∀ (q : Nat) (i55 : Int32) (g6_55 : Int32), i55.toInt + (q : Int) = 2147483647 → inR i55 1 2147483647 → inR g6_55 0 1 → R G l yX9_isSeen cX9_isSeen 8 (some .boolean) 1 0 0 (QI (fun x w2 => w2 = WW σ)) 55 [(some (.ref 140)), (some (.int a)), (some (.int b)), (some (.int ((b - b / 8 * 8) - (a - a / 8 * 8)))), (some (.int ((b / 8) - (a / 8)))), (some (.int y7)), (some (.int g6_55)), (some (.int i55))] [] (WW σ) 0 0 := by
        intro q
        induction q with
        | zero =>
          intro i55 g6_55 hj55 hrg55 hg6_55
          have hM55_ : inR i55 2147483647 2147483647 := of_ti (by have z : (2147483647 : Int32).toInt = 2147483647 := (by decide); omega) (by have z : (2147483647 : Int32).toInt = 2147483647 := (by decide); omega)
          refine R_iload (pc := 55) dX9_isSeen_55 rfl ?_
          refine R_iload (pc := 57) dX9_isSeen_57 rfl ?_
          refine R_icge (pc := 59) 108 dX9_isSeen_59 (by decide) (fun _ => ?_) (fun h => False.elim (by have q1 := ti_nle h; have q2 := ti_in (show inR i55 2147483647 2147483647 from hM55_); have q3 := ti_in (show inR y7 (-2147483648) 2147483647 from (inR_any y7)); have z0 : (-2147483648 : Int32).toInt = (-2147483648) := (by decide);  have z1 : (2147483647 : Int32).toInt = 2147483647 := (by decide); omega))
          refine R_iload (pc := 108) dX9_isSeen_108 rfl ?_
          exact R_iret (pc := 110) dX9_isSeen_110 rfl (nar01 hg6_55) (Nat.zero_le _) (Nat.zero_le _) ⟨_, rfl, rfl⟩
        | succ q ih55 =>
          intro i55 g6_55 hj55 hrg55 hg6_55
          have hM55_ : inR i55 1 2147483646 := of_ti (ti_in hrg55).1 (by have z : (2147483646 : Int32).toInt = 2147483646 := (by decide); omega)
          refine R_iload (pc := 55) dX9_isSeen_55 rfl ?_
          refine R_iload (pc := 57) dX9_isSeen_57 rfl ?_
          refine R_icge (pc := 59) 108 dX9_isSeen_59 (by decide) (fun b59_9 => ?_) (fun b59_9 => ?_)
          · skip
            refine R_iload (pc := 108) dX9_isSeen_108 rfl ?_
            exact R_iret (pc := 110) dX9_isSeen_110 rfl (nar01 hg6_55) (Nat.zero_le _) (Nat.zero_le _) ⟨_, rfl, rfl⟩
          · skip
            refine R_iload (pc := 62) dX9_isSeen_62 rfl ?_
            refine R_ifeq (pc := 64) 99 dX9_isSeen_64 (by decide) (fun b64_10 => ?_) (fun b64_10 => ?_)
            · skip
              refine R_iconst (pc := 99) (v := 0) dX9_isSeen_99 (by decide) ?_
              refine st_8_6_i_i (pc := 100) dX9_isSeen_100 ?_
              refine inc_8_7_1_i (pc := 102) dX9_isSeen_102 ?_
              have r11 : inR (i55 + 1) 2 2147483647 := inR_add (show inR i55 1 2147483646 from hM55_) (show inR 1 1 1 from (inR_self _)) (by decide) (by decide)
              have e12 := ti_add (l := 2) (h := 2147483647) (show inR i55 1 2147483646 from hM55_) (show inR 1 1 1 from (inR_self _)) (by decide) (by decide)
              refine R_goto (pc := 105) 55 dX9_isSeen_105 (by decide) ?_
              exact ih55 (i55 + 1) _ (by have q0 := e2; have q1 := e4; have q2 := e12; have q3 := ti_le b22_5; have q4 := ti_le b33_6; have q5 := ti_nle b59_9; have q6 := ti_eq b64_10; have q7 := ti_in (rem8_in b); have q8 := ti_in (rem8_in a); have q9 := ti_in r1; have q10 := ti_in (div8_in b); have q11 := ti_in (div8_in a); have q12 := ti_in r3; have q13 := ti_in (inR_any y7); have q14 := ti_in hg6_55; have q15 := ti_in hM55_; have q16 := ti_in r11; have q17 := hj55; have z0 : (-14 : Int32).toInt = -14 := (by decide); have z1 : (-2147483648 : Int32).toInt = -2147483648 := (by decide); have z2 : (-268435456 : Int32).toInt = -268435456 := (by decide); have z3 : (-536870911 : Int32).toInt = -536870911 := (by decide); have z4 : (-7 : Int32).toInt = -7 := (by decide); have z5 : (0 : Int32).toInt = 0 := (by decide); have z6 : (1 : Int32).toInt = 1 := (by decide); have z7 : (14 : Int32).toInt = 14 := (by decide); have z8 : (2 : Int32).toInt = 2 := (by decide); have z9 : (2147483646 : Int32).toInt = 2147483646 := (by decide); have z10 : (2147483647 : Int32).toInt = 2147483647 := (by decide); have z11 : (268435455 : Int32).toInt = 268435455 := (by decide); have z12 : (536870911 : Int32).toInt = 536870911 := (by decide); have z13 : (7 : Int32).toInt = 7 := (by decide); have z14 : (8 : Int32).toInt = 8 := (by decide); omega) (inR_up r11 (by decide) (by decide)) (show inR 0 0 1 from ⟨by decide, by decide⟩)
            · skip
              refine R_aload_n (pc := 67) dX9_isSeen_67 rfl rfl ?_
              refine R_iload_n (pc := 68) dX9_isSeen_68 rfl rfl ?_
              refine R_iload (pc := 69) dX9_isSeen_69 rfl ?_
              refine R_iload_n (pc := 71) dX9_isSeen_71 rfl rfl ?_
              refine R_iload (pc := 72) dX9_isSeen_72 rfl ?_
              refine R_idiv (pc := 74) dX9_isSeen_74 (fun h => by have q := ti_eq h; have q0 := e2; have q1 := e4; have q2 := ti_le b22_5; have q3 := ti_le b33_6; have q4 := ti_nle b59_9; have q5 := ti_ne b64_10; have q6 := ti_in (rem8_in b); have q7 := ti_in (rem8_in a); have q8 := ti_in r1; have q9 := ti_in (div8_in b); have q10 := ti_in (div8_in a); have q11 := ti_in r3; have q12 := ti_in (inR_any y7); have q13 := ti_in hg6_55; have q14 := ti_in hM55_; have z0 : (-14 : Int32).toInt = -14 := (by decide); have z1 : (-2147483648 : Int32).toInt = -2147483648 := (by decide); have z2 : (-268435456 : Int32).toInt = -268435456 := (by decide); have z3 : (-536870911 : Int32).toInt = -536870911 := (by decide); have z4 : (-7 : Int32).toInt = -7 := (by decide); have z5 : (0 : Int32).toInt = 0 := (by decide); have z6 : (1 : Int32).toInt = 1 := (by decide); have z7 : (14 : Int32).toInt = 14 := (by decide); have z8 : (2147483646 : Int32).toInt = 2147483646 := (by decide); have z9 : (2147483647 : Int32).toInt = 2147483647 := (by decide); have z10 : (268435455 : Int32).toInt = 268435455 := (by decide); have z11 : (536870911 : Int32).toInt = 536870911 := (by decide); have z12 : (7 : Int32).toInt = 7 := (by decide); have z13 : (8 : Int32).toInt = 8 := (by decide); omega) ?_
              refine R_imul (pc := 75) dX9_isSeen_75 ?_
              refine R_iadd (pc := 76) dX9_isSeen_76 ?_
              refine R_bipush (pc := 77) (v := 8) dX9_isSeen_77 (by decide) ?_
              refine R_iload (pc := 79) dX9_isSeen_79 rfl ?_
              refine R_imul (pc := 81) dX9_isSeen_81 ?_
              refine R_iload (pc := 82) dX9_isSeen_82 rfl ?_
              refine R_iload (pc := 84) dX9_isSeen_84 rfl ?_
              refine R_idiv (pc := 86) dX9_isSeen_86 (fun h => by have q := ti_eq h; have q0 := e2; have q1 := e4; have q2 := ti_le b22_5; have q3 := ti_le b33_6; have q4 := ti_nle b59_9; have q5 := ti_ne b64_10; have q6 := ti_in (rem8_in b); have q7 := ti_in (rem8_in a); have q8 := ti_in r1; have q9 := ti_in (div8_in b); have q10 := ti_in (div8_in a); have q11 := ti_in r3; have q12 := ti_in (inR_any y7); have q13 := ti_in hg6_55; have q14 := ti_in hM55_; have z0 : (-14 : Int32).toInt = -14 := (by decide); have z1 : (-2147483648 : Int32).toInt = -2147483648 := (by decide); have z2 : (-268435456 : Int32).toInt = -268435456 := (by decide); have z3 : (-536870911 : Int32).toInt = -536870911 := (by decide); have z4 : (-7 : Int32).toInt = -7 := (by decide); have z5 : (0 : Int32).toInt = 0 := (by decide); have z6 : (1 : Int32).toInt = 1 := (by decide); have z7 : (14 : Int32).toInt = 14 := (by decide); have z8 : (2147483646 : Int32).toInt = 2147483646 := (by decide); have z9 : (2147483647 : Int32).toInt = 2147483647 := (by decide); have z10 : (268435455 : Int32).toInt = 268435455 := (by decide); have z11 : (536870911 : Int32).toInt = 536870911 := (by decide); have z12 : (7 : Int32).toInt = 7 := (by decide); have z13 : (8 : Int32).toInt = 8 := (by decide); omega) ?_
              refine R_imul (pc := 87) dX9_isSeen_87 ?_
              refine R_iadd (pc := 88) dX9_isSeen_88 ?_
              refine k_X9_236 (pc := 89) (gx_X9_isWall _ _ hI) rfl (c_140 _) (by decide) (Nat.le_refl _) (Nat.le_refl _) (Nat.le_of_ble_eq_true rfl) dX9_isSeen_89 (fun x w2 h => ?_)
              rcases h with ⟨rfl, rfl | rfl⟩
              · skip
                refine R_ifne (pc := 92) 99 dX9_isSeen_92 (by decide) (fun _ => ?_) (fun h => absurd h (by decide))
                refine R_iconst (pc := 99) (v := 0) dX9_isSeen_99 (by decide) ?_
                refine st_8_6_i_i (pc := 100) dX9_isSeen_100 ?_
                refine inc_8_7_1_i (pc := 102) dX9_isSeen_102 ?_
                have r15 : inR (i55 + 1) 2 2147483647 := inR_add (show inR i55 1 2147483646 from hM55_) (show inR 1 1 1 from (inR_self _)) (by decide) (by decide)
                have e16 := ti_add (l := 2) (h := 2147483647) (show inR i55 1 2147483646 from hM55_) (show inR 1 1 1 from (inR_self _)) (by decide) (by decide)
                refine R_goto (pc := 105) 55 dX9_isSeen_105 (by decide) ?_
                exact ih55 (i55 + 1) _ (by have q0 := e2; have q1 := e4; have q2 := e16; have q3 := ti_le b22_5; have q4 := ti_le b33_6; have q5 := ti_nle b59_9; have q6 := ti_ne b64_10; have q7 := ti_in (rem8_in b); have q8 := ti_in (rem8_in a); have q9 := ti_in r1; have q10 := ti_in (div8_in b); have q11 := ti_in (div8_in a); have q12 := ti_in r3; have q13 := ti_in (inR_any y7); have q14 := ti_in hg6_55; have q15 := ti_in hM55_; have q16 := ti_in r15; have q17 := hj55; have z0 : (-14 : Int32).toInt = -14 := (by decide); have z1 : (-2147483648 : Int32).toInt = -2147483648 := (by decide); have z2 : (-268435456 : Int32).toInt = -268435456 := (by decide); have z3 : (-536870911 : Int32).toInt = -536870911 := (by decide); have z4 : (-7 : Int32).toInt = -7 := (by decide); have z5 : (0 : Int32).toInt = 0 := (by decide); have z6 : (1 : Int32).toInt = 1 := (by decide); have z7 : (14 : Int32).toInt = 14 := (by decide); have z8 : (2 : Int32).toInt = 2 := (by decide); have z9 : (2147483646 : Int32).toInt = 2147483646 := (by decide); have z10 : (2147483647 : Int32).toInt = 2147483647 := (by decide); have z11 : (268435455 : Int32).toInt = 268435455 := (by decide); have z12 : (536870911 : Int32).toInt = 536870911 := (by decide); have z13 : (7 : Int32).toInt = 7 := (by decide); have z14 : (8 : Int32).toInt = 8 := (by decide); omega) (inR_up r15 (by decide) (by decide)) (show inR 0 0 1 from ⟨by decide, by decide⟩)
              · skip
                refine R_ifne (pc := 92) 99 dX9_isSeen_92 (by decide) (fun h => absurd (by decide) h) (fun _ => ?_)
                refine R_iconst (pc := 95) (v := 1) dX9_isSeen_95 (by decide) ?_
                refine R_goto (pc := 96) 100 dX9_isSeen_96 (by decide) ?_
                refine st_8_6_i_i (pc := 100) dX9_isSeen_100 ?_
                refine inc_8_7_1_i (pc := 102) dX9_isSeen_102 ?_
                have r18 : inR (i55 + 1) 2 2147483647 := inR_add (show inR i55 1 2147483646 from hM55_) (show inR 1 1 1 from (inR_self _)) (by decide) (by decide)
                have e19 := ti_add (l := 2) (h := 2147483647) (show inR i55 1 2147483646 from hM55_) (show inR 1 1 1 from (inR_self _)) (by decide) (by decide)
                refine R_goto (pc := 105) 55 dX9_isSeen_105 (by decide) ?_
                exact ih55 (i55 + 1) _ (by have q0 := e2; have q1 := e4; have q2 := e19; have q3 := ti_le b22_5; have q4 := ti_le b33_6; have q5 := ti_nle b59_9; have q6 := ti_ne b64_10; have q7 := ti_in (rem8_in b); have q8 := ti_in (rem8_in a); have q9 := ti_in r1; have q10 := ti_in (div8_in b); have q11 := ti_in (div8_in a); have q12 := ti_in r3; have q13 := ti_in (inR_any y7); have q14 := ti_in hg6_55; have q15 := ti_in hM55_; have q16 := ti_in r18; have q17 := hj55; have z0 : (-14 : Int32).toInt = -14 := (by decide); have z1 : (-2147483648 : Int32).toInt = -2147483648 := (by decide); have z2 : (-268435456 : Int32).toInt = -268435456 := (by decide); have z3 : (-536870911 : Int32).toInt = -536870911 := (by decide); have z4 : (-7 : Int32).toInt = -7 := (by decide); have z5 : (0 : Int32).toInt = 0 := (by decide); have z6 : (1 : Int32).toInt = 1 := (by decide); have z7 : (14 : Int32).toInt = 14 := (by decide); have z8 : (2 : Int32).toInt = 2 := (by decide); have z9 : (2147483646 : Int32).toInt = 2147483646 := (by decide); have z10 : (2147483647 : Int32).toInt = 2147483647 := (by decide); have z11 : (268435455 : Int32).toInt = 268435455 := (by decide); have z12 : (536870911 : Int32).toInt = 536870911 := (by decide); have z13 : (7 : Int32).toInt = 7 := (by decide); have z14 : (8 : Int32).toInt = 8 := (by decide); omega) (inR_up r18 (by decide) (by decide)) (show inR 1 0 1 from ⟨by decide, by decide⟩)
      exact HL55 2147483646 1 _ (by decide) (show inR 1 1 2147483647 from ⟨by decide, by decide⟩) (show inR 1 0 1 from ⟨by decide, by decide⟩)
    · skip
      refine R_iload (pc := 36) dX9_isSeen_36 rfl ?_
      refine R_ineg (pc := 38) dX9_isSeen_38 ?_
      have e20 := ti_neg (show inR ((b / 8) - (a / 8)) (-536870911) 536870911 from r3) (by decide)
      refine R_goto (pc := 39) 44 dX9_isSeen_39 (by decide) ?_
      refine k_X9_191 (pc := 44) (gx_X9_common _ _ _ (by have q0 := e2; have q1 := e4; have q2 := e20; have q3 := ti_le b22_5; have q4 := ti_nle b33_6; have q5 := ti_in (rem8_in b); have q6 := ti_in (rem8_in a); have q7 := ti_in r1; have q8 := ti_in (div8_in b); have q9 := ti_in (div8_in a); have q10 := ti_in r3; have z0 : (-14 : Int32).toInt = -14 := (by decide); have z1 : (-268435456 : Int32).toInt = -268435456 := (by decide); have z2 : (-536870911 : Int32).toInt = -536870911 := (by decide); have z3 : (-7 : Int32).toInt = -7 := (by decide); have z4 : (0 : Int32).toInt = 0 := (by decide); have z5 : (1 : Int32).toInt = 1 := (by decide); have z6 : (14 : Int32).toInt = 14 := (by decide); have z7 : (268435455 : Int32).toInt = 268435455 := (by decide); have z8 : (536870911 : Int32).toInt = 536870911 := (by decide); have z9 : (7 : Int32).toInt = 7 := (by decide); have z10 : (8 : Int32).toInt = 8 := (by decide); omega) (by have q0 := e2; have q1 := e4; have q2 := e20; have q3 := ti_le b22_5; have q4 := ti_nle b33_6; have q5 := ti_in (rem8_in b); have q6 := ti_in (rem8_in a); have q7 := ti_in r1; have q8 := ti_in (div8_in b); have q9 := ti_in (div8_in a); have q10 := ti_in r3; have z0 : (-14 : Int32).toInt = -14 := (by decide); have z1 : (-268435456 : Int32).toInt = -268435456 := (by decide); have z2 : (-536870911 : Int32).toInt = -536870911 := (by decide); have z3 : (-7 : Int32).toInt = -7 := (by decide); have z4 : (0 : Int32).toInt = 0 := (by decide); have z5 : (1 : Int32).toInt = 1 := (by decide); have z6 : (14 : Int32).toInt = 14 := (by decide); have z7 : (268435455 : Int32).toInt = 268435455 := (by decide); have z8 : (536870911 : Int32).toInt = 536870911 := (by decide); have z9 : (7 : Int32).toInt = 7 := (by decide); have z10 : (8 : Int32).toInt = 8 := (by decide); omega)) rfl (by decide) (Nat.le_refl _) (Nat.le_refl _) (Nat.le_of_ble_eq_true rfl) dX9_isSeen_44 (fun y21 w2 h => ?_)
      obtain ⟨rfl, -, -⟩ := h
      refine st_8_5_i_i (pc := 47) dX9_isSeen_47 ?_
      refine R_iconst (pc := 49) (v := 1) dX9_isSeen_49 (by decide) ?_
      refine st_8_6_i_i (pc := 50) dX9_isSeen_50 ?_
      refine R_iconst (pc := 52) (v := 1) dX9_isSeen_52 (by decide) ?_
      refine st_8_7_i_i (pc := 53) dX9_isSeen_53 ?_
      have HL55 : ∀ (q : Nat) (i55 : Int32) (g6_55 : Int32), i55.toInt + (q : Int) = 2147483647 → inR i55 1 2147483647 → inR g6_55 0 1 → R G l yX9_isSeen cX9_isSeen 8 (some .boolean) 1 0 0 (QI (fun x w2 => w2 = WW σ)) 55 [(some (.ref 140)), (some (.int a)), (some (.int b)), (some (.int ((b - b / 8 * 8) - (a - a / 8 * 8)))), (some (.int ((b / 8) - (a / 8)))), (some (.int y21)), (some (.int g6_55)), (some (.int i55))] [] (WW σ) 0 0 := by
        intro q
        induction q with
        | zero =>
          intro i55 g6_55 hj55 hrg55 hg6_55
          have hM55_ : inR i55 2147483647 2147483647 := of_ti (by have z : (2147483647 : Int32).toInt = 2147483647 := (by decide); omega) (by have z : (2147483647 : Int32).toInt = 2147483647 := (by decide); omega)
          refine R_iload (pc := 55) dX9_isSeen_55 rfl ?_
          refine R_iload (pc := 57) dX9_isSeen_57 rfl ?_
          refine R_icge (pc := 59) 108 dX9_isSeen_59 (by decide) (fun _ => ?_) (fun h => False.elim (by have q1 := ti_nle h; have q2 := ti_in (show inR i55 2147483647 2147483647 from hM55_); have q3 := ti_in (show inR y21 (-2147483648) 2147483647 from (inR_any y21)); have z0 : (-2147483648 : Int32).toInt = (-2147483648) := (by decide);  have z1 : (2147483647 : Int32).toInt = 2147483647 := (by decide); omega))
          refine R_iload (pc := 108) dX9_isSeen_108 rfl ?_
          exact R_iret (pc := 110) dX9_isSeen_110 rfl (nar01 hg6_55) (Nat.zero_le _) (Nat.zero_le _) ⟨_, rfl, rfl⟩
        | succ q ih55 =>
          intro i55 g6_55 hj55 hrg55 hg6_55
          have hM55_ : inR i55 1 2147483646 := of_ti (ti_in hrg55).1 (by have z : (2147483646 : Int32).toInt = 2147483646 := (by decide); omega)
          refine R_iload (pc := 55) dX9_isSeen_55 rfl ?_
          refine R_iload (pc := 57) dX9_isSeen_57 rfl ?_
          refine R_icge (pc := 59) 108 dX9_isSeen_59 (by decide) (fun b59_23 => ?_) (fun b59_23 => ?_)
          · skip
            refine R_iload (pc := 108) dX9_isSeen_108 rfl ?_
            exact R_iret (pc := 110) dX9_isSeen_110 rfl (nar01 hg6_55) (Nat.zero_le _) (Nat.zero_le _) ⟨_, rfl, rfl⟩
          · skip
            refine R_iload (pc := 62) dX9_isSeen_62 rfl ?_
            refine R_ifeq (pc := 64) 99 dX9_isSeen_64 (by decide) (fun b64_24 => ?_) (fun b64_24 => ?_)
            · skip
              refine R_iconst (pc := 99) (v := 0) dX9_isSeen_99 (by decide) ?_
              refine st_8_6_i_i (pc := 100) dX9_isSeen_100 ?_
              refine inc_8_7_1_i (pc := 102) dX9_isSeen_102 ?_
              have r25 : inR (i55 + 1) 2 2147483647 := inR_add (show inR i55 1 2147483646 from hM55_) (show inR 1 1 1 from (inR_self _)) (by decide) (by decide)
              have e26 := ti_add (l := 2) (h := 2147483647) (show inR i55 1 2147483646 from hM55_) (show inR 1 1 1 from (inR_self _)) (by decide) (by decide)
              refine R_goto (pc := 105) 55 dX9_isSeen_105 (by decide) ?_
              exact ih55 (i55 + 1) _ (by have q0 := e2; have q1 := e4; have q2 := e20; have q3 := e26; have q4 := ti_le b22_5; have q5 := ti_nle b33_6; have q6 := ti_nle b59_23; have q7 := ti_eq b64_24; have q8 := ti_in (rem8_in b); have q9 := ti_in (rem8_in a); have q10 := ti_in r1; have q11 := ti_in (div8_in b); have q12 := ti_in (div8_in a); have q13 := ti_in r3; have q14 := ti_in (inR_any y21); have q15 := ti_in hg6_55; have q16 := ti_in hM55_; have q17 := ti_in r25; have q18 := hj55; have z0 : (-14 : Int32).toInt = -14 := (by decide); have z1 : (-2147483648 : Int32).toInt = -2147483648 := (by decide); have z2 : (-268435456 : Int32).toInt = -268435456 := (by decide); have z3 : (-536870911 : Int32).toInt = -536870911 := (by decide); have z4 : (-7 : Int32).toInt = -7 := (by decide); have z5 : (0 : Int32).toInt = 0 := (by decide); have z6 : (1 : Int32).toInt = 1 := (by decide); have z7 : (14 : Int32).toInt = 14 := (by decide); have z8 : (2 : Int32).toInt = 2 := (by decide); have z9 : (2147483646 : Int32).toInt = 2147483646 := (by decide); have z10 : (2147483647 : Int32).toInt = 2147483647 := (by decide); have z11 : (268435455 : Int32).toInt = 268435455 := (by decide); have z12 : (536870911 : Int32).toInt = 536870911 := (by decide); have z13 : (7 : Int32).toInt = 7 := (by decide); have z14 : (8 : Int32).toInt = 8 := (by decide); omega) (inR_up r25 (by decide) (by decide)) (show inR 0 0 1 from ⟨by decide, by decide⟩)
            · skip
              refine R_aload_n (pc := 67) dX9_isSeen_67 rfl rfl ?_
              refine R_iload_n (pc := 68) dX9_isSeen_68 rfl rfl ?_
              refine R_iload (pc := 69) dX9_isSeen_69 rfl ?_
              refine R_iload_n (pc := 71) dX9_isSeen_71 rfl rfl ?_
              refine R_iload (pc := 72) dX9_isSeen_72 rfl ?_
              refine R_idiv (pc := 74) dX9_isSeen_74 (fun h => by have q := ti_eq h; have q0 := e2; have q1 := e4; have q2 := e20; have q3 := ti_le b22_5; have q4 := ti_nle b33_6; have q5 := ti_nle b59_23; have q6 := ti_ne b64_24; have q7 := ti_in (rem8_in b); have q8 := ti_in (rem8_in a); have q9 := ti_in r1; have q10 := ti_in (div8_in b); have q11 := ti_in (div8_in a); have q12 := ti_in r3; have q13 := ti_in (inR_any y21); have q14 := ti_in hg6_55; have q15 := ti_in hM55_; have z0 : (-14 : Int32).toInt = -14 := (by decide); have z1 : (-2147483648 : Int32).toInt = -2147483648 := (by decide); have z2 : (-268435456 : Int32).toInt = -268435456 := (by decide); have z3 : (-536870911 : Int32).toInt = -536870911 := (by decide); have z4 : (-7 : Int32).toInt = -7 := (by decide); have z5 : (0 : Int32).toInt = 0 := (by decide); have z6 : (1 : Int32).toInt = 1 := (by decide); have z7 : (14 : Int32).toInt = 14 := (by decide); have z8 : (2147483646 : Int32).toInt = 2147483646 := (by decide); have z9 : (2147483647 : Int32).toInt = 2147483647 := (by decide); have z10 : (268435455 : Int32).toInt = 268435455 := (by decide); have z11 : (536870911 : Int32).toInt = 536870911 := (by decide); have z12 : (7 : Int32).toInt = 7 := (by decide); have z13 : (8 : Int32).toInt = 8 := (by decide); omega) ?_
              refine R_imul (pc := 75) dX9_isSeen_75 ?_
              refine R_iadd (pc := 76) dX9_isSeen_76 ?_
              refine R_bipush (pc := 77) (v := 8) dX9_isSeen_77 (by decide) ?_
              refine R_iload (pc := 79) dX9_isSeen_79 rfl ?_
              refine R_imul (pc := 81) dX9_isSeen_81 ?_
              refine R_iload (pc := 82) dX9_isSeen_82 rfl ?_
              refine R_iload (pc := 84) dX9_isSeen_84 rfl ?_
              refine R_idiv (pc := 86) dX9_isSeen_86 (fun h => by have q := ti_eq h; have q0 := e2; have q1 := e4; have q2 := e20; have q3 := ti_le b22_5; have q4 := ti_nle b33_6; have q5 := ti_nle b59_23; have q6 := ti_ne b64_24; have q7 := ti_in (rem8_in b); have q8 := ti_in (rem8_in a); have q9 := ti_in r1; have q10 := ti_in (div8_in b); have q11 := ti_in (div8_in a); have q12 := ti_in r3; have q13 := ti_in (inR_any y21); have q14 := ti_in hg6_55; have q15 := ti_in hM55_; have z0 : (-14 : Int32).toInt = -14 := (by decide); have z1 : (-2147483648 : Int32).toInt = -2147483648 := (by decide); have z2 : (-268435456 : Int32).toInt = -268435456 := (by decide); have z3 : (-536870911 : Int32).toInt = -536870911 := (by decide); have z4 : (-7 : Int32).toInt = -7 := (by decide); have z5 : (0 : Int32).toInt = 0 := (by decide); have z6 : (1 : Int32).toInt = 1 := (by decide); have z7 : (14 : Int32).toInt = 14 := (by decide); have z8 : (2147483646 : Int32).toInt = 2147483646 := (by decide); have z9 : (2147483647 : Int32).toInt = 2147483647 := (by decide); have z10 : (268435455 : Int32).toInt = 268435455 := (by decide); have z11 : (536870911 : Int32).toInt = 536870911 := (by decide); have z12 : (7 : Int32).toInt = 7 := (by decide); have z13 : (8 : Int32).toInt = 8 := (by decide); omega) ?_
              refine R_imul (pc := 87) dX9_isSeen_87 ?_
              refine R_iadd (pc := 88) dX9_isSeen_88 ?_
              refine k_X9_236 (pc := 89) (gx_X9_isWall _ _ hI) rfl (c_140 _) (by decide) (Nat.le_refl _) (Nat.le_refl _) (Nat.le_of_ble_eq_true rfl) dX9_isSeen_89 (fun x w2 h => ?_)
              rcases h with ⟨rfl, rfl | rfl⟩
              · skip
                refine R_ifne (pc := 92) 99 dX9_isSeen_92 (by decide) (fun _ => ?_) (fun h => absurd h (by decide))
                refine R_iconst (pc := 99) (v := 0) dX9_isSeen_99 (by decide) ?_
                refine st_8_6_i_i (pc := 100) dX9_isSeen_100 ?_
                refine inc_8_7_1_i (pc := 102) dX9_isSeen_102 ?_
                have r29 : inR (i55 + 1) 2 2147483647 := inR_add (show inR i55 1 2147483646 from hM55_) (show inR 1 1 1 from (inR_self _)) (by decide) (by decide)
                have e30 := ti_add (l := 2) (h := 2147483647) (show inR i55 1 2147483646 from hM55_) (show inR 1 1 1 from (inR_self _)) (by decide) (by decide)
                refine R_goto (pc := 105) 55 dX9_isSeen_105 (by decide) ?_
                exact ih55 (i55 + 1) _ (by have q0 := e2; have q1 := e4; have q2 := e20; have q3 := e30; have q4 := ti_le b22_5; have q5 := ti_nle b33_6; have q6 := ti_nle b59_23; have q7 := ti_ne b64_24; have q8 := ti_in (rem8_in b); have q9 := ti_in (rem8_in a); have q10 := ti_in r1; have q11 := ti_in (div8_in b); have q12 := ti_in (div8_in a); have q13 := ti_in r3; have q14 := ti_in (inR_any y21); have q15 := ti_in hg6_55; have q16 := ti_in hM55_; have q17 := ti_in r29; have q18 := hj55; have z0 : (-14 : Int32).toInt = -14 := (by decide); have z1 : (-2147483648 : Int32).toInt = -2147483648 := (by decide); have z2 : (-268435456 : Int32).toInt = -268435456 := (by decide); have z3 : (-536870911 : Int32).toInt = -536870911 := (by decide); have z4 : (-7 : Int32).toInt = -7 := (by decide); have z5 : (0 : Int32).toInt = 0 := (by decide); have z6 : (1 : Int32).toInt = 1 := (by decide); have z7 : (14 : Int32).toInt = 14 := (by decide); have z8 : (2 : Int32).toInt = 2 := (by decide); have z9 : (2147483646 : Int32).toInt = 2147483646 := (by decide); have z10 : (2147483647 : Int32).toInt = 2147483647 := (by decide); have z11 : (268435455 : Int32).toInt = 268435455 := (by decide); have z12 : (536870911 : Int32).toInt = 536870911 := (by decide); have z13 : (7 : Int32).toInt = 7 := (by decide); have z14 : (8 : Int32).toInt = 8 := (by decide); omega) (inR_up r29 (by decide) (by decide)) (show inR 0 0 1 from ⟨by decide, by decide⟩)
              · skip
                refine R_ifne (pc := 92) 99 dX9_isSeen_92 (by decide) (fun h => absurd (by decide) h) (fun _ => ?_)
                refine R_iconst (pc := 95) (v := 1) dX9_isSeen_95 (by decide) ?_
                refine R_goto (pc := 96) 100 dX9_isSeen_96 (by decide) ?_
                refine st_8_6_i_i (pc := 100) dX9_isSeen_100 ?_
                refine inc_8_7_1_i (pc := 102) dX9_isSeen_102 ?_
                have r32 : inR (i55 + 1) 2 2147483647 := inR_add (show inR i55 1 2147483646 from hM55_) (show inR 1 1 1 from (inR_self _)) (by decide) (by decide)
                have e33 := ti_add (l := 2) (h := 2147483647) (show inR i55 1 2147483646 from hM55_) (show inR 1 1 1 from (inR_self _)) (by decide) (by decide)
                refine R_goto (pc := 105) 55 dX9_isSeen_105 (by decide) ?_
                exact ih55 (i55 + 1) _ (by have q0 := e2; have q1 := e4; have q2 := e20; have q3 := e33; have q4 := ti_le b22_5; have q5 := ti_nle b33_6; have q6 := ti_nle b59_23; have q7 := ti_ne b64_24; have q8 := ti_in (rem8_in b); have q9 := ti_in (rem8_in a); have q10 := ti_in r1; have q11 := ti_in (div8_in b); have q12 := ti_in (div8_in a); have q13 := ti_in r3; have q14 := ti_in (inR_any y21); have q15 := ti_in hg6_55; have q16 := ti_in hM55_; have q17 := ti_in r32; have q18 := hj55; have z0 : (-14 : Int32).toInt = -14 := (by decide); have z1 : (-2147483648 : Int32).toInt = -2147483648 := (by decide); have z2 : (-268435456 : Int32).toInt = -268435456 := (by decide); have z3 : (-536870911 : Int32).toInt = -536870911 := (by decide); have z4 : (-7 : Int32).toInt = -7 := (by decide); have z5 : (0 : Int32).toInt = 0 := (by decide); have z6 : (1 : Int32).toInt = 1 := (by decide); have z7 : (14 : Int32).toInt = 14 := (by decide); have z8 : (2 : Int32).toInt = 2 := (by decide); have z9 : (2147483646 : Int32).toInt = 2147483646 := (by decide); have z10 : (2147483647 : Int32).toInt = 2147483647 := (by decide); have z11 : (268435455 : Int32).toInt = 268435455 := (by decide); have z12 : (536870911 : Int32).toInt = 536870911 := (by decide); have z13 : (7 : Int32).toInt = 7 := (by decide); have z14 : (8 : Int32).toInt = 8 := (by decide); omega) (inR_up r32 (by decide) (by decide)) (show inR 1 0 1 from ⟨by decide, by decide⟩)
      exact HL55 2147483646 1 _ (by decide) (show inR 1 1 2147483647 from ⟨by decide, by decide⟩) (show inR 1 0 1 from ⟨by decide, by decide⟩)
  · skip
    refine R_iload_n (pc := 25) dX9_isSeen_25 rfl rfl ?_
    refine R_ineg (pc := 26) dX9_isSeen_26 ?_
    have e34 := ti_neg (show inR ((b - b / 8 * 8) - (a - a / 8 * 8)) (-14) 14 from r1) (by decide)
    refine R_goto (pc := 27) 31 dX9_isSeen_27 (by decide) ?_
    refine R_iload (pc := 31) dX9_isSeen_31 rfl ?_
    refine R_ifge (pc := 33) 42 dX9_isSeen_33 (by decide) (fun b33_35 => ?_) (fun b33_35 => ?_)
    · skip
      refine R_iload (pc := 42) dX9_isSeen_42 rfl ?_
      refine k_X9_191 (pc := 44) (gx_X9_common _ _ _ (by have q0 := e2; have q1 := e4; have q2 := e34; have q3 := ti_nle b22_5; have q4 := ti_le b33_35; have q5 := ti_in (rem8_in b); have q6 := ti_in (rem8_in a); have q7 := ti_in r1; have q8 := ti_in (div8_in b); have q9 := ti_in (div8_in a); have q10 := ti_in r3; have z0 : (-14 : Int32).toInt = -14 := (by decide); have z1 : (-268435456 : Int32).toInt = -268435456 := (by decide); have z2 : (-536870911 : Int32).toInt = -536870911 := (by decide); have z3 : (-7 : Int32).toInt = -7 := (by decide); have z4 : (0 : Int32).toInt = 0 := (by decide); have z5 : (1 : Int32).toInt = 1 := (by decide); have z6 : (14 : Int32).toInt = 14 := (by decide); have z7 : (268435455 : Int32).toInt = 268435455 := (by decide); have z8 : (536870911 : Int32).toInt = 536870911 := (by decide); have z9 : (7 : Int32).toInt = 7 := (by decide); have z10 : (8 : Int32).toInt = 8 := (by decide); omega) (by have q0 := e2; have q1 := e4; have q2 := e34; have q3 := ti_nle b22_5; have q4 := ti_le b33_35; have q5 := ti_in (rem8_in b); have q6 := ti_in (rem8_in a); have q7 := ti_in r1; have q8 := ti_in (div8_in b); have q9 := ti_in (div8_in a); have q10 := ti_in r3; have z0 : (-14 : Int32).toInt = -14 := (by decide); have z1 : (-268435456 : Int32).toInt = -268435456 := (by decide); have z2 : (-536870911 : Int32).toInt = -536870911 := (by decide); have z3 : (-7 : Int32).toInt = -7 := (by decide); have z4 : (0 : Int32).toInt = 0 := (by decide); have z5 : (1 : Int32).toInt = 1 := (by decide); have z6 : (14 : Int32).toInt = 14 := (by decide); have z7 : (268435455 : Int32).toInt = 268435455 := (by decide); have z8 : (536870911 : Int32).toInt = 536870911 := (by decide); have z9 : (7 : Int32).toInt = 7 := (by decide); have z10 : (8 : Int32).toInt = 8 := (by decide); omega)) rfl (by decide) (Nat.le_refl _) (Nat.le_refl _) (Nat.le_of_ble_eq_true rfl) dX9_isSeen_44 (fun y36 w2 h => ?_)
      obtain ⟨rfl, -, -⟩ := h
      refine st_8_5_i_i (pc := 47) dX9_isSeen_47 ?_
      refine R_iconst (pc := 49) (v := 1) dX9_isSeen_49 (by decide) ?_
      refine st_8_6_i_i (pc := 50) dX9_isSeen_50 ?_
      refine R_iconst (pc := 52) (v := 1) dX9_isSeen_52 (by decide) ?_
      refine st_8_7_i_i (pc := 53) dX9_isSeen_53 ?_
      have HL55 : ∀ (q : Nat) (i55 : Int32) (g6_55 : Int32), i55.toInt + (q : Int) = 2147483647 → inR i55 1 2147483647 → inR g6_55 0 1 → R G l yX9_isSeen cX9_isSeen 8 (some .boolean) 1 0 0 (QI (fun x w2 => w2 = WW σ)) 55 [(some (.ref 140)), (some (.int a)), (some (.int b)), (some (.int ((b - b / 8 * 8) - (a - a / 8 * 8)))), (some (.int ((b / 8) - (a / 8)))), (some (.int y36)), (some (.int g6_55)), (some (.int i55))] [] (WW σ) 0 0 := by
        intro q
        induction q with
        | zero =>
          intro i55 g6_55 hj55 hrg55 hg6_55
          have hM55_ : inR i55 2147483647 2147483647 := of_ti (by have z : (2147483647 : Int32).toInt = 2147483647 := (by decide); omega) (by have z : (2147483647 : Int32).toInt = 2147483647 := (by decide); omega)
          refine R_iload (pc := 55) dX9_isSeen_55 rfl ?_
          refine R_iload (pc := 57) dX9_isSeen_57 rfl ?_
          refine R_icge (pc := 59) 108 dX9_isSeen_59 (by decide) (fun _ => ?_) (fun h => False.elim (by have q1 := ti_nle h; have q2 := ti_in (show inR i55 2147483647 2147483647 from hM55_); have q3 := ti_in (show inR y36 (-2147483648) 2147483647 from (inR_any y36)); have z0 : (-2147483648 : Int32).toInt = (-2147483648) := (by decide);  have z1 : (2147483647 : Int32).toInt = 2147483647 := (by decide); omega))
          refine R_iload (pc := 108) dX9_isSeen_108 rfl ?_
          exact R_iret (pc := 110) dX9_isSeen_110 rfl (nar01 hg6_55) (Nat.zero_le _) (Nat.zero_le _) ⟨_, rfl, rfl⟩
        | succ q ih55 =>
          intro i55 g6_55 hj55 hrg55 hg6_55
          have hM55_ : inR i55 1 2147483646 := of_ti (ti_in hrg55).1 (by have z : (2147483646 : Int32).toInt = 2147483646 := (by decide); omega)
          refine R_iload (pc := 55) dX9_isSeen_55 rfl ?_
          refine R_iload (pc := 57) dX9_isSeen_57 rfl ?_
          refine R_icge (pc := 59) 108 dX9_isSeen_59 (by decide) (fun b59_38 => ?_) (fun b59_38 => ?_)
          · skip
            refine R_iload (pc := 108) dX9_isSeen_108 rfl ?_
            exact R_iret (pc := 110) dX9_isSeen_110 rfl (nar01 hg6_55) (Nat.zero_le _) (Nat.zero_le _) ⟨_, rfl, rfl⟩
          · skip
            refine R_iload (pc := 62) dX9_isSeen_62 rfl ?_
            refine R_ifeq (pc := 64) 99 dX9_isSeen_64 (by decide) (fun b64_39 => ?_) (fun b64_39 => ?_)
            · skip
              refine R_iconst (pc := 99) (v := 0) dX9_isSeen_99 (by decide) ?_
              refine st_8_6_i_i (pc := 100) dX9_isSeen_100 ?_
              refine inc_8_7_1_i (pc := 102) dX9_isSeen_102 ?_
              have r40 : inR (i55 + 1) 2 2147483647 := inR_add (show inR i55 1 2147483646 from hM55_) (show inR 1 1 1 from (inR_self _)) (by decide) (by decide)
              have e41 := ti_add (l := 2) (h := 2147483647) (show inR i55 1 2147483646 from hM55_) (show inR 1 1 1 from (inR_self _)) (by decide) (by decide)
              refine R_goto (pc := 105) 55 dX9_isSeen_105 (by decide) ?_
              exact ih55 (i55 + 1) _ (by have q0 := e2; have q1 := e4; have q2 := e34; have q3 := e41; have q4 := ti_nle b22_5; have q5 := ti_le b33_35; have q6 := ti_nle b59_38; have q7 := ti_eq b64_39; have q8 := ti_in (rem8_in b); have q9 := ti_in (rem8_in a); have q10 := ti_in r1; have q11 := ti_in (div8_in b); have q12 := ti_in (div8_in a); have q13 := ti_in r3; have q14 := ti_in (inR_any y36); have q15 := ti_in hg6_55; have q16 := ti_in hM55_; have q17 := ti_in r40; have q18 := hj55; have z0 : (-14 : Int32).toInt = -14 := (by decide); have z1 : (-2147483648 : Int32).toInt = -2147483648 := (by decide); have z2 : (-268435456 : Int32).toInt = -268435456 := (by decide); have z3 : (-536870911 : Int32).toInt = -536870911 := (by decide); have z4 : (-7 : Int32).toInt = -7 := (by decide); have z5 : (0 : Int32).toInt = 0 := (by decide); have z6 : (1 : Int32).toInt = 1 := (by decide); have z7 : (14 : Int32).toInt = 14 := (by decide); have z8 : (2 : Int32).toInt = 2 := (by decide); have z9 : (2147483646 : Int32).toInt = 2147483646 := (by decide); have z10 : (2147483647 : Int32).toInt = 2147483647 := (by decide); have z11 : (268435455 : Int32).toInt = 268435455 := (by decide); have z12 : (536870911 : Int32).toInt = 536870911 := (by decide); have z13 : (7 : Int32).toInt = 7 := (by decide); have z14 : (8 : Int32).toInt = 8 := (by decide); omega) (inR_up r40 (by decide) (by decide)) (show inR 0 0 1 from ⟨by decide, by decide⟩)
            · skip
              refine R_aload_n (pc := 67) dX9_isSeen_67 rfl rfl ?_
              refine R_iload_n (pc := 68) dX9_isSeen_68 rfl rfl ?_
              refine R_iload (pc := 69) dX9_isSeen_69 rfl ?_
              refine R_iload_n (pc := 71) dX9_isSeen_71 rfl rfl ?_
              refine R_iload (pc := 72) dX9_isSeen_72 rfl ?_
              refine R_idiv (pc := 74) dX9_isSeen_74 (fun h => by have q := ti_eq h; have q0 := e2; have q1 := e4; have q2 := e34; have q3 := ti_nle b22_5; have q4 := ti_le b33_35; have q5 := ti_nle b59_38; have q6 := ti_ne b64_39; have q7 := ti_in (rem8_in b); have q8 := ti_in (rem8_in a); have q9 := ti_in r1; have q10 := ti_in (div8_in b); have q11 := ti_in (div8_in a); have q12 := ti_in r3; have q13 := ti_in (inR_any y36); have q14 := ti_in hg6_55; have q15 := ti_in hM55_; have z0 : (-14 : Int32).toInt = -14 := (by decide); have z1 : (-2147483648 : Int32).toInt = -2147483648 := (by decide); have z2 : (-268435456 : Int32).toInt = -268435456 := (by decide); have z3 : (-536870911 : Int32).toInt = -536870911 := (by decide); have z4 : (-7 : Int32).toInt = -7 := (by decide); have z5 : (0 : Int32).toInt = 0 := (by decide); have z6 : (1 : Int32).toInt = 1 := (by decide); have z7 : (14 : Int32).toInt = 14 := (by decide); have z8 : (2147483646 : Int32).toInt = 2147483646 := (by decide); have z9 : (2147483647 : Int32).toInt = 2147483647 := (by decide); have z10 : (268435455 : Int32).toInt = 268435455 := (by decide); have z11 : (536870911 : Int32).toInt = 536870911 := (by decide); have z12 : (7 : Int32).toInt = 7 := (by decide); have z13 : (8 : Int32).toInt = 8 := (by decide); omega) ?_
              refine R_imul (pc := 75) dX9_isSeen_75 ?_
              refine R_iadd (pc := 76) dX9_isSeen_76 ?_
              refine R_bipush (pc := 77) (v := 8) dX9_isSeen_77 (by decide) ?_
              refine R_iload (pc := 79) dX9_isSeen_79 rfl ?_
              refine R_imul (pc := 81) dX9_isSeen_81 ?_
              refine R_iload (pc := 82) dX9_isSeen_82 rfl ?_
              refine R_iload (pc := 84) dX9_isSeen_84 rfl ?_
              refine R_idiv (pc := 86) dX9_isSeen_86 (fun h => by have q := ti_eq h; have q0 := e2; have q1 := e4; have q2 := e34; have q3 := ti_nle b22_5; have q4 := ti_le b33_35; have q5 := ti_nle b59_38; have q6 := ti_ne b64_39; have q7 := ti_in (rem8_in b); have q8 := ti_in (rem8_in a); have q9 := ti_in r1; have q10 := ti_in (div8_in b); have q11 := ti_in (div8_in a); have q12 := ti_in r3; have q13 := ti_in (inR_any y36); have q14 := ti_in hg6_55; have q15 := ti_in hM55_; have z0 : (-14 : Int32).toInt = -14 := (by decide); have z1 : (-2147483648 : Int32).toInt = -2147483648 := (by decide); have z2 : (-268435456 : Int32).toInt = -268435456 := (by decide); have z3 : (-536870911 : Int32).toInt = -536870911 := (by decide); have z4 : (-7 : Int32).toInt = -7 := (by decide); have z5 : (0 : Int32).toInt = 0 := (by decide); have z6 : (1 : Int32).toInt = 1 := (by decide); have z7 : (14 : Int32).toInt = 14 := (by decide); have z8 : (2147483646 : Int32).toInt = 2147483646 := (by decide); have z9 : (2147483647 : Int32).toInt = 2147483647 := (by decide); have z10 : (268435455 : Int32).toInt = 268435455 := (by decide); have z11 : (536870911 : Int32).toInt = 536870911 := (by decide); have z12 : (7 : Int32).toInt = 7 := (by decide); have z13 : (8 : Int32).toInt = 8 := (by decide); omega) ?_
              refine R_imul (pc := 87) dX9_isSeen_87 ?_
              refine R_iadd (pc := 88) dX9_isSeen_88 ?_
              refine k_X9_236 (pc := 89) (gx_X9_isWall _ _ hI) rfl (c_140 _) (by decide) (Nat.le_refl _) (Nat.le_refl _) (Nat.le_of_ble_eq_true rfl) dX9_isSeen_89 (fun x w2 h => ?_)
              rcases h with ⟨rfl, rfl | rfl⟩
              · skip
                refine R_ifne (pc := 92) 99 dX9_isSeen_92 (by decide) (fun _ => ?_) (fun h => absurd h (by decide))
                refine R_iconst (pc := 99) (v := 0) dX9_isSeen_99 (by decide) ?_
                refine st_8_6_i_i (pc := 100) dX9_isSeen_100 ?_
                refine inc_8_7_1_i (pc := 102) dX9_isSeen_102 ?_
                have r44 : inR (i55 + 1) 2 2147483647 := inR_add (show inR i55 1 2147483646 from hM55_) (show inR 1 1 1 from (inR_self _)) (by decide) (by decide)
                have e45 := ti_add (l := 2) (h := 2147483647) (show inR i55 1 2147483646 from hM55_) (show inR 1 1 1 from (inR_self _)) (by decide) (by decide)
                refine R_goto (pc := 105) 55 dX9_isSeen_105 (by decide) ?_
                exact ih55 (i55 + 1) _ (by have q0 := e2; have q1 := e4; have q2 := e34; have q3 := e45; have q4 := ti_nle b22_5; have q5 := ti_le b33_35; have q6 := ti_nle b59_38; have q7 := ti_ne b64_39; have q8 := ti_in (rem8_in b); have q9 := ti_in (rem8_in a); have q10 := ti_in r1; have q11 := ti_in (div8_in b); have q12 := ti_in (div8_in a); have q13 := ti_in r3; have q14 := ti_in (inR_any y36); have q15 := ti_in hg6_55; have q16 := ti_in hM55_; have q17 := ti_in r44; have q18 := hj55; have z0 : (-14 : Int32).toInt = -14 := (by decide); have z1 : (-2147483648 : Int32).toInt = -2147483648 := (by decide); have z2 : (-268435456 : Int32).toInt = -268435456 := (by decide); have z3 : (-536870911 : Int32).toInt = -536870911 := (by decide); have z4 : (-7 : Int32).toInt = -7 := (by decide); have z5 : (0 : Int32).toInt = 0 := (by decide); have z6 : (1 : Int32).toInt = 1 := (by decide); have z7 : (14 : Int32).toInt = 14 := (by decide); have z8 : (2 : Int32).toInt = 2 := (by decide); have z9 : (2147483646 : Int32).toInt = 2147483646 := (by decide); have z10 : (2147483647 : Int32).toInt = 2147483647 := (by decide); have z11 : (268435455 : Int32).toInt = 268435455 := (by decide); have z12 : (536870911 : Int32).toInt = 536870911 := (by decide); have z13 : (7 : Int32).toInt = 7 := (by decide); have z14 : (8 : Int32).toInt = 8 := (by decide); omega) (inR_up r44 (by decide) (by decide)) (show inR 0 0 1 from ⟨by decide, by decide⟩)
              · skip
                refine R_ifne (pc := 92) 99 dX9_isSeen_92 (by decide) (fun h => absurd (by decide) h) (fun _ => ?_)
                refine R_iconst (pc := 95) (v := 1) dX9_isSeen_95 (by decide) ?_
                refine R_goto (pc := 96) 100 dX9_isSeen_96 (by decide) ?_
                refine st_8_6_i_i (pc := 100) dX9_isSeen_100 ?_
                refine inc_8_7_1_i (pc := 102) dX9_isSeen_102 ?_
                have r47 : inR (i55 + 1) 2 2147483647 := inR_add (show inR i55 1 2147483646 from hM55_) (show inR 1 1 1 from (inR_self _)) (by decide) (by decide)
                have e48 := ti_add (l := 2) (h := 2147483647) (show inR i55 1 2147483646 from hM55_) (show inR 1 1 1 from (inR_self _)) (by decide) (by decide)
                refine R_goto (pc := 105) 55 dX9_isSeen_105 (by decide) ?_
                exact ih55 (i55 + 1) _ (by have q0 := e2; have q1 := e4; have q2 := e34; have q3 := e48; have q4 := ti_nle b22_5; have q5 := ti_le b33_35; have q6 := ti_nle b59_38; have q7 := ti_ne b64_39; have q8 := ti_in (rem8_in b); have q9 := ti_in (rem8_in a); have q10 := ti_in r1; have q11 := ti_in (div8_in b); have q12 := ti_in (div8_in a); have q13 := ti_in r3; have q14 := ti_in (inR_any y36); have q15 := ti_in hg6_55; have q16 := ti_in hM55_; have q17 := ti_in r47; have q18 := hj55; have z0 : (-14 : Int32).toInt = -14 := (by decide); have z1 : (-2147483648 : Int32).toInt = -2147483648 := (by decide); have z2 : (-268435456 : Int32).toInt = -268435456 := (by decide); have z3 : (-536870911 : Int32).toInt = -536870911 := (by decide); have z4 : (-7 : Int32).toInt = -7 := (by decide); have z5 : (0 : Int32).toInt = 0 := (by decide); have z6 : (1 : Int32).toInt = 1 := (by decide); have z7 : (14 : Int32).toInt = 14 := (by decide); have z8 : (2 : Int32).toInt = 2 := (by decide); have z9 : (2147483646 : Int32).toInt = 2147483646 := (by decide); have z10 : (2147483647 : Int32).toInt = 2147483647 := (by decide); have z11 : (268435455 : Int32).toInt = 268435455 := (by decide); have z12 : (536870911 : Int32).toInt = 536870911 := (by decide); have z13 : (7 : Int32).toInt = 7 := (by decide); have z14 : (8 : Int32).toInt = 8 := (by decide); omega) (inR_up r47 (by decide) (by decide)) (show inR 1 0 1 from ⟨by decide, by decide⟩)
      exact HL55 2147483646 1 _ (by decide) (show inR 1 1 2147483647 from ⟨by decide, by decide⟩) (show inR 1 0 1 from ⟨by decide, by decide⟩)
    · skip
      refine R_iload (pc := 36) dX9_isSeen_36 rfl ?_
      refine R_ineg (pc := 38) dX9_isSeen_38 ?_
      have e49 := ti_neg (show inR ((b / 8) - (a / 8)) (-536870911) 536870911 from r3) (by decide)
      refine R_goto (pc := 39) 44 dX9_isSeen_39 (by decide) ?_
      refine k_X9_191 (pc := 44) (gx_X9_common _ _ _ (by have q0 := e2; have q1 := e4; have q2 := e34; have q3 := e49; have q4 := ti_nle b22_5; have q5 := ti_nle b33_35; have q6 := ti_in (rem8_in b); have q7 := ti_in (rem8_in a); have q8 := ti_in r1; have q9 := ti_in (div8_in b); have q10 := ti_in (div8_in a); have q11 := ti_in r3; have z0 : (-14 : Int32).toInt = -14 := (by decide); have z1 : (-268435456 : Int32).toInt = -268435456 := (by decide); have z2 : (-536870911 : Int32).toInt = -536870911 := (by decide); have z3 : (-7 : Int32).toInt = -7 := (by decide); have z4 : (0 : Int32).toInt = 0 := (by decide); have z5 : (1 : Int32).toInt = 1 := (by decide); have z6 : (14 : Int32).toInt = 14 := (by decide); have z7 : (268435455 : Int32).toInt = 268435455 := (by decide); have z8 : (536870911 : Int32).toInt = 536870911 := (by decide); have z9 : (7 : Int32).toInt = 7 := (by decide); have z10 : (8 : Int32).toInt = 8 := (by decide); omega) (by have q0 := e2; have q1 := e4; have q2 := e34; have q3 := e49; have q4 := ti_nle b22_5; have q5 := ti_nle b33_35; have q6 := ti_in (rem8_in b); have q7 := ti_in (rem8_in a); have q8 := ti_in r1; have q9 := ti_in (div8_in b); have q10 := ti_in (div8_in a); have q11 := ti_in r3; have z0 : (-14 : Int32).toInt = -14 := (by decide); have z1 : (-268435456 : Int32).toInt = -268435456 := (by decide); have z2 : (-536870911 : Int32).toInt = -536870911 := (by decide); have z3 : (-7 : Int32).toInt = -7 := (by decide); have z4 : (0 : Int32).toInt = 0 := (by decide); have z5 : (1 : Int32).toInt = 1 := (by decide); have z6 : (14 : Int32).toInt = 14 := (by decide); have z7 : (268435455 : Int32).toInt = 268435455 := (by decide); have z8 : (536870911 : Int32).toInt = 536870911 := (by decide); have z9 : (7 : Int32).toInt = 7 := (by decide); have z10 : (8 : Int32).toInt = 8 := (by decide); omega)) rfl (by decide) (Nat.le_refl _) (Nat.le_refl _) (Nat.le_of_ble_eq_true rfl) dX9_isSeen_44 (fun y50 w2 h => ?_)
      obtain ⟨rfl, -, -⟩ := h
      refine st_8_5_i_i (pc := 47) dX9_isSeen_47 ?_
      refine R_iconst (pc := 49) (v := 1) dX9_isSeen_49 (by decide) ?_
      refine st_8_6_i_i (pc := 50) dX9_isSeen_50 ?_
      refine R_iconst (pc := 52) (v := 1) dX9_isSeen_52 (by decide) ?_
      refine st_8_7_i_i (pc := 53) dX9_isSeen_53 ?_
      have HL55 : ∀ (q : Nat) (i55 : Int32) (g6_55 : Int32), i55.toInt + (q : Int) = 2147483647 → inR i55 1 2147483647 → inR g6_55 0 1 → R G l yX9_isSeen cX9_isSeen 8 (some .boolean) 1 0 0 (QI (fun x w2 => w2 = WW σ)) 55 [(some (.ref 140)), (some (.int a)), (some (.int b)), (some (.int ((b - b / 8 * 8) - (a - a / 8 * 8)))), (some (.int ((b / 8) - (a / 8)))), (some (.int y50)), (some (.int g6_55)), (some (.int i55))] [] (WW σ) 0 0 := by
        intro q
        induction q with
        | zero =>
          intro i55 g6_55 hj55 hrg55 hg6_55
          have hM55_ : inR i55 2147483647 2147483647 := of_ti (by have z : (2147483647 : Int32).toInt = 2147483647 := (by decide); omega) (by have z : (2147483647 : Int32).toInt = 2147483647 := (by decide); omega)
          refine R_iload (pc := 55) dX9_isSeen_55 rfl ?_
          refine R_iload (pc := 57) dX9_isSeen_57 rfl ?_
          refine R_icge (pc := 59) 108 dX9_isSeen_59 (by decide) (fun _ => ?_) (fun h => False.elim (by have q1 := ti_nle h; have q2 := ti_in (show inR i55 2147483647 2147483647 from hM55_); have q3 := ti_in (show inR y50 (-2147483648) 2147483647 from (inR_any y50)); have z0 : (-2147483648 : Int32).toInt = (-2147483648) := (by decide);  have z1 : (2147483647 : Int32).toInt = 2147483647 := (by decide); omega))
          refine R_iload (pc := 108) dX9_isSeen_108 rfl ?_
          exact R_iret (pc := 110) dX9_isSeen_110 rfl (nar01 hg6_55) (Nat.zero_le _) (Nat.zero_le _) ⟨_, rfl, rfl⟩
        | succ q ih55 =>
          intro i55 g6_55 hj55 hrg55 hg6_55
          have hM55_ : inR i55 1 2147483646 := of_ti (ti_in hrg55).1 (by have z : (2147483646 : Int32).toInt = 2147483646 := (by decide); omega)
          refine R_iload (pc := 55) dX9_isSeen_55 rfl ?_
          refine R_iload (pc := 57) dX9_isSeen_57 rfl ?_
          refine R_icge (pc := 59) 108 dX9_isSeen_59 (by decide) (fun b59_52 => ?_) (fun b59_52 => ?_)
          · skip
            refine R_iload (pc := 108) dX9_isSeen_108 rfl ?_
            exact R_iret (pc := 110) dX9_isSeen_110 rfl (nar01 hg6_55) (Nat.zero_le _) (Nat.zero_le _) ⟨_, rfl, rfl⟩
          · skip
            refine R_iload (pc := 62) dX9_isSeen_62 rfl ?_
            refine R_ifeq (pc := 64) 99 dX9_isSeen_64 (by decide) (fun b64_53 => ?_) (fun b64_53 => ?_)
            · skip
              refine R_iconst (pc := 99) (v := 0) dX9_isSeen_99 (by decide) ?_
              refine st_8_6_i_i (pc := 100) dX9_isSeen_100 ?_
              refine inc_8_7_1_i (pc := 102) dX9_isSeen_102 ?_
              have r54 : inR (i55 + 1) 2 2147483647 := inR_add (show inR i55 1 2147483646 from hM55_) (show inR 1 1 1 from (inR_self _)) (by decide) (by decide)
              have e55 := ti_add (l := 2) (h := 2147483647) (show inR i55 1 2147483646 from hM55_) (show inR 1 1 1 from (inR_self _)) (by decide) (by decide)
              refine R_goto (pc := 105) 55 dX9_isSeen_105 (by decide) ?_
              exact ih55 (i55 + 1) _ (by have q0 := e2; have q1 := e4; have q2 := e34; have q3 := e49; have q4 := e55; have q5 := ti_nle b22_5; have q6 := ti_nle b33_35; have q7 := ti_nle b59_52; have q8 := ti_eq b64_53; have q9 := ti_in (rem8_in b); have q10 := ti_in (rem8_in a); have q11 := ti_in r1; have q12 := ti_in (div8_in b); have q13 := ti_in (div8_in a); have q14 := ti_in r3; have q15 := ti_in (inR_any y50); have q16 := ti_in hg6_55; have q17 := ti_in hM55_; have q18 := ti_in r54; have q19 := hj55; have z0 : (-14 : Int32).toInt = -14 := (by decide); have z1 : (-2147483648 : Int32).toInt = -2147483648 := (by decide); have z2 : (-268435456 : Int32).toInt = -268435456 := (by decide); have z3 : (-536870911 : Int32).toInt = -536870911 := (by decide); have z4 : (-7 : Int32).toInt = -7 := (by decide); have z5 : (0 : Int32).toInt = 0 := (by decide); have z6 : (1 : Int32).toInt = 1 := (by decide); have z7 : (14 : Int32).toInt = 14 := (by decide); have z8 : (2 : Int32).toInt = 2 := (by decide); have z9 : (2147483646 : Int32).toInt = 2147483646 := (by decide); have z10 : (2147483647 : Int32).toInt = 2147483647 := (by decide); have z11 : (268435455 : Int32).toInt = 268435455 := (by decide); have z12 : (536870911 : Int32).toInt = 536870911 := (by decide); have z13 : (7 : Int32).toInt = 7 := (by decide); have z14 : (8 : Int32).toInt = 8 := (by decide); omega) (inR_up r54 (by decide) (by decide)) (show inR 0 0 1 from ⟨by decide, by decide⟩)
            · skip
              refine R_aload_n (pc := 67) dX9_isSeen_67 rfl rfl ?_
              refine R_iload_n (pc := 68) dX9_isSeen_68 rfl rfl ?_
              refine R_iload (pc := 69) dX9_isSeen_69 rfl ?_
              refine R_iload_n (pc := 71) dX9_isSeen_71 rfl rfl ?_
              refine R_iload (pc := 72) dX9_isSeen_72 rfl ?_
              refine R_idiv (pc := 74) dX9_isSeen_74 (fun h => by have q := ti_eq h; have q0 := e2; have q1 := e4; have q2 := e34; have q3 := e49; have q4 := ti_nle b22_5; have q5 := ti_nle b33_35; have q6 := ti_nle b59_52; have q7 := ti_ne b64_53; have q8 := ti_in (rem8_in b); have q9 := ti_in (rem8_in a); have q10 := ti_in r1; have q11 := ti_in (div8_in b); have q12 := ti_in (div8_in a); have q13 := ti_in r3; have q14 := ti_in (inR_any y50); have q15 := ti_in hg6_55; have q16 := ti_in hM55_; have z0 : (-14 : Int32).toInt = -14 := (by decide); have z1 : (-2147483648 : Int32).toInt = -2147483648 := (by decide); have z2 : (-268435456 : Int32).toInt = -268435456 := (by decide); have z3 : (-536870911 : Int32).toInt = -536870911 := (by decide); have z4 : (-7 : Int32).toInt = -7 := (by decide); have z5 : (0 : Int32).toInt = 0 := (by decide); have z6 : (1 : Int32).toInt = 1 := (by decide); have z7 : (14 : Int32).toInt = 14 := (by decide); have z8 : (2147483646 : Int32).toInt = 2147483646 := (by decide); have z9 : (2147483647 : Int32).toInt = 2147483647 := (by decide); have z10 : (268435455 : Int32).toInt = 268435455 := (by decide); have z11 : (536870911 : Int32).toInt = 536870911 := (by decide); have z12 : (7 : Int32).toInt = 7 := (by decide); have z13 : (8 : Int32).toInt = 8 := (by decide); omega) ?_
              refine R_imul (pc := 75) dX9_isSeen_75 ?_
              refine R_iadd (pc := 76) dX9_isSeen_76 ?_
              refine R_bipush (pc := 77) (v := 8) dX9_isSeen_77 (by decide) ?_
              refine R_iload (pc := 79) dX9_isSeen_79 rfl ?_
              refine R_imul (pc := 81) dX9_isSeen_81 ?_
              refine R_iload (pc := 82) dX9_isSeen_82 rfl ?_
              refine R_iload (pc := 84) dX9_isSeen_84 rfl ?_
              refine R_idiv (pc := 86) dX9_isSeen_86 (fun h => by have q := ti_eq h; have q0 := e2; have q1 := e4; have q2 := e34; have q3 := e49; have q4 := ti_nle b22_5; have q5 := ti_nle b33_35; have q6 := ti_nle b59_52; have q7 := ti_ne b64_53; have q8 := ti_in (rem8_in b); have q9 := ti_in (rem8_in a); have q10 := ti_in r1; have q11 := ti_in (div8_in b); have q12 := ti_in (div8_in a); have q13 := ti_in r3; have q14 := ti_in (inR_any y50); have q15 := ti_in hg6_55; have q16 := ti_in hM55_; have z0 : (-14 : Int32).toInt = -14 := (by decide); have z1 : (-2147483648 : Int32).toInt = -2147483648 := (by decide); have z2 : (-268435456 : Int32).toInt = -268435456 := (by decide); have z3 : (-536870911 : Int32).toInt = -536870911 := (by decide); have z4 : (-7 : Int32).toInt = -7 := (by decide); have z5 : (0 : Int32).toInt = 0 := (by decide); have z6 : (1 : Int32).toInt = 1 := (by decide); have z7 : (14 : Int32).toInt = 14 := (by decide); have z8 : (2147483646 : Int32).toInt = 2147483646 := (by decide); have z9 : (2147483647 : Int32).toInt = 2147483647 := (by decide); have z10 : (268435455 : Int32).toInt = 268435455 := (by decide); have z11 : (536870911 : Int32).toInt = 536870911 := (by decide); have z12 : (7 : Int32).toInt = 7 := (by decide); have z13 : (8 : Int32).toInt = 8 := (by decide); omega) ?_
              refine R_imul (pc := 87) dX9_isSeen_87 ?_
              refine R_iadd (pc := 88) dX9_isSeen_88 ?_
              refine k_X9_236 (pc := 89) (gx_X9_isWall _ _ hI) rfl (c_140 _) (by decide) (Nat.le_refl _) (Nat.le_refl _) (Nat.le_of_ble_eq_true rfl) dX9_isSeen_89 (fun x w2 h => ?_)
              rcases h with ⟨rfl, rfl | rfl⟩
              · skip
                refine R_ifne (pc := 92) 99 dX9_isSeen_92 (by decide) (fun _ => ?_) (fun h => absurd h (by decide))
                refine R_iconst (pc := 99) (v := 0) dX9_isSeen_99 (by decide) ?_
                refine st_8_6_i_i (pc := 100) dX9_isSeen_100 ?_
                refine inc_8_7_1_i (pc := 102) dX9_isSeen_102 ?_
                have r58 : inR (i55 + 1) 2 2147483647 := inR_add (show inR i55 1 2147483646 from hM55_) (show inR 1 1 1 from (inR_self _)) (by decide) (by decide)
                have e59 := ti_add (l := 2) (h := 2147483647) (show inR i55 1 2147483646 from hM55_) (show inR 1 1 1 from (inR_self _)) (by decide) (by decide)
                refine R_goto (pc := 105) 55 dX9_isSeen_105 (by decide) ?_
                exact ih55 (i55 + 1) _ (by have q0 := e2; have q1 := e4; have q2 := e34; have q3 := e49; have q4 := e59; have q5 := ti_nle b22_5; have q6 := ti_nle b33_35; have q7 := ti_nle b59_52; have q8 := ti_ne b64_53; have q9 := ti_in (rem8_in b); have q10 := ti_in (rem8_in a); have q11 := ti_in r1; have q12 := ti_in (div8_in b); have q13 := ti_in (div8_in a); have q14 := ti_in r3; have q15 := ti_in (inR_any y50); have q16 := ti_in hg6_55; have q17 := ti_in hM55_; have q18 := ti_in r58; have q19 := hj55; have z0 : (-14 : Int32).toInt = -14 := (by decide); have z1 : (-2147483648 : Int32).toInt = -2147483648 := (by decide); have z2 : (-268435456 : Int32).toInt = -268435456 := (by decide); have z3 : (-536870911 : Int32).toInt = -536870911 := (by decide); have z4 : (-7 : Int32).toInt = -7 := (by decide); have z5 : (0 : Int32).toInt = 0 := (by decide); have z6 : (1 : Int32).toInt = 1 := (by decide); have z7 : (14 : Int32).toInt = 14 := (by decide); have z8 : (2 : Int32).toInt = 2 := (by decide); have z9 : (2147483646 : Int32).toInt = 2147483646 := (by decide); have z10 : (2147483647 : Int32).toInt = 2147483647 := (by decide); have z11 : (268435455 : Int32).toInt = 268435455 := (by decide); have z12 : (536870911 : Int32).toInt = 536870911 := (by decide); have z13 : (7 : Int32).toInt = 7 := (by decide); have z14 : (8 : Int32).toInt = 8 := (by decide); omega) (inR_up r58 (by decide) (by decide)) (show inR 0 0 1 from ⟨by decide, by decide⟩)
              · skip
                refine R_ifne (pc := 92) 99 dX9_isSeen_92 (by decide) (fun h => absurd (by decide) h) (fun _ => ?_)
                refine R_iconst (pc := 95) (v := 1) dX9_isSeen_95 (by decide) ?_
                refine R_goto (pc := 96) 100 dX9_isSeen_96 (by decide) ?_
                refine st_8_6_i_i (pc := 100) dX9_isSeen_100 ?_
                refine inc_8_7_1_i (pc := 102) dX9_isSeen_102 ?_
                have r61 : inR (i55 + 1) 2 2147483647 := inR_add (show inR i55 1 2147483646 from hM55_) (show inR 1 1 1 from (inR_self _)) (by decide) (by decide)
                have e62 := ti_add (l := 2) (h := 2147483647) (show inR i55 1 2147483646 from hM55_) (show inR 1 1 1 from (inR_self _)) (by decide) (by decide)
                refine R_goto (pc := 105) 55 dX9_isSeen_105 (by decide) ?_
                exact ih55 (i55 + 1) _ (by have q0 := e2; have q1 := e4; have q2 := e34; have q3 := e49; have q4 := e62; have q5 := ti_nle b22_5; have q6 := ti_nle b33_35; have q7 := ti_nle b59_52; have q8 := ti_ne b64_53; have q9 := ti_in (rem8_in b); have q10 := ti_in (rem8_in a); have q11 := ti_in r1; have q12 := ti_in (div8_in b); have q13 := ti_in (div8_in a); have q14 := ti_in r3; have q15 := ti_in (inR_any y50); have q16 := ti_in hg6_55; have q17 := ti_in hM55_; have q18 := ti_in r61; have q19 := hj55; have z0 : (-14 : Int32).toInt = -14 := (by decide); have z1 : (-2147483648 : Int32).toInt = -2147483648 := (by decide); have z2 : (-268435456 : Int32).toInt = -268435456 := (by decide); have z3 : (-536870911 : Int32).toInt = -536870911 := (by decide); have z4 : (-7 : Int32).toInt = -7 := (by decide); have z5 : (0 : Int32).toInt = 0 := (by decide); have z6 : (1 : Int32).toInt = 1 := (by decide); have z7 : (14 : Int32).toInt = 14 := (by decide); have z8 : (2 : Int32).toInt = 2 := (by decide); have z9 : (2147483646 : Int32).toInt = 2147483646 := (by decide); have z10 : (2147483647 : Int32).toInt = 2147483647 := (by decide); have z11 : (268435455 : Int32).toInt = 268435455 := (by decide); have z12 : (536870911 : Int32).toInt = 536870911 := (by decide); have z13 : (7 : Int32).toInt = 7 := (by decide); have z14 : (8 : Int32).toInt = 8 := (by decide); omega) (inR_up r61 (by decide) (by decide)) (show inR 1 0 1 from ⟨by decide, by decide⟩)
      exact HL55 2147483646 1 _ (by decide) (show inR 1 1 2147483647 from ⟨by decide, by decide⟩) (show inR 1 0 1 from ⟨by decide, by decide⟩)
