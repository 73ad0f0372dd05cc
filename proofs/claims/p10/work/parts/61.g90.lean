/-! methods on any state that keeps the invariant -/
set_option maxRecDepth 100000 in
set_option maxHeartbeats 40000000 in
theorem ge_X3_cellsInBoth {G : vG} {l : Launch} (w : VW) (s t a b : Int32) (hs : inR s 0 4) (ht : inR t 0 4) (ha : inR a (-2) 2) (hb : inR b (-2) 2) : Sp G l yX3_cellsInBoth cX3_cellsInBoth 11 (some .long) 1 0 0 [.int s, .int t, .int a, .int b] (w) (QL (fun x w2 => w2 = w ∧ x = cbC s t a b)) := by
  refine Sp_of_R [(some (.int s)), (some (.int t)), (some (.int a)), (some (.int b)), none, none, none, none, none, none, none] [none, none, none, none, none, none, none] rfl (by simp) rfl (Nat.le_of_ble_eq_true rfl) ?_
  refine R_sipush (pc := 0) (v := 255) dX3_cellsInBoth_0 (by decide) ?_
  refine R_iconst (pc := 3) (v := 0) dX3_cellsInBoth_3 (by decide) ?_
  refine R_iload_n (pc := 4) dX3_cellsInBoth_4 rfl rfl ?_
  refine R_ineg (pc := 5) dX3_cellsInBoth_5 ?_
  refine R_mmax (pc := 6) wm_373 dX3_cellsInBoth_6 (by decide) (Nat.le_of_ble_eq_true rfl) (Nat.zero_le _) (Nat.zero_le _) ?_
  refine R_ishl (pc := 9) dX3_cellsInBoth_9 ?_
  refine R_sipush (pc := 10) (v := 255) dX3_cellsInBoth_10 (by decide) ?_
  refine R_iconst (pc := 13) (v := 0) dX3_cellsInBoth_13 (by decide) ?_
  refine R_iload_n (pc := 14) dX3_cellsInBoth_14 rfl rfl ?_
  refine R_mmax (pc := 15) wm_373 dX3_cellsInBoth_15 (by decide) (Nat.le_of_ble_eq_true rfl) (Nat.zero_le _) (Nat.zero_le _) ?_
  have r1 : inR (if 0 < a then a else 0) 0 2 := inR_max (show inR 0 0 0 from (inR_self _)) (show inR a (-2) 2 from ha) (by decide) (by decide) (by decide)
  refine R_ishr (pc := 18) dX3_cellsInBoth_18 ?_
  refine R_iand (pc := 19) dX3_cellsInBoth_19 ?_
  refine R_i2l (pc := 20) dX3_cellsInBoth_20 ?_
  refine st_11_4_l_i (pc := 21) dX3_cellsInBoth_21 ?_
  refine R_iload_n (pc := 23) dX3_cellsInBoth_23 rfl rfl ?_
  refine R_iload_n (pc := 24) dX3_cellsInBoth_24 rfl rfl ?_
  refine R_iload_n (pc := 25) dX3_cellsInBoth_25 rfl rfl ?_
  refine R_isub (pc := 26) dX3_cellsInBoth_26 ?_
  have r2 : inR (t - b) (-2) 6 := inR_sub (show inR t 0 4 from ht) (show inR b (-2) 2 from hb) (by decide) (by decide)
  have e3 := ti_sub (l := (-2)) (h := 6) (show inR t 0 4 from ht) (show inR b (-2) 2 from hb) (by decide) (by decide)
  refine R_mmax (pc := 27) wm_373 dX3_cellsInBoth_27 (by decide) (Nat.le_of_ble_eq_true rfl) (Nat.zero_le _) (Nat.zero_le _) ?_
  have r4 : inR (if s < (t - b) then (t - b) else s) 0 6 := inR_max (show inR s 0 4 from hs) (show inR (t - b) (-2) 6 from r2) (by decide) (by decide) (by decide)
  refine st_11_6_i_n (pc := 30) dX3_cellsInBoth_30 ?_
  refine R_bipush (pc := 32) (v := 7) dX3_cellsInBoth_32 (by decide) ?_
  refine R_bipush (pc := 34) (v := 7) dX3_cellsInBoth_34 (by decide) ?_
  refine R_iload_n (pc := 36) dX3_cellsInBoth_36 rfl rfl ?_
  refine R_isub (pc := 37) dX3_cellsInBoth_37 ?_
  have r5 : inR (7 - b) 5 9 := inR_sub (show inR 7 7 7 from (inR_self _)) (show inR b (-2) 2 from hb) (by decide) (by decide)
  have e6 := ti_sub (l := 5) (h := 9) (show inR 7 7 7 from (inR_self _)) (show inR b (-2) 2 from hb) (by decide) (by decide)
  refine R_mmin (pc := 38) wm_376 dX3_cellsInBoth_38 (by decide) (Nat.le_of_ble_eq_true rfl) (Nat.zero_le _) (Nat.zero_le _) ?_
  have r7 : inR (if (7 - b) < 7 then (7 - b) else 7) 5 7 := inR_min (show inR 7 7 7 from (inR_self _)) (show inR (7 - b) 5 9 from r5) (by decide) (by decide) (by decide)
  refine st_11_7_i_i (pc := 41) dX3_cellsInBoth_41 ?_
  refine R_lconst (pc := 43) (v := 0) dX3_cellsInBoth_43 (by decide) ?_
  refine st_11_8_l_i (pc := 44) dX3_cellsInBoth_44 ?_
  refine R_iload (pc := 46) dX3_cellsInBoth_46 rfl ?_
  refine st_11_10_i_n (pc := 48) dX3_cellsInBoth_48 ?_
  have HL : ∀ (q : Nat) (y : Int32) (g : Int64), y.toInt + (q : Int) = 8 → inR y 0 8 → clL (clC a) (clT b) q y g = (cbC s t a b) → R G l yX3_cellsInBoth cX3_cellsInBoth 11 (some .long) 1 0 0 (QL (fun x w2 => w2 = w ∧ x = cbC s t a b)) 50 [(some (.int s)), (some (.int t)), (some (.int a)), (some (.int b)), (some (.long (Int32.toInt64 ((255 <<< ((if 0 < (-a) then (-a) else 0) &&& 31)) &&& (255 >>> ((if 0 < a then a else 0) &&& 31)))))), none, (some (.int (if s < (t - b) then (t - b) else s))), (some (.int (if (7 - b) < 7 then (7 - b) else 7))), (some (.long g)), none, (some (.int y))] [] (w) 0 0 := by
    intro q
    induction q with
    | zero =>
      intro y g hj hr hX
      have hM : inR y 8 8 := of_ti (by have z : (8 : Int32).toInt = 8 := (by decide); omega) (by have z : (8 : Int32).toInt = 8 := (by decide); omega)
      refine R_iload (pc := 50) dX3_cellsInBoth_50 rfl ?_
      refine R_iload (pc := 52) dX3_cellsInBoth_52 rfl ?_
      refine R_icgt (pc := 54) 76 dX3_cellsInBoth_54 (by decide) (fun _ => ?_) (fun h => False.elim (by have q1 := ti_nlt h; have q2 := ti_in (show inR y 8 8 from hM); have q3 := ti_in (show inR (if (7 - b) < 7 then (7 - b) else 7) 5 7 from r7); have z0 : (5 : Int32).toInt = 5 := (by decide);  have z1 : (7 : Int32).toInt = 7 := (by decide);  have z2 : (8 : Int32).toInt = 8 := (by decide); omega))
      refine R_lload (pc := 76) dX3_cellsInBoth_76 rfl ?_
      exact R_lret (pc := 78) dX3_cellsInBoth_78 rfl (Nat.zero_le _) (Nat.zero_le _) ⟨_, rfl, rfl, hX⟩
    | succ q ih =>
      intro y g hj hr hX
      have hM : inR y 0 7 := of_ti (ti_in hr).1 (by have z : (7 : Int32).toInt = 7 := (by decide); omega)
      refine R_iload (pc := 50) dX3_cellsInBoth_50 rfl ?_
      refine R_iload (pc := 52) dX3_cellsInBoth_52 rfl ?_
      refine R_icgt (pc := 54) 76 dX3_cellsInBoth_54 (by decide) (fun b54_9 => ?_) (fun b54_9 => ?_)
      · skip
        refine R_lload (pc := 76) dX3_cellsInBoth_76 rfl ?_
        exact R_lret (pc := 78) dX3_cellsInBoth_78 rfl (Nat.zero_le _) (Nat.zero_le _) ⟨_, rfl, rfl, cl_out hX b54_9⟩
      · skip
        refine R_lload (pc := 57) dX3_cellsInBoth_57 rfl ?_
        refine R_lload (pc := 59) dX3_cellsInBoth_59 rfl ?_
        refine R_bipush (pc := 61) (v := 8) dX3_cellsInBoth_61 (by decide) ?_
        refine R_iload (pc := 63) dX3_cellsInBoth_63 rfl ?_
        refine R_imul (pc := 65) dX3_cellsInBoth_65 ?_
        refine R_lshl (pc := 66) dX3_cellsInBoth_66 ?_
        refine R_lor (pc := 67) dX3_cellsInBoth_67 ?_
        refine st_11_8_l_i (pc := 68) dX3_cellsInBoth_68 ?_
        refine inc_11_10_1_n (pc := 70) dX3_cellsInBoth_70 ?_
        have r10 : inR (y + 1) 1 8 := inR_add (show inR y 0 7 from hM) (show inR 1 1 1 from (inR_self _)) (by decide) (by decide)
        have e11 := ti_add (l := 1) (h := 8) (show inR y 0 7 from hM) (show inR 1 1 1 from (inR_self _)) (by decide) (by decide)
        refine R_goto (pc := 73) 50 dX3_cellsInBoth_73 (by decide) ?_
        exact ih (y + 1) _ (by have q0 := e3; have q1 := e6; have q2 := e11; have q3 := ti_nlt b54_9; have q4 := ti_in hs; have q5 := ti_in ht; have q6 := ti_in ha; have q7 := ti_in hb; have q8 := ti_in r1; have q9 := ti_in r2; have q10 := ti_in r4; have q11 := ti_in r5; have q12 := ti_in r7; have q13 := ti_in hM; have q14 := ti_in r10; have q15 := hj; have z0 : (-2 : Int32).toInt = -2 := (by decide); have z1 : (0 : Int32).toInt = 0 := (by decide); have z2 : (1 : Int32).toInt = 1 := (by decide); have z3 : (2 : Int32).toInt = 2 := (by decide); have z4 : (4 : Int32).toInt = 4 := (by decide); have z5 : (5 : Int32).toInt = 5 := (by decide); have z6 : (6 : Int32).toInt = 6 := (by decide); have z7 : (7 : Int32).toInt = 7 := (by decide); have z8 : (8 : Int32).toInt = 8 := (by decide); have z9 : (9 : Int32).toInt = 9 := (by decide); omega) (inR_up r10 (by decide) (by decide)) (cl_in hX b54_9)
  exact HL ((8 : Int) - ((if s < (t - b) then (t - b) else s)).toInt).toNat _ _ (by have z := ti_in (show inR ((if s < (t - b) then (t - b) else s)) 0 8 from (inR_up r4 (by decide) (by decide))); have z8 : (8 : Int32).toInt = 8 := (by decide); have z0 : (0 : Int32).toInt = 0 := (by decide); omega) (inR_up r4 (by decide) (by decide)) rfl
set_option maxRecDepth 100000 in
set_option maxHeartbeats 40000000 in
theorem ge_X3_moved {G : vG} {l : Launch} (w : VW) (a : Int64) (b : Int32) : Sp G l yX3_moved cX3_moved 3 (some .long) 0 0 0 [.long a, .int b] (w) (QL (fun x w2 => w2 = w ∧ mvC a b = x)) := by
  refine Sp_of_R [(some (.long a)), none, (some (.int b))] [] rfl (by simp) rfl (Nat.le_of_ble_eq_true rfl) ?_
  refine R_iload_n (pc := 0) dX3_moved_0 rfl rfl ?_
  refine R_iflt (pc := 1) 10 dX3_moved_1 (by decide) (fun b1_1 => ?_) (fun b1_1 => ?_)
  · skip
    refine R_lload_n (pc := 10) dX3_moved_10 rfl rfl ?_
    refine R_iload_n (pc := 11) dX3_moved_11 rfl rfl ?_
    refine R_ineg (pc := 12) dX3_moved_12 ?_
    refine R_lshl (pc := 13) dX3_moved_13 ?_
    exact R_lret (pc := 14) dX3_moved_14 rfl (Nat.zero_le _) (Nat.zero_le _) ⟨_, rfl, rfl, (by unfold mvC; rw [if_pos b1_1])⟩
  · skip
    refine R_lload_n (pc := 4) dX3_moved_4 rfl rfl ?_
    refine R_iload_n (pc := 5) dX3_moved_5 rfl rfl ?_
    refine R_lushr (pc := 6) dX3_moved_6 ?_
    refine R_goto (pc := 7) 14 dX3_moved_7 (by decide) ?_
    exact R_lret (pc := 14) dX3_moved_14 rfl (Nat.zero_le _) (Nat.zero_le _) ⟨_, rfl, rfl, (by unfold mvC; rw [if_neg b1_1]; rfl)⟩
theorem nI_nem' {j : Nat} (h : j < 2 ^ 31) : ¬ nI j = -1 := fun e => by
  have h1 := ti_eq e
  rw [nI_toInt h] at h1
  have z : (-1 : Int32).toInt = -1 := by decide
  omega
theorem uc_at {pa pb : Int64} {sa sb : Int32} {y x : Nat} (hx : x < 5) : ucF pa pb sa sb (5 * y + x) = bif decide (pcL (cbC sa sb (nI x + (-2)) (nI y + (-2))) < 24) then -1 else pcL ((pa ^^^ mvC pb (8 * (nI y + (-2)) + (nI x + (-2)))) &&& cbC sa sb (nI x + (-2)) (nI y + (-2))) := by
  unfold ucF dX dY
  rw [show (5 * y + x) % 5 = x by omega, show (5 * y + x) / 5 = y by omega]
theorem pc_ne (x : Int64) : ¬ pcL x = -1 := by
  rw [pcL_nI]
  exact nI_nem' (by have := cnt_le (fun i => x.toBitVec.getLsbD i) 64; omega)
set_option maxRecDepth 100000 in
set_option maxHeartbeats 40000000 in
theorem gn_X3_fewestOtherwise {G : vG} {l : Launch} (σ : Sg) (a b : Int32) (hI : Inv σ) (ha : inR a 0 19) (hb : inR b 0 19) : Sp G l yX3_fewestOtherwise cX3_fewestOtherwise 11 (some .int) 2 0 0 [.ref 12, .int a, .int b] (WW σ) (QI (fun x w2 => w2 = WW σ ∧ x = uoF (σ.2.2.2.1 6 (Int32.toNatClampNeg a)) (σ.2.2.2.1 6 (Int32.toNatClampNeg b)) (σ.2.2.1 7 (Int32.toNatClampNeg a)) (σ.2.2.1 7 (Int32.toNatClampNeg b)))) := by
  refine Sp_of_R [(some (.ref 12)), (some (.int a)), (some (.int b)), none, none, none, none, none, none, none, none] [none, none, none, none, none, none, none, none] rfl (by simp) rfl (Nat.le_of_ble_eq_true rfl) ?_
  refine R_iconst (pc := 0) (v := (-1)) dX3_fewestOtherwise_0 (by decide) ?_
  refine st_11_3_i_i (pc := 1) dX3_fewestOtherwise_1 ?_
  refine R_bipush (pc := 2) (v := (-2)) dX3_fewestOtherwise_2 (by decide) ?_
  refine st_11_4_i_i (pc := 4) dX3_fewestOtherwise_4 ?_
  have HL6 : ∀ (q j6 : Nat) (g3_6 : Int32) (g5_6 : Option Value) (g6_6 : Option Value) (g8_6 : Option Value) (g10_6 : Option Value), j6 + q = 5 → 0 ≤ j6 → g3_6 = foF (ucF (σ.2.2.2.1 6 (Int32.toNatClampNeg a)) (σ.2.2.2.1 6 (Int32.toNatClampNeg b)) (σ.2.2.1 7 (Int32.toNatClampNeg a)) (σ.2.2.1 7 (Int32.toNatClampNeg b))) (5 * j6) → R G l yX3_fewestOtherwise cX3_fewestOtherwise 11 (some .int) 2 0 0 (QI (fun x w2 => w2 = WW σ ∧ x = uoF (σ.2.2.2.1 6 (Int32.toNatClampNeg a)) (σ.2.2.2.1 6 (Int32.toNatClampNeg b)) (σ.2.2.1 7 (Int32.toNatClampNeg a)) (σ.2.2.1 7 (Int32.toNatClampNeg b)))) 6 [(some (.ref 12)), (some (.int a)), (some (.int b)), (some (.int g3_6)), (some (.int (nI j6 + (-2)))), g5_6, g6_6, none, g8_6, none, g10_6] [] (WW σ) 0 0 := by
    intro q
    induction q with
    | zero =>
      intro j6 g3_6 g5_6 g6_6 g8_6 g10_6 hj6 hs6 hX6_0
      obtain rfl : j6 = 5 := by omega
      refine R_iload (pc := 6) dX3_fewestOtherwise_6 rfl ?_
      refine R_iconst (pc := 8) (v := 2) dX3_fewestOtherwise_8 (by decide) ?_
      refine R_icgt (pc := 9) 130 dX3_fewestOtherwise_9 (by decide) (fun _ => ?_) (fun h => absurd (by decide) h)
      refine R_iload_n (pc := 130) dX3_fewestOtherwise_130 rfl rfl ?_
      exact R_iret (pc := 131) dX3_fewestOtherwise_131 rfl rfl (Nat.zero_le _) (Nat.zero_le _) ⟨_, rfl, rfl, (hX6_0.trans (fo_congr 25 (fun k hk => uc_ub hk (iva_7 hI _ (clamp19 ha)) (iva_7 hI _ (clamp19 hb)))))⟩
    | succ q ih6 =>
      intro j6 g3_6 g5_6 g6_6 g8_6 g10_6 hj6 hs6 hX6_0
      have hlt6 : j6 < 5 := by omega
      have hrg6 : inR (nI j6 + (-2)) (-2) 2 := (by have h := (o2_rng ⟨j6, hlt6⟩); exact h)
      refine R_iload (pc := 6) dX3_fewestOtherwise_6 rfl ?_
      refine R_iconst (pc := 8) (v := 2) dX3_fewestOtherwise_8 (by decide) ?_
      refine R_icgt (pc := 9) 130 dX3_fewestOtherwise_9 (by decide) (fun h => False.elim (by have q1 := ti_lt h; have q2 := ti_in (show inR (nI j6 + (-2)) (-2) 2 from hrg6); have q3 := ti_in (show inR 2 2 2 from (inR_self _)); have z0 : (-2 : Int32).toInt = (-2) := (by decide);  have z1 : (-2 : Int32).toInt = -2 := (by decide);  have z2 : (2 : Int32).toInt = 2 := (by decide); omega)) (fun _ => ?_)
      refine R_bipush (pc := 12) (v := (-2)) dX3_fewestOtherwise_12 (by decide) ?_
      refine st_11_5_i_i (pc := 14) dX3_fewestOtherwise_14 ?_
      have HL16 : ∀ (q j16 : Nat) (g3_16 : Int32) (g6_16 : Option Value) (g8_16 : Option Value) (g10_16 : Option Value), j16 + q = 5 → 0 ≤ j16 → g3_16 = foF (ucF (σ.2.2.2.1 6 (Int32.toNatClampNeg a)) (σ.2.2.2.1 6 (Int32.toNatClampNeg b)) (σ.2.2.1 7 (Int32.toNatClampNeg a)) (σ.2.2.1 7 (Int32.toNatClampNeg b))) (5 * j6 + j16) → R G l yX3_fewestOtherwise cX3_fewestOtherwise 11 (some .int) 2 0 0 (QI (fun x w2 => w2 = WW σ ∧ x = uoF (σ.2.2.2.1 6 (Int32.toNatClampNeg a)) (σ.2.2.2.1 6 (Int32.toNatClampNeg b)) (σ.2.2.1 7 (Int32.toNatClampNeg a)) (σ.2.2.1 7 (Int32.toNatClampNeg b)))) 16 [(some (.ref 12)), (some (.int a)), (some (.int b)), (some (.int g3_16)), (some (.int (nI j6 + (-2)))), (some (.int (nI j16 + (-2)))), g6_16, none, g8_16, none, g10_16] [] (WW σ) 0 0 := by
        intro q
        induction q with
        | zero =>
          intro j16 g3_16 g6_16 g8_16 g10_16 hj16 hs16 hX16_0
          obtain rfl : j16 = 5 := by omega
          refine R_iload (pc := 16) dX3_fewestOtherwise_16 rfl ?_
          refine R_iconst (pc := 18) (v := 2) dX3_fewestOtherwise_18 (by decide) ?_
          refine R_icgt (pc := 19) 124 dX3_fewestOtherwise_19 (by decide) (fun _ => ?_) (fun h => absurd (by decide) h)
          refine inc_11_4_1_i (pc := 124) dX3_fewestOtherwise_124 ?_
          have r4 : inR ((nI j6 + (-2)) + 1) (-1) 3 := inR_add (show inR (nI j6 + (-2)) (-2) 2 from hrg6) (show inR 1 1 1 from (inR_self _)) (by decide) (by decide)
          have e5 := ti_add (l := (-1)) (h := 3) (show inR (nI j6 + (-2)) (-2) 2 from hrg6) (show inR 1 1 1 from (inR_self _)) (by decide) (by decide)
          refine R_goto (pc := 127) 6 dX3_fewestOtherwise_127 (by decide) ?_
          rw [nI_o2]
          exact ih6 (j6 + 1) _ _ _ _ _ (by omega) (by omega) (show _ = foF (ucF (σ.2.2.2.1 6 (Int32.toNatClampNeg a)) (σ.2.2.2.1 6 (Int32.toNatClampNeg b)) (σ.2.2.1 7 (Int32.toNatClampNeg a)) (σ.2.2.1 7 (Int32.toNatClampNeg b))) (5 * (j6 + 1)) from by rw [show 5 * (j6 + 1) = 5 * j6 + 5 from by omega]; exact hX16_0)
        | succ q ih16 =>
          intro j16 g3_16 g6_16 g8_16 g10_16 hj16 hs16 hX16_0
          have hlt16 : j16 < 5 := by omega
          have hrg16 : inR (nI j16 + (-2)) (-2) 2 := (by have h := (o2_rng ⟨j16, hlt16⟩); exact h)
          refine R_iload (pc := 16) dX3_fewestOtherwise_16 rfl ?_
          refine R_iconst (pc := 18) (v := 2) dX3_fewestOtherwise_18 (by decide) ?_
          refine R_icgt (pc := 19) 124 dX3_fewestOtherwise_19 (by decide) (fun h => False.elim (by have q1 := ti_lt h; have q2 := ti_in (show inR (nI j16 + (-2)) (-2) 2 from hrg16); have q3 := ti_in (show inR 2 2 2 from (inR_self _)); have z0 : (-2 : Int32).toInt = (-2) := (by decide);  have z1 : (-2 : Int32).toInt = -2 := (by decide);  have z2 : (2 : Int32).toInt = 2 := (by decide); omega)) (fun _ => ?_)
          refine R_aload_n (pc := 22) dX3_fewestOtherwise_22 rfl rfl ?_
          refine g_X3_27 (pc := 23) (v := .ref 1) rfl dX3_fewestOtherwise_23 (c_12 _) rfl ?_
          refine g_X3_40 (pc := 26) (v := .ref 7) rfl dX3_fewestOtherwise_26 (c_1 _) rfl ?_
          refine R_iload_n (pc := 29) dX3_fewestOtherwise_29 rfl rfl ?_
          have hx7 : vp_in a 20 := (vp_of_inR ha (by decide))
          refine R_iaload (pc := 30) dX3_fewestOtherwise_30 (c_7 _) hx7 ?_
          refine R_aload_n (pc := 31) dX3_fewestOtherwise_31 rfl rfl ?_
          refine g_X3_27 (pc := 32) (v := .ref 1) rfl dX3_fewestOtherwise_32 (c_12 _) rfl ?_
          refine g_X3_40 (pc := 35) (v := .ref 7) rfl dX3_fewestOtherwise_35 (c_1 _) rfl ?_
          refine R_iload_n (pc := 38) dX3_fewestOtherwise_38 rfl rfl ?_
          have hx8 : vp_in b 20 := (vp_of_inR hb (by decide))
          refine R_iaload (pc := 39) dX3_fewestOtherwise_39 (c_7 _) hx8 ?_
          refine R_iload (pc := 40) dX3_fewestOtherwise_40 rfl ?_
          refine R_iload (pc := 42) dX3_fewestOtherwise_42 rfl ?_
          refine k_X3_43 (pc := 44) (ge_X3_cellsInBoth _ _ _ _ _ (iva_7 hI _ (lt_of_vp hx7)) (iva_7 hI _ (lt_of_vp hx8)) hrg16 hrg6) rfl (by decide) (Nat.le_refl _) (Nat.le_refl _) (Nat.le_of_ble_eq_true rfl) dX3_fewestOtherwise_44 (fun x w2 h => ?_)
          obtain ⟨rfl, rfl⟩ := h
          refine st_11_6_l_i (pc := 47) dX3_fewestOtherwise_47 ?_
          refine R_lload (pc := 49) dX3_fewestOtherwise_49 rfl ?_
          refine k_X3_47 (pc := 51) (ge_J13_bitCount _ _) rfl (by decide) (Nat.le_refl _) (Nat.le_refl _) (Nat.le_of_ble_eq_true rfl) dX3_fewestOtherwise_51 (fun x w2 h => ?_)
          obtain ⟨rfl, rfl⟩ := h
          refine R_cv (pcL (cbC (σ.2.2.1 7 (Int32.toNatClampNeg a)) (σ.2.2.1 7 (Int32.toNatClampNeg b)) (nI j16 + (-2)) (nI j6 + (-2)))) rfl ?_
          refine R_bipush (pc := 54) (v := 24) dX3_fewestOtherwise_54 (by decide) ?_
          refine R_iclt (pc := 56) 118 dX3_fewestOtherwise_56 (by decide) (fun b56_9 => ?_) (fun b56_9 => ?_)
          · skip
            refine inc_11_5_1_i (pc := 118) dX3_fewestOtherwise_118 ?_
            have r10 : inR ((nI j16 + (-2)) + 1) (-1) 3 := inR_add (show inR (nI j16 + (-2)) (-2) 2 from hrg16) (show inR 1 1 1 from (inR_self _)) (by decide) (by decide)
            have e11 := ti_add (l := (-1)) (h := 3) (show inR (nI j16 + (-2)) (-2) 2 from hrg16) (show inR 1 1 1 from (inR_self _)) (by decide) (by decide)
            refine R_goto (pc := 121) 16 dX3_fewestOtherwise_121 (by decide) ?_
            rw [nI_o2]
            exact ih16 (j16 + 1) _ _ _ _ (by omega) (by omega) (by show _ = foF (ucF (σ.2.2.2.1 6 (Int32.toNatClampNeg a)) (σ.2.2.2.1 6 (Int32.toNatClampNeg b)) (σ.2.2.1 7 (Int32.toNatClampNeg a)) (σ.2.2.1 7 (Int32.toNatClampNeg b))) (5 * j6 + j16 + 1); rw [fo_s, (uc_at (pa := (σ.2.2.2.1 6 (Int32.toNatClampNeg a))) (pb := (σ.2.2.2.1 6 (Int32.toNatClampNeg b))) (sa := (σ.2.2.1 7 (Int32.toNatClampNeg a))) (sb := (σ.2.2.1 7 (Int32.toNatClampNeg b))) (y := j6) (x := j16) (by omega)), decide_eq_true b56_9]; exact hX16_0.trans (st_skip rfl).symm)
          · skip
            refine R_aload_n (pc := 59) dX3_fewestOtherwise_59 rfl rfl ?_
            refine g_X3_27 (pc := 60) (v := .ref 1) rfl dX3_fewestOtherwise_60 (c_12 _) rfl ?_
            refine g_X3_53 (pc := 63) (v := .ref 6) rfl dX3_fewestOtherwise_63 (c_1 _) rfl ?_
            refine R_iload_n (pc := 66) dX3_fewestOtherwise_66 rfl rfl ?_
            have hx12 : vp_in b 20 := (vp_of_inR hb (by decide))
            refine R_laload (pc := 67) dX3_fewestOtherwise_67 (c_6 _) hx12 ?_
            refine R_bipush (pc := 68) (v := 8) dX3_fewestOtherwise_68 (by decide) ?_
            refine R_iload (pc := 70) dX3_fewestOtherwise_70 rfl ?_
            refine R_imul (pc := 72) dX3_fewestOtherwise_72 ?_
            refine R_iload (pc := 73) dX3_fewestOtherwise_73 rfl ?_
            refine R_iadd (pc := 75) dX3_fewestOtherwise_75 ?_
            refine k_X3_57 (pc := 76) (ge_X3_moved _ _ _) rfl (by decide) (Nat.le_refl _) (Nat.le_refl _) (Nat.le_of_ble_eq_true rfl) dX3_fewestOtherwise_76 (fun x w2 h => ?_)
            obtain ⟨rfl, rfl⟩ := h
            refine st_11_8_l_n (pc := 79) dX3_fewestOtherwise_79 ?_
            refine R_aload_n (pc := 81) dX3_fewestOtherwise_81 rfl rfl ?_
            refine g_X3_27 (pc := 82) (v := .ref 1) rfl dX3_fewestOtherwise_82 (c_12 _) rfl ?_
            refine g_X3_53 (pc := 85) (v := .ref 6) rfl dX3_fewestOtherwise_85 (c_1 _) rfl ?_
            refine R_iload_n (pc := 88) dX3_fewestOtherwise_88 rfl rfl ?_
            have hx13 : vp_in a 20 := (vp_of_inR ha (by decide))
            refine R_laload (pc := 89) dX3_fewestOtherwise_89 (c_6 _) hx13 ?_
            refine R_lload (pc := 90) dX3_fewestOtherwise_90 rfl ?_
            refine R_lxor (pc := 92) dX3_fewestOtherwise_92 ?_
            refine R_lload (pc := 93) dX3_fewestOtherwise_93 rfl ?_
            refine R_land (pc := 95) dX3_fewestOtherwise_95 ?_
            refine k_X3_47 (pc := 96) (ge_J13_bitCount _ _) rfl (by decide) (Nat.le_refl _) (Nat.le_refl _) (Nat.le_of_ble_eq_true rfl) dX3_fewestOtherwise_96 (fun x w2 h => ?_)
            obtain ⟨rfl, rfl⟩ := h
            refine R_cv (pcL (((σ.2.2.2.1 6 (Int32.toNatClampNeg a)) ^^^ (mvC (σ.2.2.2.1 6 (Int32.toNatClampNeg b)) ((8 * (nI j6 + (-2))) + (nI j16 + (-2))))) &&& (cbC (σ.2.2.1 7 (Int32.toNatClampNeg a)) (σ.2.2.1 7 (Int32.toNatClampNeg b)) (nI j16 + (-2)) (nI j6 + (-2))))) rfl ?_
            refine st_11_10_i_n (pc := 99) dX3_fewestOtherwise_99 ?_
            refine R_iload_n (pc := 101) dX3_fewestOtherwise_101 rfl rfl ?_
            refine R_iconst (pc := 102) (v := (-1)) dX3_fewestOtherwise_102 (by decide) ?_
            refine R_icne (pc := 103) 111 dX3_fewestOtherwise_103 (by decide) (fun b103_14 => ?_) (fun b103_14 => ?_)
            · skip
              refine R_iload_n (pc := 111) dX3_fewestOtherwise_111 rfl rfl ?_
              refine R_iload (pc := 112) dX3_fewestOtherwise_112 rfl ?_
              refine R_mmin (pc := 114) wm_376 dX3_fewestOtherwise_114 (by decide) (Nat.le_of_ble_eq_true rfl) (Nat.zero_le _) (Nat.zero_le _) ?_
              refine st_11_3_i_i (pc := 117) dX3_fewestOtherwise_117 ?_
              refine inc_11_5_1_i (pc := 118) dX3_fewestOtherwise_118 ?_
              have r15 : inR ((nI j16 + (-2)) + 1) (-1) 3 := inR_add (show inR (nI j16 + (-2)) (-2) 2 from hrg16) (show inR 1 1 1 from (inR_self _)) (by decide) (by decide)
              have e16 := ti_add (l := (-1)) (h := 3) (show inR (nI j16 + (-2)) (-2) 2 from hrg16) (show inR 1 1 1 from (inR_self _)) (by decide) (by decide)
              refine R_goto (pc := 121) 16 dX3_fewestOtherwise_121 (by decide) ?_
              rw [nI_o2]
              exact ih16 (j16 + 1) _ _ _ _ (by omega) (by omega) (by show _ = foF (ucF (σ.2.2.2.1 6 (Int32.toNatClampNeg a)) (σ.2.2.2.1 6 (Int32.toNatClampNeg b)) (σ.2.2.1 7 (Int32.toNatClampNeg a)) (σ.2.2.1 7 (Int32.toNatClampNeg b))) (5 * j6 + j16 + 1); rw [fo_s, (uc_at (pa := (σ.2.2.2.1 6 (Int32.toNatClampNeg a))) (pb := (σ.2.2.2.1 6 (Int32.toNatClampNeg b))) (sa := (σ.2.2.1 7 (Int32.toNatClampNeg a))) (sb := (σ.2.2.1 7 (Int32.toNatClampNeg b))) (y := j6) (x := j16) (by omega)), decide_eq_false b56_9, ← hX16_0]; exact st_min (pc_ne _) b103_14)
            · skip
              refine R_iload (pc := 106) dX3_fewestOtherwise_106 rfl ?_
              refine R_goto (pc := 108) 117 dX3_fewestOtherwise_108 (by decide) ?_
              refine st_11_3_i_i (pc := 117) dX3_fewestOtherwise_117 ?_
              refine inc_11_5_1_i (pc := 118) dX3_fewestOtherwise_118 ?_
              have r17 : inR ((nI j16 + (-2)) + 1) (-1) 3 := inR_add (show inR (nI j16 + (-2)) (-2) 2 from hrg16) (show inR 1 1 1 from (inR_self _)) (by decide) (by decide)
              have e18 := ti_add (l := (-1)) (h := 3) (show inR (nI j16 + (-2)) (-2) 2 from hrg16) (show inR 1 1 1 from (inR_self _)) (by decide) (by decide)
              refine R_goto (pc := 121) 16 dX3_fewestOtherwise_121 (by decide) ?_
              rw [nI_o2]
              exact ih16 (j16 + 1) _ _ _ _ (by omega) (by omega) (by show _ = foF (ucF (σ.2.2.2.1 6 (Int32.toNatClampNeg a)) (σ.2.2.2.1 6 (Int32.toNatClampNeg b)) (σ.2.2.1 7 (Int32.toNatClampNeg a)) (σ.2.2.1 7 (Int32.toNatClampNeg b))) (5 * j6 + j16 + 1); rw [fo_s, (uc_at (pa := (σ.2.2.2.1 6 (Int32.toNatClampNeg a))) (pb := (σ.2.2.2.1 6 (Int32.toNatClampNeg b))) (sa := (σ.2.2.1 7 (Int32.toNatClampNeg a))) (sb := (σ.2.2.1 7 (Int32.toNatClampNeg b))) (y := j6) (x := j16) (by omega)), decide_eq_false b56_9, ← hX16_0]; exact (st_first (pc_ne _) b103_14).symm)
      exact HL16 5 0 _ _ _ _ (by omega) (by omega) hX6_0
  exact HL6 5 0 _ _ _ _ _ (by omega) (by omega) rfl
