/-! methods on any state that keeps the invariant -/
def lkB (sl v : Int32) : Bool := !decide (v = -1) && !decide (sl < v)
def lkC (σ : Sg) (a b : Int32) : Bool := lkB (σ.1 1204) (σ.2.2.1 (14 + (Int32.toNatClampNeg a)) (Int32.toNatClampNeg b))
def lkM (σ : Sg) (a b : Int32) : Bool := inB (σ.2.2.1 151 (Int32.toNatClampNeg ((20 * a) + b))) 0 (σ.1 14012)
set_option maxRecDepth 100000 in
set_option maxHeartbeats 40000000 in
theorem ge_X3_isLike {G : vG} {l : Launch} (σ : Sg) (a b : Int32) (hI : Inv σ) (ha : inR a 0 19) (hb : inR b 0 19) : Sp G l yX3_isLike cX3_isLike 3 (some .boolean) 0 0 0 [.ref 12, .int a, .int b] (WW σ) (QI (fun x w2 => w2 = WW σ ∧ (lkC σ a b = true ∧ x = 1 ∨ lkC σ a b = false ∧ x = 0))) := by
  refine Sp_of_R [(some (.ref 12)), (some (.int a)), (some (.int b))] [] rfl (by simp) rfl (Nat.le_of_ble_eq_true rfl) ?_
  refine R_aload_n (pc := 0) dX3_isLike_0 rfl rfl ?_
  refine g_X3_11 (pc := 1) (v := .ref 13) rfl dX3_isLike_1 (c_12 _) rfl ?_
  refine R_iload_n (pc := 4) dX3_isLike_4 rfl rfl ?_
  have hx1 : vp_in a 20 := (vp_of_inR ha (by decide))
  refine R_aaload (pc := 5) (b := 14 + (Int32.toNatClampNeg a)) dX3_isLike_5 (c_13 _) hx1 (if_pos (lt_of_vp hx1)) ?_
  refine R_iload_n (pc := 6) dX3_isLike_6 rfl rfl ?_
  have hx2 : vp_in b 20 := (vp_of_inR hb (by decide))
  refine R_iaload (pc := 7) dX3_isLike_7 (r_13 _ _ (lt_of_vp hx1)) hx2 ?_
  refine R_iconst (pc := 8) (v := (-1)) dX3_isLike_8 (by decide) ?_
  refine R_iceq (pc := 9) 31 dX3_isLike_9 (by decide) (fun b9_3 => ?_) (fun b9_3 => ?_)
  · skip
    refine R_iconst (pc := 31) (v := 0) dX3_isLike_31 (by decide) ?_
    exact R_iret (pc := 32) dX3_isLike_32 rfl rfl (Nat.zero_le _) (Nat.zero_le _) ⟨_, rfl, rfl, Or.inr ⟨(by first | (simp only [lkC, lkB, (decide_eq_true b9_3), cond_true, cond_false, Bool.and_true, Bool.true_and, Bool.and_false, Bool.false_and, Bool.or_true, Bool.true_or, Bool.or_false, Bool.false_or, Bool.not_true, Bool.not_false, decide_true, decide_false, if_true, if_false, Bool.true_eq_false, Bool.false_eq_true]; done) | (simp [lkC, lkB, (decide_eq_true b9_3)]; done)), rfl⟩⟩
  · skip
    refine R_aload_n (pc := 12) dX3_isLike_12 rfl rfl ?_
    refine g_X3_11 (pc := 13) (v := .ref 13) rfl dX3_isLike_13 (c_12 _) rfl ?_
    refine R_iload_n (pc := 16) dX3_isLike_16 rfl rfl ?_
    have hx4 : vp_in a 20 := (vp_of_inR ha (by decide))
    refine R_aaload (pc := 17) (b := 14 + (Int32.toNatClampNeg a)) dX3_isLike_17 (c_13 _) hx4 (if_pos (lt_of_vp hx4)) ?_
    refine R_iload_n (pc := 18) dX3_isLike_18 rfl rfl ?_
    have hx5 : vp_in b 20 := (vp_of_inR hb (by decide))
    refine R_iaload (pc := 19) dX3_isLike_19 (r_13 _ _ (lt_of_vp hx4)) hx5 ?_
    refine R_aload_n (pc := 20) dX3_isLike_20 rfl rfl ?_
    refine g_X3_23 (pc := 21) (v := .int (σ.1 1204)) rfl dX3_isLike_21 (c_12 _) rfl ?_
    refine R_icgt (pc := 24) 31 dX3_isLike_24 (by decide) (fun b24_6 => ?_) (fun b24_6 => ?_)
    · skip
      refine R_iconst (pc := 31) (v := 0) dX3_isLike_31 (by decide) ?_
      exact R_iret (pc := 32) dX3_isLike_32 rfl rfl (Nat.zero_le _) (Nat.zero_le _) ⟨_, rfl, rfl, Or.inr ⟨(by first | (simp only [lkC, lkB, (decide_eq_false b9_3), (decide_eq_true b24_6), cond_true, cond_false, Bool.and_true, Bool.true_and, Bool.and_false, Bool.false_and, Bool.or_true, Bool.true_or, Bool.or_false, Bool.false_or, Bool.not_true, Bool.not_false, decide_true, decide_false, if_true, if_false, Bool.true_eq_false, Bool.false_eq_true]; done) | (simp [lkC, lkB, (decide_eq_false b9_3), (decide_eq_true b24_6)]; done)), rfl⟩⟩
    · skip
      refine R_iconst (pc := 27) (v := 1) dX3_isLike_27 (by decide) ?_
      refine R_goto (pc := 28) 32 dX3_isLike_28 (by decide) ?_
      exact R_iret (pc := 32) dX3_isLike_32 rfl rfl (Nat.zero_le _) (Nat.zero_le _) ⟨_, rfl, rfl, Or.inl ⟨(by first | (simp only [lkC, lkB, (decide_eq_false b9_3), (decide_eq_false b24_6), cond_true, cond_false, Bool.and_true, Bool.true_and, Bool.and_false, Bool.false_and, Bool.or_true, Bool.true_or, Bool.or_false, Bool.false_or, Bool.not_true, Bool.not_false, decide_true, decide_false, if_true, if_false, Bool.true_eq_false, Bool.false_eq_true]; done) | (simp [lkC, lkB, (decide_eq_false b9_3), (decide_eq_false b24_6)]; done)), rfl⟩⟩
set_option maxRecDepth 100000 in
set_option maxHeartbeats 40000000 in
theorem ge_X9_isLike {G : vG} {l : Launch} (σ : Sg) (a b : Int32) (hI : Inv σ) (ha : inR a 0 19) (hb : inR b 0 19) : Sp G l yX9_isLike cX9_isLike 3 (some .boolean) 1 0 0 [.ref 140, .int a, .int b] (WW σ) (QI (fun x w2 => w2 = WW σ ∧ (lkM σ a b = true ∧ x = 1 ∨ lkM σ a b = false ∧ x = 0))) := by
  refine Sp_of_R [(some (.ref 140)), (some (.int a)), (some (.int b))] [] rfl (by simp) rfl (Nat.le_of_ble_eq_true rfl) ?_
  refine R_aload_n (pc := 0) dX9_isLike_0 rfl rfl ?_
  refine g_X9_51 (pc := 1) (v := .ref 151) rfl dX9_isLike_1 (c_140 _) rfl ?_
  refine R_bipush (pc := 4) (v := 20) dX9_isLike_4 (by decide) ?_
  refine R_iload_n (pc := 6) dX9_isLike_6 rfl rfl ?_
  refine R_imul (pc := 7) dX9_isLike_7 ?_
  have r1 : inR (20 * a) 0 380 := inR_mulc (c := 20) (l := 0) (h := 380) 20 (by decide) (show inR a 0 19 from ha) (by decide) (by decide)
  have e2 := ti_mulc (c := 20) (l := 0) (h := 380) 20 (by decide) (show inR a 0 19 from ha) (by decide) (by decide)
  refine R_iload_n (pc := 8) dX9_isLike_8 rfl rfl ?_
  refine R_iadd (pc := 9) dX9_isLike_9 ?_
  have r3 : inR ((20 * a) + b) 0 399 := inR_add (show inR (20 * a) 0 380 from r1) (show inR b 0 19 from hb) (by decide) (by decide)
  have e4 := ti_add (l := 0) (h := 399) (show inR (20 * a) 0 380 from r1) (show inR b 0 19 from hb) (by decide) (by decide)
  have hx5 : vp_in ((20 * a) + b) 400 := (vp_of_inR r3 (by decide))
  refine R_iaload (pc := 10) dX9_isLike_10 (c_151 _) hx5 ?_
  refine R_iconst (pc := 11) (v := 0) dX9_isLike_11 (by decide) ?_
  refine R_aload_n (pc := 12) dX9_isLike_12 rfl rfl ?_
  refine g_X9_41 (pc := 13) (v := .int (σ.1 14012)) rfl dX9_isLike_13 (c_140 _) rfl ?_
  refine k_X9_124 (pc := 16) (sp_X9_in _ _ _ _) rfl (by decide) (Nat.le_refl _) (Nat.le_refl _) (Nat.le_of_ble_eq_true rfl) dX9_isLike_16 (fun x w2 h => ?_)
  rcases h with ⟨rfl, ⟨h6, rfl⟩ | ⟨h6, rfl⟩⟩
  · skip
    exact R_iret (pc := 19) dX9_isLike_19 rfl rfl (Nat.zero_le _) (Nat.zero_le _) ⟨_, rfl, rfl, Or.inl ⟨(show inB _ 0 (σ.1 14012) = true from inB_t h6), rfl⟩⟩
  · skip
    exact R_iret (pc := 19) dX9_isLike_19 rfl rfl (Nat.zero_le _) (Nat.zero_le _) ⟨_, rfl, rfl, Or.inr ⟨(show inB _ 0 (σ.1 14012) = false from inB_f h6), rfl⟩⟩
