/-! methods on any state that keeps the invariant -/
def lkB (sl v : Int32) : Bool := !decide (v = -1) && !decide (sl < v)
def mtB (li pu nu ba : Nat → Int32) (lk : Bool) (fa : Int32) (a b : Nat) : Bool := !decide (li a = li b) && (decide (pu a = pu b) && (decide (ba a = ba b) && ((decide (nu a = nu b) || (decide (nu a = 0) || decide (nu b = 0))) && (lk && !decide (2 < fa)))))
def lkC (σ : Sg) (a b : Int32) : Bool := lkB (σ.1 1204) (σ.2.2.1 (14 + (Int32.toNatClampNeg a)) (Int32.toNatClampNeg b))
def mtC (σ : Sg) (a b : Int32) : Bool := mtB (σ.2.2.1 2) (σ.2.2.1 3) (σ.2.2.1 4) (σ.2.2.1 5) (lkC σ a b) (σ.2.2.1 (35 + (Int32.toNatClampNeg a)) (Int32.toNatClampNeg b)) (Int32.toNatClampNeg a) (Int32.toNatClampNeg b)
def lvM (σ : Sg) (a b : Int32) : Int32 := nI (lev (wM σ a) (wM σ b) (Int32.toNatClampNeg (σ.2.2.1 149 (Int32.toNatClampNeg a))) (Int32.toNatClampNeg (σ.2.2.1 149 (Int32.toNatClampNeg b))))
def lkM (σ : Sg) (a b : Int32) : Bool := inB (σ.2.2.1 151 (Int32.toNatClampNeg ((20 * a) + b))) 0 (σ.1 14012)
def mtM (σ : Sg) (a b : Int32) : Bool := mtB (σ.2.2.1 141) (σ.2.2.1 142) (σ.2.2.1 143) (σ.2.2.1 144) (lkM σ a b) (lvM σ a b) (Int32.toNatClampNeg a) (Int32.toNatClampNeg b)
set_option maxRecDepth 100000 in
set_option maxHeartbeats 40000000 in
theorem ge_X3_isLike {G : vG} {l : Launch} (σ : Sg) (a b : Int32) (hI : Inv σ) (ha : inR a 0 19) (hb : inR b 0 19) : Sp G l yX3_isLike cX3_isLike 3 (some .boolean) 0 0 0 [.ref 12, .int a, .int b] (WW σ) (QI (fun x w2 => w2 = WW σ ∧ (lkC σ a b = true ∧ x = 1 ∨ lkC σ a b = false ∧ x = 0))) := by
  refine Sp_of_R [(some (.ref 12)), (some (.int a)), (some (.int b))] [] rfl (by simp) rfl (Nat.le_of_ble_eq_true rfl) ?_
  refine R_aload_n (pc := 0) dX3_isLike_0 rfl rfl ?_
  refine g_X3_11 (pc := 1) (v := .ref 13) rfl dX3_isLike_1 (c_12 _) rfl ?_
  refine R_iload_n (pc := 4) dX3_isLike_4 rfl rfl ?_
  have hx1 : vp_in a 20 := (vp_of_inR ha (by decide))
  refine R_aaload (pc := 5) (b := 14 + (Int32.toNatClampNeg a)) dX3_isLike_5 (c_13 _) hx1 (if_pos (lt_of_vp hx1)) ?_
  refine R_iload_n (pc := 6) dX3_isLike_6 rfl rfl ?_
  have hx2 : vp_in b 20 := (vp_of_inR hb (by decide))
  refine R_iaload (pc := 7) dX3_isLike_7 (r_13 _ _ (lt_of_vp hx1)) hx2 ?_
  refine R_iconst (pc := 8) (v := (-1)) dX3_isLike_8 (by decide) ?_
  refine R_iceq (pc := 9) 31 dX3_isLike_9 (by decide) (fun b9_3 => ?_) (fun b9_3 => ?_)
  · skip
    refine R_iconst (pc := 31) (v := 0) dX3_isLike_31 (by decide) ?_
    exact R_iret (pc := 32) dX3_isLike_32 rfl rfl (Nat.zero_le _) (Nat.zero_le _) ⟨_, rfl, rfl, Or.inr ⟨(by first | (simp only [lkC, lkB, (decide_eq_true b9_3), cond_true, cond_false, Bool.and_true, Bool.true_and, Bool.and_false, Bool.false_and, Bool.or_true, Bool.true_or, Bool.or_false, Bool.false_or, Bool.not_true, Bool.not_false, decide_true, decide_false, if_true, if_false, Bool.true_eq_false, Bool.false_eq_true]; done) | (simp [lkC, lkB, (decide_eq_true b9_3)]; done)), rfl⟩⟩
  · skip
    refine R_aload_n (pc := 12) dX3_isLike_12 rfl rfl ?_
    refine g_X3_11 (pc := 13) (v := .ref 13) rfl dX3_isLike_13 (c_12 _) rfl ?_
    refine R_iload_n (pc := 16) dX3_isLike_16 rfl rfl ?_
    have hx4 : vp_in a 20 := (vp_of_inR ha (by decide))
    refine R_aaload (pc := 17) (b := 14 + (Int32.toNatClampNeg a)) dX3_isLike_17 (c_13 _) hx4 (if_pos (lt_of_vp hx4)) ?_
    refine R_iload_n (pc := 18) dX3_isLike_18 rfl rfl ?_
    have hx5 : vp_in b 20 := (vp_of_inR hb (by decide))
    refine R_iaload (pc := 19) dX3_isLike_19 (r_13 _ _ (lt_of_vp hx4)) hx5 ?_
    refine R_aload_n (pc := 20) dX3_isLike_20 rfl rfl ?_
    refine g_X3_23 (pc := 21) (v := .int (σ.1 1204)) rfl dX3_isLike_21 (c_12 _) rfl ?_
    refine R_icgt (pc := 24) 31 dX3_isLike_24 (by decide) (fun b24_6 => ?_) (fun b24_6 => ?_)
    · skip
      refine R_iconst (pc := 31) (v := 0) dX3_isLike_31 (by decide) ?_
      exact R_iret (pc := 32) dX3_isLike_32 rfl rfl (Nat.zero_le _) (Nat.zero_le _) ⟨_, rfl, rfl, Or.inr ⟨(by first | (simp only [lkC, lkB, (decide_eq_false b9_3), (decide_eq_true b24_6), cond_true, cond_false, Bool.and_true, Bool.true_and, Bool.and_false, Bool.false_and, Bool.or_true, Bool.true_or, Bool.or_false, Bool.false_or, Bool.not_true, Bool.not_false, decide_true, decide_false, if_true, if_false, Bool.true_eq_false, Bool.false_eq_true]; done) | (simp [lkC, lkB, (decide_eq_false b9_3), (decide_eq_true b24_6)]; done)), rfl⟩⟩
    · skip
      refine R_iconst (pc := 27) (v := 1) dX3_isLike_27 (by decide) ?_
      refine R_goto (pc := 28) 32 dX3_isLike_28 (by decide) ?_
      exact R_iret (pc := 32) dX3_isLike_32 rfl rfl (Nat.zero_le _) (Nat.zero_le _) ⟨_, rfl, rfl, Or.inl ⟨(by first | (simp only [lkC, lkB, (decide_eq_false b9_3), (decide_eq_false b24_6), cond_true, cond_false, Bool.and_true, Bool.true_and, Bool.and_false, Bool.false_and, Bool.or_true, Bool.true_or, Bool.or_false, Bool.false_or, Bool.not_true, Bool.not_false, decide_true, decide_false, if_true, if_false, Bool.true_eq_false, Bool.false_eq_true]; done) | (simp [lkC, lkB, (decide_eq_false b9_3), (decide_eq_false b24_6)]; done)), rfl⟩⟩
set_option maxRecDepth 100000 in
set_option maxHeartbeats 40000000 in
theorem ge_X3_isMatch {G : vG} {l : Launch} (σ : Sg) (a b : Int32) (hI : Inv σ) (ha : inR a 0 19) (hb : inR b 0 19) : Sp G l yX3_isMatch cX3_isMatch 4 (some .boolean) 1 0 0 [.ref 12, .int a, .int b] (WW σ) (QI (fun x w2 => w2 = WW σ ∧ (mtC σ a b = true ∧ x = 1 ∨ mtC σ a b = false ∧ x = 0))) := by
  refine Sp_of_R [(some (.ref 12)), (some (.int a)), (some (.int b)), none] [none] rfl (by simp) rfl (Nat.le_of_ble_eq_true rfl) ?_
  refine R_aload_n (pc := 0) dX3_isMatch_0 rfl rfl ?_
  refine g_X3_27 (pc := 1) (v := .ref 1) rfl dX3_isMatch_1 (c_12 _) rfl ?_
  refine g_X3_82 (pc := 4) (v := .ref 4) rfl dX3_isMatch_4 (c_1 _) rfl ?_
  refine R_iload_n (pc := 7) dX3_isMatch_7 rfl rfl ?_
  have hx1 : vp_in a 20 := (vp_of_inR ha (by decide))
  refine R_iaload (pc := 8) dX3_isMatch_8 (c_4 _) hx1 ?_
  refine R_aload_n (pc := 9) dX3_isMatch_9 rfl rfl ?_
  refine g_X3_27 (pc := 10) (v := .ref 1) rfl dX3_isMatch_10 (c_12 _) rfl ?_
  refine g_X3_82 (pc := 13) (v := .ref 4) rfl dX3_isMatch_13 (c_1 _) rfl ?_
  refine R_iload_n (pc := 16) dX3_isMatch_16 rfl rfl ?_
  have hx2 : vp_in b 20 := (vp_of_inR hb (by decide))
  refine R_iaload (pc := 17) dX3_isMatch_17 (c_4 _) hx2 ?_
  refine R_iceq (pc := 18) 45 dX3_isMatch_18 (by decide) (fun b18_3 => ?_) (fun b18_3 => ?_)
  · skip
    refine R_iconst (pc := 45) (v := 1) dX3_isMatch_45 (by decide) ?_
    refine R_goto (pc := 46) 50 dX3_isMatch_46 (by decide) ?_
    refine st_4_3_i_i (pc := 50) dX3_isMatch_50 ?_
    refine R_aload_n (pc := 51) dX3_isMatch_51 rfl rfl ?_
    refine g_X3_27 (pc := 52) (v := .ref 1) rfl dX3_isMatch_52 (c_12 _) rfl ?_
    refine g_X3_85 (pc := 55) (v := .ref 2) rfl dX3_isMatch_55 (c_1 _) rfl ?_
    refine R_iload_n (pc := 58) dX3_isMatch_58 rfl rfl ?_
    have hx4 : vp_in a 20 := (vp_of_inR ha (by decide))
    refine R_iaload (pc := 59) dX3_isMatch_59 (c_2 _) hx4 ?_
    refine R_aload_n (pc := 60) dX3_isMatch_60 rfl rfl ?_
    refine g_X3_27 (pc := 61) (v := .ref 1) rfl dX3_isMatch_61 (c_12 _) rfl ?_
    refine g_X3_85 (pc := 64) (v := .ref 2) rfl dX3_isMatch_64 (c_1 _) rfl ?_
    refine R_iload_n (pc := 67) dX3_isMatch_67 rfl rfl ?_
    have hx5 : vp_in b 20 := (vp_of_inR hb (by decide))
    refine R_iaload (pc := 68) dX3_isMatch_68 (c_2 _) hx5 ?_
    refine R_iceq (pc := 69) 143 dX3_isMatch_69 (by decide) (fun b69_6 => ?_) (fun b69_6 => ?_)
    · skip
      refine R_iconst (pc := 143) (v := 0) dX3_isMatch_143 (by decide) ?_
      exact R_iret (pc := 144) dX3_isMatch_144 rfl rfl (Nat.zero_le _) (Nat.zero_le _) ⟨_, rfl, rfl, Or.inr ⟨(by first | (simp only [mtC, mtB, (decide_eq_true b18_3), (decide_eq_true b69_6), cond_true, cond_false, Bool.and_true, Bool.true_and, Bool.and_false, Bool.false_and, Bool.or_true, Bool.true_or, Bool.or_false, Bool.false_or, Bool.not_true, Bool.not_false, decide_true, decide_false, if_true, if_false, Bool.true_eq_false, Bool.false_eq_true]; done) | (simp [mtC, mtB, (decide_eq_true b18_3), (decide_eq_true b69_6)]; done)), rfl⟩⟩
    · skip
      refine R_aload_n (pc := 72) dX3_isMatch_72 rfl rfl ?_
      refine g_X3_27 (pc := 73) (v := .ref 1) rfl dX3_isMatch_73 (c_12 _) rfl ?_
      refine g_X3_88 (pc := 76) (v := .ref 3) rfl dX3_isMatch_76 (c_1 _) rfl ?_
      refine R_iload_n (pc := 79) dX3_isMatch_79 rfl rfl ?_
      have hx7 : vp_in a 20 := (vp_of_inR ha (by decide))
      refine R_iaload (pc := 80) dX3_isMatch_80 (c_3 _) hx7 ?_
      refine R_aload_n (pc := 81) dX3_isMatch_81 rfl rfl ?_
      refine g_X3_27 (pc := 82) (v := .ref 1) rfl dX3_isMatch_82 (c_12 _) rfl ?_
      refine g_X3_88 (pc := 85) (v := .ref 3) rfl dX3_isMatch_85 (c_1 _) rfl ?_
      refine R_iload_n (pc := 88) dX3_isMatch_88 rfl rfl ?_
      have hx8 : vp_in b 20 := (vp_of_inR hb (by decide))
      refine R_iaload (pc := 89) dX3_isMatch_89 (c_3 _) hx8 ?_
      refine R_icne (pc := 90) 143 dX3_isMatch_90 (by decide) (fun b90_9 => ?_) (fun b90_9 => ?_)
      · skip
        refine R_iconst (pc := 143) (v := 0) dX3_isMatch_143 (by decide) ?_
        exact R_iret (pc := 144) dX3_isMatch_144 rfl rfl (Nat.zero_le _) (Nat.zero_le _) ⟨_, rfl, rfl, Or.inr ⟨(by first | (simp only [mtC, mtB, (decide_eq_true b18_3), (decide_eq_false b69_6), (decide_eq_false b90_9), cond_true, cond_false, Bool.and_true, Bool.true_and, Bool.and_false, Bool.false_and, Bool.or_true, Bool.true_or, Bool.or_false, Bool.false_or, Bool.not_true, Bool.not_false, decide_true, decide_false, if_true, if_false, Bool.true_eq_false, Bool.false_eq_true]; done) | (simp [mtC, mtB, (decide_eq_true b18_3), (decide_eq_false b69_6), (decide_eq_false b90_9)]; done)), rfl⟩⟩
      · skip
        refine R_aload_n (pc := 93) dX3_isMatch_93 rfl rfl ?_
        refine g_X3_27 (pc := 94) (v := .ref 1) rfl dX3_isMatch_94 (c_12 _) rfl ?_
        refine g_X3_91 (pc := 97) (v := .ref 5) rfl dX3_isMatch_97 (c_1 _) rfl ?_
        refine R_iload_n (pc := 100) dX3_isMatch_100 rfl rfl ?_
        have hx10 : vp_in a 20 := (vp_of_inR ha (by decide))
        refine R_iaload (pc := 101) dX3_isMatch_101 (c_5 _) hx10 ?_
        refine R_aload_n (pc := 102) dX3_isMatch_102 rfl rfl ?_
        refine g_X3_27 (pc := 103) (v := .ref 1) rfl dX3_isMatch_103 (c_12 _) rfl ?_
        refine g_X3_91 (pc := 106) (v := .ref 5) rfl dX3_isMatch_106 (c_1 _) rfl ?_
        refine R_iload_n (pc := 109) dX3_isMatch_109 rfl rfl ?_
        have hx11 : vp_in b 20 := (vp_of_inR hb (by decide))
        refine R_iaload (pc := 110) dX3_isMatch_110 (c_5 _) hx11 ?_
        refine R_icne (pc := 111) 143 dX3_isMatch_111 (by decide) (fun b111_12 => ?_) (fun b111_12 => ?_)
        · skip
          refine R_iconst (pc := 143) (v := 0) dX3_isMatch_143 (by decide) ?_
          exact R_iret (pc := 144) dX3_isMatch_144 rfl rfl (Nat.zero_le _) (Nat.zero_le _) ⟨_, rfl, rfl, Or.inr ⟨(by first | (simp only [mtC, mtB, (decide_eq_true b18_3), (decide_eq_false b69_6), (decide_eq_true b90_9), (decide_eq_false b111_12), cond_true, cond_false, Bool.and_true, Bool.true_and, Bool.and_false, Bool.false_and, Bool.or_true, Bool.true_or, Bool.or_false, Bool.false_or, Bool.not_true, Bool.not_false, decide_true, decide_false, if_true, if_false, Bool.true_eq_false, Bool.false_eq_true]; done) | (simp [mtC, mtB, (decide_eq_true b18_3), (decide_eq_false b69_6), (decide_eq_true b90_9), (decide_eq_false b111_12)]; done)), rfl⟩⟩
        · skip
          refine R_iload_n (pc := 114) dX3_isMatch_114 rfl rfl ?_
          refine R_ifeq (pc := 115) 143 dX3_isMatch_115 (by decide) (fun h => absurd h (by decide)) (fun _ => ?_)
          refine R_aload_n (pc := 118) dX3_isMatch_118 rfl rfl ?_
          refine R_iload_n (pc := 119) dX3_isMatch_119 rfl rfl ?_
          refine R_iload_n (pc := 120) dX3_isMatch_120 rfl rfl ?_
          refine k_X3_94 (pc := 121) (ge_X3_isLike _ _ _ hI ha hb) rfl (c_12 _) (by decide) (Nat.le_refl _) (Nat.le_refl _) (Nat.le_of_ble_eq_true rfl) dX3_isMatch_121 (fun x w2 h => ?_)
          rcases h with ⟨rfl, ⟨h14, rfl⟩ | ⟨h14, rfl⟩⟩
          · skip
            refine R_ifeq (pc := 124) 143 dX3_isMatch_124 (by decide) (fun h => absurd h (by decide)) (fun _ => ?_)
            refine R_aload_n (pc := 127) dX3_isMatch_127 rfl rfl ?_
            refine g_X3_16 (pc := 128) (v := .ref 34) rfl dX3_isMatch_128 (c_12 _) rfl ?_
            refine R_iload_n (pc := 131) dX3_isMatch_131 rfl rfl ?_
            have hx16 : vp_in a 20 := (vp_of_inR ha (by decide))
            refine R_aaload (pc := 132) (b := 35 + (Int32.toNatClampNeg a)) dX3_isMatch_132 (c_34 _) hx16 (if_pos (lt_of_vp hx16)) ?_
            refine R_iload_n (pc := 133) dX3_isMatch_133 rfl rfl ?_
            have hx17 : vp_in b 20 := (vp_of_inR hb (by decide))
            refine R_iaload (pc := 134) dX3_isMatch_134 (r_34 _ _ (lt_of_vp hx16)) hx17 ?_
            refine R_iconst (pc := 135) (v := 2) dX3_isMatch_135 (by decide) ?_
            refine R_icgt (pc := 136) 143 dX3_isMatch_136 (by decide) (fun b136_18 => ?_) (fun b136_18 => ?_)
            · skip
              refine R_iconst (pc := 143) (v := 0) dX3_isMatch_143 (by decide) ?_
              exact R_iret (pc := 144) dX3_isMatch_144 rfl rfl (Nat.zero_le _) (Nat.zero_le _) ⟨_, rfl, rfl, Or.inr ⟨(by first | (simp only [mtC, mtB, h14, (decide_eq_true b18_3), (decide_eq_false b69_6), (decide_eq_true b90_9), (decide_eq_true b111_12), (decide_eq_true b136_18), cond_true, cond_false, Bool.and_true, Bool.true_and, Bool.and_false, Bool.false_and, Bool.or_true, Bool.true_or, Bool.or_false, Bool.false_or, Bool.not_true, Bool.not_false, decide_true, decide_false, if_true, if_false, Bool.true_eq_false, Bool.false_eq_true]; done) | (simp [mtC, mtB, h14, (decide_eq_true b18_3), (decide_eq_false b69_6), (decide_eq_true b90_9), (decide_eq_true b111_12), (decide_eq_true b136_18)]; done)), rfl⟩⟩
            · skip
              refine R_iconst (pc := 139) (v := 1) dX3_isMatch_139 (by decide) ?_
              refine R_goto (pc := 140) 144 dX3_isMatch_140 (by decide) ?_
              exact R_iret (pc := 144) dX3_isMatch_144 rfl rfl (Nat.zero_le _) (Nat.zero_le _) ⟨_, rfl, rfl, Or.inl ⟨(by first | (simp only [mtC, mtB, h14, (decide_eq_true b18_3), (decide_eq_false b69_6), (decide_eq_true b90_9), (decide_eq_true b111_12), (decide_eq_false b136_18), cond_true, cond_false, Bool.and_true, Bool.true_and, Bool.and_false, Bool.false_and, Bool.or_true, Bool.true_or, Bool.or_false, Bool.false_or, Bool.not_true, Bool.not_false, decide_true, decide_false, if_true, if_false, Bool.true_eq_false, Bool.false_eq_true]; done) | (simp [mtC, mtB, h14, (decide_eq_true b18_3), (decide_eq_false b69_6), (decide_eq_true b90_9), (decide_eq_true b111_12), (decide_eq_false b136_18)]; done)), rfl⟩⟩
          · skip
            refine R_ifeq (pc := 124) 143 dX3_isMatch_124 (by decide) (fun _ => ?_) (fun h => absurd (by decide) h)
            refine R_iconst (pc := 143) (v := 0) dX3_isMatch_143 (by decide) ?_
            exact R_iret (pc := 144) dX3_isMatch_144 rfl rfl (Nat.zero_le _) (Nat.zero_le _) ⟨_, rfl, rfl, Or.inr ⟨(by first | (simp only [mtC, mtB, h14, (decide_eq_true b18_3), (decide_eq_false b69_6), (decide_eq_true b90_9), (decide_eq_true b111_12), cond_true, cond_false, Bool.and_true, Bool.true_and, Bool.and_false, Bool.false_and, Bool.or_true, Bool.true_or, Bool.or_false, Bool.false_or, Bool.not_true, Bool.not_false, decide_true, decide_false, if_true, if_false, Bool.true_eq_false, Bool.false_eq_true]; done) | (simp [mtC, mtB, h14, (decide_eq_true b18_3), (decide_eq_false b69_6), (decide_eq_true b90_9), (decide_eq_true b111_12)]; done)), rfl⟩⟩
  · skip
    refine R_aload_n (pc := 21) dX3_isMatch_21 rfl rfl ?_
    refine g_X3_27 (pc := 22) (v := .ref 1) rfl dX3_isMatch_22 (c_12 _) rfl ?_
    refine g_X3_82 (pc := 25) (v := .ref 4) rfl dX3_isMatch_25 (c_1 _) rfl ?_
    refine R_iload_n (pc := 28) dX3_isMatch_28 rfl rfl ?_
    have hx20 : vp_in a 20 := (vp_of_inR ha (by decide))
    refine R_iaload (pc := 29) dX3_isMatch_29 (c_4 _) hx20 ?_
    refine R_ifeq (pc := 30) 45 dX3_isMatch_30 (by decide) (fun b30_21 => ?_) (fun b30_21 => ?_)
    · skip
      refine R_iconst (pc := 45) (v := 1) dX3_isMatch_45 (by decide) ?_
      refine R_goto (pc := 46) 50 dX3_isMatch_46 (by decide) ?_
      refine st_4_3_i_i (pc := 50) dX3_isMatch_50 ?_
      refine R_aload_n (pc := 51) dX3_isMatch_51 rfl rfl ?_
      refine g_X3_27 (pc := 52) (v := .ref 1) rfl dX3_isMatch_52 (c_12 _) rfl ?_
      refine g_X3_85 (pc := 55) (v := .ref 2) rfl dX3_isMatch_55 (c_1 _) rfl ?_
      refine R_iload_n (pc := 58) dX3_isMatch_58 rfl rfl ?_
      have hx22 : vp_in a 20 := (vp_of_inR ha (by decide))
      refine R_iaload (pc := 59) dX3_isMatch_59 (c_2 _) hx22 ?_
      refine R_aload_n (pc := 60) dX3_isMatch_60 rfl rfl ?_
      refine g_X3_27 (pc := 61) (v := .ref 1) rfl dX3_isMatch_61 (c_12 _) rfl ?_
      refine g_X3_85 (pc := 64) (v := .ref 2) rfl dX3_isMatch_64 (c_1 _) rfl ?_
      refine R_iload_n (pc := 67) dX3_isMatch_67 rfl rfl ?_
      have hx23 : vp_in b 20 := (vp_of_inR hb (by decide))
      refine R_iaload (pc := 68) dX3_isMatch_68 (c_2 _) hx23 ?_
      refine R_iceq (pc := 69) 143 dX3_isMatch_69 (by decide) (fun b69_24 => ?_) (fun b69_24 => ?_)
      · skip
        refine R_iconst (pc := 143) (v := 0) dX3_isMatch_143 (by decide) ?_
        exact R_iret (pc := 144) dX3_isMatch_144 rfl rfl (Nat.zero_le _) (Nat.zero_le _) ⟨_, rfl, rfl, Or.inr ⟨(by first | (simp only [mtC, mtB, (decide_eq_false b18_3), (decide_eq_true b30_21), (decide_eq_true b69_24), cond_true, cond_false, Bool.and_true, Bool.true_and, Bool.and_false, Bool.false_and, Bool.or_true, Bool.true_or, Bool.or_false, Bool.false_or, Bool.not_true, Bool.not_false, decide_true, decide_false, if_true, if_false, Bool.true_eq_false, Bool.false_eq_true]; done) | (simp [mtC, mtB, (decide_eq_false b18_3), (decide_eq_true b30_21), (decide_eq_true b69_24)]; done)), rfl⟩⟩
      · skip
        refine R_aload_n (pc := 72) dX3_isMatch_72 rfl rfl ?_
        refine g_X3_27 (pc := 73) (v := .ref 1) rfl dX3_isMatch_73 (c_12 _) rfl ?_
        refine g_X3_88 (pc := 76) (v := .ref 3) rfl dX3_isMatch_76 (c_1 _) rfl ?_
        refine R_iload_n (pc := 79) dX3_isMatch_79 rfl rfl ?_
        have hx25 : vp_in a 20 := (vp_of_inR ha (by decide))
        refine R_iaload (pc := 80) dX3_isMatch_80 (c_3 _) hx25 ?_
        refine R_aload_n (pc := 81) dX3_isMatch_81 rfl rfl ?_
        refine g_X3_27 (pc := 82) (v := .ref 1) rfl dX3_isMatch_82 (c_12 _) rfl ?_
        refine g_X3_88 (pc := 85) (v := .ref 3) rfl dX3_isMatch_85 (c_1 _) rfl ?_
        refine R_iload_n (pc := 88) dX3_isMatch_88 rfl rfl ?_
        have hx26 : vp_in b 20 := (vp_of_inR hb (by decide))
        refine R_iaload (pc := 89) dX3_isMatch_89 (c_3 _) hx26 ?_
        refine R_icne (pc := 90) 143 dX3_isMatch_90 (by decide) (fun b90_27 => ?_) (fun b90_27 => ?_)
        · skip
          refine R_iconst (pc := 143) (v := 0) dX3_isMatch_143 (by decide) ?_
          exact R_iret (pc := 144) dX3_isMatch_144 rfl rfl (Nat.zero_le _) (Nat.zero_le _) ⟨_, rfl, rfl, Or.inr ⟨(by first | (simp only [mtC, mtB, (decide_eq_false b18_3), (decide_eq_true b30_21), (decide_eq_false b69_24), (decide_eq_false b90_27), cond_true, cond_false, Bool.and_true, Bool.true_and, Bool.and_false, Bool.false_and, Bool.or_true, Bool.true_or, Bool.or_false, Bool.false_or, Bool.not_true, Bool.not_false, decide_true, decide_false, if_true, if_false, Bool.true_eq_false, Bool.false_eq_true]; done) | (simp [mtC, mtB, (decide_eq_false b18_3), (decide_eq_true b30_21), (decide_eq_false b69_24), (decide_eq_false b90_27)]; done)), rfl⟩⟩
        · skip
          refine R_aload_n (pc := 93) dX3_isMatch_93 rfl rfl ?_
          refine g_X3_27 (pc := 94) (v := .ref 1) rfl dX3_isMatch_94 (c_12 _) rfl ?_
          refine g_X3_91 (pc := 97) (v := .ref 5) rfl dX3_isMatch_97 (c_1 _) rfl ?_
          refine R_iload_n (pc := 100) dX3_isMatch_100 rfl rfl ?_
          have hx28 : vp_in a 20 := (vp_of_inR ha (by decide))
          refine R_iaload (pc := 101) dX3_isMatch_101 (c_5 _) hx28 ?_
          refine R_aload_n (pc := 102) dX3_isMatch_102 rfl rfl ?_
          refine g_X3_27 (pc := 103) (v := .ref 1) rfl dX3_isMatch_103 (c_12 _) rfl ?_
          refine g_X3_91 (pc := 106) (v := .ref 5) rfl dX3_isMatch_106 (c_1 _) rfl ?_
          refine R_iload_n (pc := 109) dX3_isMatch_109 rfl rfl ?_
          have hx29 : vp_in b 20 := (vp_of_inR hb (by decide))
          refine R_iaload (pc := 110) dX3_isMatch_110 (c_5 _) hx29 ?_
          refine R_icne (pc := 111) 143 dX3_isMatch_111 (by decide) (fun b111_30 => ?_) (fun b111_30 => ?_)
          · skip
            refine R_iconst (pc := 143) (v := 0) dX3_isMatch_143 (by decide) ?_
            exact R_iret (pc := 144) dX3_isMatch_144 rfl rfl (Nat.zero_le _) (Nat.zero_le _) ⟨_, rfl, rfl, Or.inr ⟨(by first | (simp only [mtC, mtB, (decide_eq_false b18_3), (decide_eq_true b30_21), (decide_eq_false b69_24), (decide_eq_true b90_27), (decide_eq_false b111_30), cond_true, cond_false, Bool.and_true, Bool.true_and, Bool.and_false, Bool.false_and, Bool.or_true, Bool.true_or, Bool.or_false, Bool.false_or, Bool.not_true, Bool.not_false, decide_true, decide_false, if_true, if_false, Bool.true_eq_false, Bool.false_eq_true]; done) | (simp [mtC, mtB, (decide_eq_false b18_3), (decide_eq_true b30_21), (decide_eq_false b69_24), (decide_eq_true b90_27), (decide_eq_false b111_30)]; done)), rfl⟩⟩
          · skip
            refine R_iload_n (pc := 114) dX3_isMatch_114 rfl rfl ?_
            refine R_ifeq (pc := 115) 143 dX3_isMatch_115 (by decide) (fun h => absurd h (by decide)) (fun _ => ?_)
            refine R_aload_n (pc := 118) dX3_isMatch_118 rfl rfl ?_
            refine R_iload_n (pc := 119) dX3_isMatch_119 rfl rfl ?_
            refine R_iload_n (pc := 120) dX3_isMatch_120 rfl rfl ?_
            refine k_X3_94 (pc := 121) (ge_X3_isLike _ _ _ hI ha hb) rfl (c_12 _) (by decide) (Nat.le_refl _) (Nat.le_refl _) (Nat.le_of_ble_eq_true rfl) dX3_isMatch_121 (fun x w2 h => ?_)
            rcases h with ⟨rfl, ⟨h32, rfl⟩ | ⟨h32, rfl⟩⟩
            · skip
              refine R_ifeq (pc := 124) 143 dX3_isMatch_124 (by decide) (fun h => absurd h (by decide)) (fun _ => ?_)
              refine R_aload_n (pc := 127) dX3_isMatch_127 rfl rfl ?_
              refine g_X3_16 (pc := 128) (v := .ref 34) rfl dX3_isMatch_128 (c_12 _) rfl ?_
              refine R_iload_n (pc := 131) dX3_isMatch_131 rfl rfl ?_
              have hx34 : vp_in a 20 := (vp_of_inR ha (by decide))
              refine R_aaload (pc := 132) (b := 35 + (Int32.toNatClampNeg a)) dX3_isMatch_132 (c_34 _) hx34 (if_pos (lt_of_vp hx34)) ?_
              refine R_iload_n (pc := 133) dX3_isMatch_133 rfl rfl ?_
              have hx35 : vp_in b 20 := (vp_of_inR hb (by decide))
              refine R_iaload (pc := 134) dX3_isMatch_134 (r_34 _ _ (lt_of_vp hx34)) hx35 ?_
              refine R_iconst (pc := 135) (v := 2) dX3_isMatch_135 (by decide) ?_
              refine R_icgt (pc := 136) 143 dX3_isMatch_136 (by decide) (fun b136_36 => ?_) (fun b136_36 => ?_)
              · skip
                refine R_iconst (pc := 143) (v := 0) dX3_isMatch_143 (by decide) ?_
                exact R_iret (pc := 144) dX3_isMatch_144 rfl rfl (Nat.zero_le _) (Nat.zero_le _) ⟨_, rfl, rfl, Or.inr ⟨(by first | (simp only [mtC, mtB, h32, (decide_eq_false b18_3), (decide_eq_true b30_21), (decide_eq_false b69_24), (decide_eq_true b90_27), (decide_eq_true b111_30), (decide_eq_true b136_36), cond_true, cond_false, Bool.and_true, Bool.true_and, Bool.and_false, Bool.false_and, Bool.or_true, Bool.true_or, Bool.or_false, Bool.false_or, Bool.not_true, Bool.not_false, decide_true, decide_false, if_true, if_false, Bool.true_eq_false, Bool.false_eq_true]; done) | (simp [mtC, mtB, h32, (decide_eq_false b18_3), (decide_eq_true b30_21), (decide_eq_false b69_24), (decide_eq_true b90_27), (decide_eq_true b111_30), (decide_eq_true b136_36)]; done)), rfl⟩⟩
              · skip
                refine R_iconst (pc := 139) (v := 1) dX3_isMatch_139 (by decide) ?_
                refine R_goto (pc := 140) 144 dX3_isMatch_140 (by decide) ?_
                exact R_iret (pc := 144) dX3_isMatch_144 rfl rfl (Nat.zero_le _) (Nat.zero_le _) ⟨_, rfl, rfl, Or.inl ⟨(by first | (simp only [mtC, mtB, h32, (decide_eq_false b18_3), (decide_eq_true b30_21), (decide_eq_false b69_24), (decide_eq_true b90_27), (decide_eq_true b111_30), (decide_eq_false b136_36), cond_true, cond_false, Bool.and_true, Bool.true_and, Bool.and_false, Bool.false_and, Bool.or_true, Bool.true_or, Bool.or_false, Bool.false_or, Bool.not_true, Bool.not_false, decide_true, decide_false, if_true, if_false, Bool.true_eq_false, Bool.false_eq_true]; done) | (simp [mtC, mtB, h32, (decide_eq_false b18_3), (decide_eq_true b30_21), (decide_eq_false b69_24), (decide_eq_true b90_27), (decide_eq_true b111_30), (decide_eq_false b136_36)]; done)), rfl⟩⟩
            · skip
              refine R_ifeq (pc := 124) 143 dX3_isMatch_124 (by decide) (fun _ => ?_) (fun h => absurd (by decide) h)
              refine R_iconst (pc := 143) (v := 0) dX3_isMatch_143 (by decide) ?_
              exact R_iret (pc := 144) dX3_isMatch_144 rfl rfl (Nat.zero_le _) (Nat.zero_le _) ⟨_, rfl, rfl, Or.inr ⟨(by first | (simp only [mtC, mtB, h32, (decide_eq_false b18_3), (decide_eq_true b30_21), (decide_eq_false b69_24), (decide_eq_true b90_27), (decide_eq_true b111_30), cond_true, cond_false, Bool.and_true, Bool.true_and, Bool.and_false, Bool.false_and, Bool.or_true, Bool.true_or, Bool.or_false, Bool.false_or, Bool.not_true, Bool.not_false, decide_true, decide_false, if_true, if_false, Bool.true_eq_false, Bool.false_eq_true]; done) | (simp [mtC, mtB, h32, (decide_eq_false b18_3), (decide_eq_true b30_21), (decide_eq_false b69_24), (decide_eq_true b90_27), (decide_eq_true b111_30)]; done)), rfl⟩⟩
    · skip
      refine R_aload_n (pc := 33) dX3_isMatch_33 rfl rfl ?_
      refine g_X3_27 (pc := 34) (v := .ref 1) rfl dX3_isMatch_34 (c_12 _) rfl ?_
      refine g_X3_82 (pc := 37) (v := .ref 4) rfl dX3_isMatch_37 (c_1 _) rfl ?_
      refine R_iload_n (pc := 40) dX3_isMatch_40 rfl rfl ?_
      have hx38 : vp_in b 20 := (vp_of_inR hb (by decide))
      refine R_iaload (pc := 41) dX3_isMatch_41 (c_4 _) hx38 ?_
      refine R_ifne (pc := 42) 49 dX3_isMatch_42 (by decide) (fun b42_39 => ?_) (fun b42_39 => ?_)
      · skip
        refine R_iconst (pc := 49) (v := 0) dX3_isMatch_49 (by decide) ?_
        refine st_4_3_i_i (pc := 50) dX3_isMatch_50 ?_
        refine R_aload_n (pc := 51) dX3_isMatch_51 rfl rfl ?_
        refine g_X3_27 (pc := 52) (v := .ref 1) rfl dX3_isMatch_52 (c_12 _) rfl ?_
        refine g_X3_85 (pc := 55) (v := .ref 2) rfl dX3_isMatch_55 (c_1 _) rfl ?_
        refine R_iload_n (pc := 58) dX3_isMatch_58 rfl rfl ?_
        have hx40 : vp_in a 20 := (vp_of_inR ha (by decide))
        refine R_iaload (pc := 59) dX3_isMatch_59 (c_2 _) hx40 ?_
        refine R_aload_n (pc := 60) dX3_isMatch_60 rfl rfl ?_
        refine g_X3_27 (pc := 61) (v := .ref 1) rfl dX3_isMatch_61 (c_12 _) rfl ?_
        refine g_X3_85 (pc := 64) (v := .ref 2) rfl dX3_isMatch_64 (c_1 _) rfl ?_
        refine R_iload_n (pc := 67) dX3_isMatch_67 rfl rfl ?_
        have hx41 : vp_in b 20 := (vp_of_inR hb (by decide))
        refine R_iaload (pc := 68) dX3_isMatch_68 (c_2 _) hx41 ?_
        refine R_iceq (pc := 69) 143 dX3_isMatch_69 (by decide) (fun b69_42 => ?_) (fun b69_42 => ?_)
        · skip
          refine R_iconst (pc := 143) (v := 0) dX3_isMatch_143 (by decide) ?_
          exact R_iret (pc := 144) dX3_isMatch_144 rfl rfl (Nat.zero_le _) (Nat.zero_le _) ⟨_, rfl, rfl, Or.inr ⟨(by first | (simp only [mtC, mtB, (decide_eq_false b18_3), (decide_eq_false b30_21), (decide_eq_false b42_39), (decide_eq_true b69_42), cond_true, cond_false, Bool.and_true, Bool.true_and, Bool.and_false, Bool.false_and, Bool.or_true, Bool.true_or, Bool.or_false, Bool.false_or, Bool.not_true, Bool.not_false, decide_true, decide_false, if_true, if_false, Bool.true_eq_false, Bool.false_eq_true]; done) | (simp [mtC, mtB, (decide_eq_false b18_3), (decide_eq_false b30_21), (decide_eq_false b42_39), (decide_eq_true b69_42)]; done)), rfl⟩⟩
        · skip
          refine R_aload_n (pc := 72) dX3_isMatch_72 rfl rfl ?_
          refine g_X3_27 (pc := 73) (v := .ref 1) rfl dX3_isMatch_73 (c_12 _) rfl ?_
          refine g_X3_88 (pc := 76) (v := .ref 3) rfl dX3_isMatch_76 (c_1 _) rfl ?_
          refine R_iload_n (pc := 79) dX3_isMatch_79 rfl rfl ?_
          have hx43 : vp_in a 20 := (vp_of_inR ha (by decide))
          refine R_iaload (pc := 80) dX3_isMatch_80 (c_3 _) hx43 ?_
          refine R_aload_n (pc := 81) dX3_isMatch_81 rfl rfl ?_
          refine g_X3_27 (pc := 82) (v := .ref 1) rfl dX3_isMatch_82 (c_12 _) rfl ?_
          refine g_X3_88 (pc := 85) (v := .ref 3) rfl dX3_isMatch_85 (c_1 _) rfl ?_
          refine R_iload_n (pc := 88) dX3_isMatch_88 rfl rfl ?_
          have hx44 : vp_in b 20 := (vp_of_inR hb (by decide))
          refine R_iaload (pc := 89) dX3_isMatch_89 (c_3 _) hx44 ?_
          refine R_icne (pc := 90) 143 dX3_isMatch_90 (by decide) (fun b90_45 => ?_) (fun b90_45 => ?_)
          · skip
            refine R_iconst (pc := 143) (v := 0) dX3_isMatch_143 (by decide) ?_
            exact R_iret (pc := 144) dX3_isMatch_144 rfl rfl (Nat.zero_le _) (Nat.zero_le _) ⟨_, rfl, rfl, Or.inr ⟨(by first | (simp only [mtC, mtB, (decide_eq_false b18_3), (decide_eq_false b30_21), (decide_eq_false b42_39), (decide_eq_false b69_42), (decide_eq_false b90_45), cond_true, cond_false, Bool.and_true, Bool.true_and, Bool.and_false, Bool.false_and, Bool.or_true, Bool.true_or, Bool.or_false, Bool.false_or, Bool.not_true, Bool.not_false, decide_true, decide_false, if_true, if_false, Bool.true_eq_false, Bool.false_eq_true]; done) | (simp [mtC, mtB, (decide_eq_false b18_3), (decide_eq_false b30_21), (decide_eq_false b42_39), (decide_eq_false b69_42), (decide_eq_false b90_45)]; done)), rfl⟩⟩
          · skip
            refine R_aload_n (pc := 93) dX3_isMatch_93 rfl rfl ?_
            refine g_X3_27 (pc := 94) (v := .ref 1) rfl dX3_isMatch_94 (c_12 _) rfl ?_
            refine g_X3_91 (pc := 97) (v := .ref 5) rfl dX3_isMatch_97 (c_1 _) rfl ?_
            refine R_iload_n (pc := 100) dX3_isMatch_100 rfl rfl ?_
            have hx46 : vp_in a 20 := (vp_of_inR ha (by decide))
            refine R_iaload (pc := 101) dX3_isMatch_101 (c_5 _) hx46 ?_
            refine R_aload_n (pc := 102) dX3_isMatch_102 rfl rfl ?_
            refine g_X3_27 (pc := 103) (v := .ref 1) rfl dX3_isMatch_103 (c_12 _) rfl ?_
            refine g_X3_91 (pc := 106) (v := .ref 5) rfl dX3_isMatch_106 (c_1 _) rfl ?_
            refine R_iload_n (pc := 109) dX3_isMatch_109 rfl rfl ?_
            have hx47 : vp_in b 20 := (vp_of_inR hb (by decide))
            refine R_iaload (pc := 110) dX3_isMatch_110 (c_5 _) hx47 ?_
            refine R_icne (pc := 111) 143 dX3_isMatch_111 (by decide) (fun b111_48 => ?_) (fun b111_48 => ?_)
            · skip
              refine R_iconst (pc := 143) (v := 0) dX3_isMatch_143 (by decide) ?_
              exact R_iret (pc := 144) dX3_isMatch_144 rfl rfl (Nat.zero_le _) (Nat.zero_le _) ⟨_, rfl, rfl, Or.inr ⟨(by first | (simp only [mtC, mtB, (decide_eq_false b18_3), (decide_eq_false b30_21), (decide_eq_false b42_39), (decide_eq_false b69_42), (decide_eq_true b90_45), (decide_eq_false b111_48), cond_true, cond_false, Bool.and_true, Bool.true_and, Bool.and_false, Bool.false_and, Bool.or_true, Bool.true_or, Bool.or_false, Bool.false_or, Bool.not_true, Bool.not_false, decide_true, decide_false, if_true, if_false, Bool.true_eq_false, Bool.false_eq_true]; done) | (simp [mtC, mtB, (decide_eq_false b18_3), (decide_eq_false b30_21), (decide_eq_false b42_39), (decide_eq_false b69_42), (decide_eq_true b90_45), (decide_eq_false b111_48)]; done)), rfl⟩⟩
            · skip
              refine R_iload_n (pc := 114) dX3_isMatch_114 rfl rfl ?_
              refine R_ifeq (pc := 115) 143 dX3_isMatch_115 (by decide) (fun _ => ?_) (fun h => absurd (by decide) h)
              refine R_iconst (pc := 143) (v := 0) dX3_isMatch_143 (by decide) ?_
              exact R_iret (pc := 144) dX3_isMatch_144 rfl rfl (Nat.zero_le _) (Nat.zero_le _) ⟨_, rfl, rfl, Or.inr ⟨(by first | (simp only [mtC, mtB, (decide_eq_false b18_3), (decide_eq_false b30_21), (decide_eq_false b42_39), (decide_eq_false b69_42), (decide_eq_true b90_45), (decide_eq_true b111_48), cond_true, cond_false, Bool.and_true, Bool.true_and, Bool.and_false, Bool.false_and, Bool.or_true, Bool.true_or, Bool.or_false, Bool.false_or, Bool.not_true, Bool.not_false, decide_true, decide_false, if_true, if_false, Bool.true_eq_false, Bool.false_eq_true]; done) | (simp [mtC, mtB, (decide_eq_false b18_3), (decide_eq_false b30_21), (decide_eq_false b42_39), (decide_eq_false b69_42), (decide_eq_true b90_45), (decide_eq_true b111_48)]; done)), rfl⟩⟩
      · skip
        refine R_iconst (pc := 45) (v := 1) dX3_isMatch_45 (by decide) ?_
        refine R_goto (pc := 46) 50 dX3_isMatch_46 (by decide) ?_
        refine st_4_3_i_i (pc := 50) dX3_isMatch_50 ?_
        refine R_aload_n (pc := 51) dX3_isMatch_51 rfl rfl ?_
        refine g_X3_27 (pc := 52) (v := .ref 1) rfl dX3_isMatch_52 (c_12 _) rfl ?_
        refine g_X3_85 (pc := 55) (v := .ref 2) rfl dX3_isMatch_55 (c_1 _) rfl ?_
        refine R_iload_n (pc := 58) dX3_isMatch_58 rfl rfl ?_
        have hx50 : vp_in a 20 := (vp_of_inR ha (by decide))
        refine R_iaload (pc := 59) dX3_isMatch_59 (c_2 _) hx50 ?_
        refine R_aload_n (pc := 60) dX3_isMatch_60 rfl rfl ?_
        refine g_X3_27 (pc := 61) (v := .ref 1) rfl dX3_isMatch_61 (c_12 _) rfl ?_
        refine g_X3_85 (pc := 64) (v := .ref 2) rfl dX3_isMatch_64 (c_1 _) rfl ?_
        refine R_iload_n (pc := 67) dX3_isMatch_67 rfl rfl ?_
        have hx51 : vp_in b 20 := (vp_of_inR hb (by decide))
        refine R_iaload (pc := 68) dX3_isMatch_68 (c_2 _) hx51 ?_
        refine R_iceq (pc := 69) 143 dX3_isMatch_69 (by decide) (fun b69_52 => ?_) (fun b69_52 => ?_)
        · skip
          refine R_iconst (pc := 143) (v := 0) dX3_isMatch_143 (by decide) ?_
          exact R_iret (pc := 144) dX3_isMatch_144 rfl rfl (Nat.zero_le _) (Nat.zero_le _) ⟨_, rfl, rfl, Or.inr ⟨(by first | (simp only [mtC, mtB, (decide_eq_false b18_3), (decide_eq_false b30_21), (decide_eq_true b42_39), (decide_eq_true b69_52), cond_true, cond_false, Bool.and_true, Bool.true_and, Bool.and_false, Bool.false_and, Bool.or_true, Bool.true_or, Bool.or_false, Bool.false_or, Bool.not_true, Bool.not_false, decide_true, decide_false, if_true, if_false, Bool.true_eq_false, Bool.false_eq_true]; done) | (simp [mtC, mtB, (decide_eq_false b18_3), (decide_eq_false b30_21), (decide_eq_true b42_39), (decide_eq_true b69_52)]; done)), rfl⟩⟩
        · skip
          refine R_aload_n (pc := 72) dX3_isMatch_72 rfl rfl ?_
          refine g_X3_27 (pc := 73) (v := .ref 1) rfl dX3_isMatch_73 (c_12 _) rfl ?_
          refine g_X3_88 (pc := 76) (v := .ref 3) rfl dX3_isMatch_76 (c_1 _) rfl ?_
          refine R_iload_n (pc := 79) dX3_isMatch_79 rfl rfl ?_
          have hx53 : vp_in a 20 := (vp_of_inR ha (by decide))
          refine R_iaload (pc := 80) dX3_isMatch_80 (c_3 _) hx53 ?_
          refine R_aload_n (pc := 81) dX3_isMatch_81 rfl rfl ?_
          refine g_X3_27 (pc := 82) (v := .ref 1) rfl dX3_isMatch_82 (c_12 _) rfl ?_
          refine g_X3_88 (pc := 85) (v := .ref 3) rfl dX3_isMatch_85 (c_1 _) rfl ?_
          refine R_iload_n (pc := 88) dX3_isMatch_88 rfl rfl ?_
          have hx54 : vp_in b 20 := (vp_of_inR hb (by decide))
          refine R_iaload (pc := 89) dX3_isMatch_89 (c_3 _) hx54 ?_
          refine R_icne (pc := 90) 143 dX3_isMatch_90 (by decide) (fun b90_55 => ?_) (fun b90_55 => ?_)
          · skip
            refine R_iconst (pc := 143) (v := 0) dX3_isMatch_143 (by decide) ?_
            exact R_iret (pc := 144) dX3_isMatch_144 rfl rfl (Nat.zero_le _) (Nat.zero_le _) ⟨_, rfl, rfl, Or.inr ⟨(by first | (simp only [mtC, mtB, (decide_eq_false b18_3), (decide_eq_false b30_21), (decide_eq_true b42_39), (decide_eq_false b69_52), (decide_eq_false b90_55), cond_true, cond_false, Bool.and_true, Bool.true_and, Bool.and_false, Bool.false_and, Bool.or_true, Bool.true_or, Bool.or_false, Bool.false_or, Bool.not_true, Bool.not_false, decide_true, decide_false, if_true, if_false, Bool.true_eq_false, Bool.false_eq_true]; done) | (simp [mtC, mtB, (decide_eq_false b18_3), (decide_eq_false b30_21), (decide_eq_true b42_39), (decide_eq_false b69_52), (decide_eq_false b90_55)]; done)), rfl⟩⟩
          · skip
            refine R_aload_n (pc := 93) dX3_isMatch_93 rfl rfl ?_
            refine g_X3_27 (pc := 94) (v := .ref 1) rfl dX3_isMatch_94 (c_12 _) rfl ?_
            refine g_X3_91 (pc := 97) (v := .ref 5) rfl dX3_isMatch_97 (c_1 _) rfl ?_
            refine R_iload_n (pc := 100) dX3_isMatch_100 rfl rfl ?_
            have hx56 : vp_in a 20 := (vp_of_inR ha (by decide))
            refine R_iaload (pc := 101) dX3_isMatch_101 (c_5 _) hx56 ?_
            refine R_aload_n (pc := 102) dX3_isMatch_102 rfl rfl ?_
            refine g_X3_27 (pc := 103) (v := .ref 1) rfl dX3_isMatch_103 (c_12 _) rfl ?_
            refine g_X3_91 (pc := 106) (v := .ref 5) rfl dX3_isMatch_106 (c_1 _) rfl ?_
            refine R_iload_n (pc := 109) dX3_isMatch_109 rfl rfl ?_
            have hx57 : vp_in b 20 := (vp_of_inR hb (by decide))
            refine R_iaload (pc := 110) dX3_isMatch_110 (c_5 _) hx57 ?_
            refine R_icne (pc := 111) 143 dX3_isMatch_111 (by decide) (fun b111_58 => ?_) (fun b111_58 => ?_)
            · skip
              refine R_iconst (pc := 143) (v := 0) dX3_isMatch_143 (by decide) ?_
              exact R_iret (pc := 144) dX3_isMatch_144 rfl rfl (Nat.zero_le _) (Nat.zero_le _) ⟨_, rfl, rfl, Or.inr ⟨(by first | (simp only [mtC, mtB, (decide_eq_false b18_3), (decide_eq_false b30_21), (decide_eq_true b42_39), (decide_eq_false b69_52), (decide_eq_true b90_55), (decide_eq_false b111_58), cond_true, cond_false, Bool.and_true, Bool.true_and, Bool.and_false, Bool.false_and, Bool.or_true, Bool.true_or, Bool.or_false, Bool.false_or, Bool.not_true, Bool.not_false, decide_true, decide_false, if_true, if_false, Bool.true_eq_false, Bool.false_eq_true]; done) | (simp [mtC, mtB, (decide_eq_false b18_3), (decide_eq_false b30_21), (decide_eq_true b42_39), (decide_eq_false b69_52), (decide_eq_true b90_55), (decide_eq_false b111_58)]; done)), rfl⟩⟩
            · skip
              refine R_iload_n (pc := 114) dX3_isMatch_114 rfl rfl ?_
              refine R_ifeq (pc := 115) 143 dX3_isMatch_115 (by decide) (fun h => absurd h (by decide)) (fun _ => ?_)
              refine R_aload_n (pc := 118) dX3_isMatch_118 rfl rfl ?_
              refine R_iload_n (pc := 119) dX3_isMatch_119 rfl rfl ?_
              refine R_iload_n (pc := 120) dX3_isMatch_120 rfl rfl ?_
              refine k_X3_94 (pc := 121) (ge_X3_isLike _ _ _ hI ha hb) rfl (c_12 _) (by decide) (Nat.le_refl _) (Nat.le_refl _) (Nat.le_of_ble_eq_true rfl) dX3_isMatch_121 (fun x w2 h => ?_)
              rcases h with ⟨rfl, ⟨h60, rfl⟩ | ⟨h60, rfl⟩⟩
              · skip
                refine R_ifeq (pc := 124) 143 dX3_isMatch_124 (by decide) (fun h => absurd h (by decide)) (fun _ => ?_)
                refine R_aload_n (pc := 127) dX3_isMatch_127 rfl rfl ?_
                refine g_X3_16 (pc := 128) (v := .ref 34) rfl dX3_isMatch_128 (c_12 _) rfl ?_
                refine R_iload_n (pc := 131) dX3_isMatch_131 rfl rfl ?_
                have hx62 : vp_in a 20 := (vp_of_inR ha (by decide))
                refine R_aaload (pc := 132) (b := 35 + (Int32.toNatClampNeg a)) dX3_isMatch_132 (c_34 _) hx62 (if_pos (lt_of_vp hx62)) ?_
                refine R_iload_n (pc := 133) dX3_isMatch_133 rfl rfl ?_
                have hx63 : vp_in b 20 := (vp_of_inR hb (by decide))
                refine R_iaload (pc := 134) dX3_isMatch_134 (r_34 _ _ (lt_of_vp hx62)) hx63 ?_
                refine R_iconst (pc := 135) (v := 2) dX3_isMatch_135 (by decide) ?_
                refine R_icgt (pc := 136) 143 dX3_isMatch_136 (by decide) (fun b136_64 => ?_) (fun b136_64 => ?_)
                · skip
                  refine R_iconst (pc := 143) (v := 0) dX3_isMatch_143 (by decide) ?_
                  exact R_iret (pc := 144) dX3_isMatch_144 rfl rfl (Nat.zero_le _) (Nat.zero_le _) ⟨_, rfl, rfl, Or.inr ⟨(by first | (simp only [mtC, mtB, h60, (decide_eq_false b18_3), (decide_eq_false b30_21), (decide_eq_true b42_39), (decide_eq_false b69_52), (decide_eq_true b90_55), (decide_eq_true b111_58), (decide_eq_true b136_64), cond_true, cond_false, Bool.and_true, Bool.true_and, Bool.and_false, Bool.false_and, Bool.or_true, Bool.true_or, Bool.or_false, Bool.false_or, Bool.not_true, Bool.not_false, decide_true, decide_false, if_true, if_false, Bool.true_eq_false, Bool.false_eq_true]; done) | (simp [mtC, mtB, h60, (decide_eq_false b18_3), (decide_eq_false b30_21), (decide_eq_true b42_39), (decide_eq_false b69_52), (decide_eq_true b90_55), (decide_eq_true b111_58), (decide_eq_true b136_64)]; done)), rfl⟩⟩
                · skip
                  refine R_iconst (pc := 139) (v := 1) dX3_isMatch_139 (by decide) ?_
                  refine R_goto (pc := 140) 144 dX3_isMatch_140 (by decide) ?_
                  exact R_iret (pc := 144) dX3_isMatch_144 rfl rfl (Nat.zero_le _) (Nat.zero_le _) ⟨_, rfl, rfl, Or.inl ⟨(by first | (simp only [mtC, mtB, h60, (decide_eq_false b18_3), (decide_eq_false b30_21), (decide_eq_true b42_39), (decide_eq_false b69_52), (decide_eq_true b90_55), (decide_eq_true b111_58), (decide_eq_false b136_64), cond_true, cond_false, Bool.and_true, Bool.true_and, Bool.and_false, Bool.false_and, Bool.or_true, Bool.true_or, Bool.or_false, Bool.false_or, Bool.not_true, Bool.not_false, decide_true, decide_false, if_true, if_false, Bool.true_eq_false, Bool.false_eq_true]; done) | (simp [mtC, mtB, h60, (decide_eq_false b18_3), (decide_eq_false b30_21), (decide_eq_true b42_39), (decide_eq_false b69_52), (decide_eq_true b90_55), (decide_eq_true b111_58), (decide_eq_false b136_64)]; done)), rfl⟩⟩
              · skip
                refine R_ifeq (pc := 124) 143 dX3_isMatch_124 (by decide) (fun _ => ?_) (fun h => absurd (by decide) h)
                refine R_iconst (pc := 143) (v := 0) dX3_isMatch_143 (by decide) ?_
                exact R_iret (pc := 144) dX3_isMatch_144 rfl rfl (Nat.zero_le _) (Nat.zero_le _) ⟨_, rfl, rfl, Or.inr ⟨(by first | (simp only [mtC, mtB, h60, (decide_eq_false b18_3), (decide_eq_false b30_21), (decide_eq_true b42_39), (decide_eq_false b69_52), (decide_eq_true b90_55), (decide_eq_true b111_58), cond_true, cond_false, Bool.and_true, Bool.true_and, Bool.and_false, Bool.false_and, Bool.or_true, Bool.true_or, Bool.or_false, Bool.false_or, Bool.not_true, Bool.not_false, decide_true, decide_false, if_true, if_false, Bool.true_eq_false, Bool.false_eq_true]; done) | (simp [mtC, mtB, h60, (decide_eq_false b18_3), (decide_eq_false b30_21), (decide_eq_true b42_39), (decide_eq_false b69_52), (decide_eq_true b90_55), (decide_eq_true b111_58)]; done)), rfl⟩⟩
set_option maxRecDepth 100000 in
set_option maxHeartbeats 40000000 in
theorem ge_X9_isLike {G : vG} {l : Launch} (σ : Sg) (a b : Int32) (hI : Inv σ) (ha : inR a 0 19) (hb : inR b 0 19) : Sp G l yX9_isLike cX9_isLike 3 (some .boolean) 1 0 0 [.ref 140, .int a, .int b] (WW σ) (QI (fun x w2 => w2 = WW σ ∧ (lkM σ a b = true ∧ x = 1 ∨ lkM σ a b = false ∧ x = 0))) := by
  refine Sp_of_R [(some (.ref 140)), (some (.int a)), (some (.int b))] [] rfl (by simp) rfl (Nat.le_of_ble_eq_true rfl) ?_
  refine R_aload_n (pc := 0) dX9_isLike_0 rfl rfl ?_
  refine g_X9_51 (pc := 1) (v := .ref 151) rfl dX9_isLike_1 (c_140 _) rfl ?_
  refine R_bipush (pc := 4) (v := 20) dX9_isLike_4 (by decide) ?_
  refine R_iload_n (pc := 6) dX9_isLike_6 rfl rfl ?_
  refine R_imul (pc := 7) dX9_isLike_7 ?_
  have r1 : inR (20 * a) 0 380 := inR_mulc (c := 20) (l := 0) (h := 380) 20 (by decide) (show inR a 0 19 from ha) (by decide) (by decide)
  have e2 := ti_mulc (c := 20) (l := 0) (h := 380) 20 (by decide) (show inR a 0 19 from ha) (by decide) (by decide)
  refine R_iload_n (pc := 8) dX9_isLike_8 rfl rfl ?_
  refine R_iadd (pc := 9) dX9_isLike_9 ?_
  have r3 : inR ((20 * a) + b) 0 399 := inR_add (show inR (20 * a) 0 380 from r1) (show inR b 0 19 from hb) (by decide) (by decide)
  have e4 := ti_add (l := 0) (h := 399) (show inR (20 * a) 0 380 from r1) (show inR b 0 19 from hb) (by decide) (by decide)
  have hx5 : vp_in ((20 * a) + b) 400 := (vp_of_inR r3 (by decide))
  refine R_iaload (pc := 10) dX9_isLike_10 (c_151 _) hx5 ?_
  refine R_iconst (pc := 11) (v := 0) dX9_isLike_11 (by decide) ?_
  refine R_aload_n (pc := 12) dX9_isLike_12 rfl rfl ?_
  refine g_X9_41 (pc := 13) (v := .int (σ.1 14012)) rfl dX9_isLike_13 (c_140 _) rfl ?_
  refine k_X9_124 (pc := 16) (sp_X9_in _ _ _ _) rfl (by decide) (Nat.le_refl _) (Nat.le_refl _) (Nat.le_of_ble_eq_true rfl) dX9_isLike_16 (fun x w2 h => ?_)
  rcases h with ⟨rfl, ⟨h6, rfl⟩ | ⟨h6, rfl⟩⟩
  · skip
    exact R_iret (pc := 19) dX9_isLike_19 rfl rfl (Nat.zero_le _) (Nat.zero_le _) ⟨_, rfl, rfl, Or.inl ⟨(show inB _ 0 (σ.1 14012) = true from inB_t h6), rfl⟩⟩
  · skip
    exact R_iret (pc := 19) dX9_isLike_19 rfl rfl (Nat.zero_le _) (Nat.zero_le _) ⟨_, rfl, rfl, Or.inr ⟨(show inB _ 0 (σ.1 14012) = false from inB_f h6), rfl⟩⟩
set_option maxRecDepth 100000 in
set_option maxHeartbeats 40000000 in
theorem gn_X9_isMatch {G : vG} {l : Launch} (σ : Sg) (a b : Int32) (hI : Inv σ) (ha : inR a 0 19) (hb : inR b 0 19) : Sp G l yX9_isMatch cX9_isMatch 4 (some .boolean) 2 0 0 [.ref 140, .int a, .int b] (WW σ) (QI (fun x w2 => ∃ σ2, w2 = WW σ2 ∧ Inv σ2 ∧ Cor σ σ2 ∧ Fq fqF σ σ2 ∧ (mtM σ a b = true ∧ x = 1 ∨ mtM σ a b = false ∧ x = 0))) := by
  refine Sp_of_R [(some (.ref 140)), (some (.int a)), (some (.int b)), none] [none] rfl (by simp) rfl (Nat.le_of_ble_eq_true rfl) ?_
  refine R_aload_n (pc := 0) dX9_isMatch_0 rfl rfl ?_
  refine g_X9_7 (pc := 1) (v := .ref 141) rfl dX9_isMatch_1 (c_140 _) rfl ?_
  refine R_iload_n (pc := 4) dX9_isMatch_4 rfl rfl ?_
  have hx1 : vp_in a 20 := (vp_of_inR ha (by decide))
  refine R_iaload (pc := 5) dX9_isMatch_5 (c_141 _) hx1 ?_
  refine R_aload_n (pc := 6) dX9_isMatch_6 rfl rfl ?_
  refine g_X9_7 (pc := 7) (v := .ref 141) rfl dX9_isMatch_7 (c_140 _) rfl ?_
  refine R_iload_n (pc := 10) dX9_isMatch_10 rfl rfl ?_
  have hx2 : vp_in b 20 := (vp_of_inR hb (by decide))
  refine R_iaload (pc := 11) dX9_isMatch_11 (c_141 _) hx2 ?_
  refine R_iceq (pc := 12) 49 dX9_isMatch_12 (by decide) (fun b12_3 => ?_) (fun b12_3 => ?_)
  · skip
    refine R_iconst (pc := 49) (v := 0) dX9_isMatch_49 (by decide) ?_
    refine st_4_3_i_i (pc := 50) dX9_isMatch_50 ?_
    refine R_iload_n (pc := 51) dX9_isMatch_51 rfl rfl ?_
    refine R_ifeq (pc := 52) 92 dX9_isMatch_52 (by decide) (fun _ => ?_) (fun h => absurd (by decide) h)
    refine R_iconst (pc := 92) (v := 0) dX9_isMatch_92 (by decide) ?_
    refine st_4_3_i_i (pc := 93) dX9_isMatch_93 ?_
    refine R_iload_n (pc := 94) dX9_isMatch_94 rfl rfl ?_
    refine R_ifeq (pc := 95) 121 dX9_isMatch_95 (by decide) (fun _ => ?_) (fun h => absurd (by decide) h)
    refine R_iconst (pc := 121) (v := 0) dX9_isMatch_121 (by decide) ?_
    exact R_iret (pc := 122) dX9_isMatch_122 rfl rfl (Nat.zero_le _) (Nat.zero_le _) ⟨_, rfl, _, rfl, hI, (show Cor σ σ from Cor.rfl' σ), (fq_rfl _ σ), Or.inr ⟨(by first | (simp only [mtM, mtB, (decide_eq_true b12_3), cond_true, cond_false, Bool.and_true, Bool.true_and, Bool.and_false, Bool.false_and, Bool.or_true, Bool.true_or, Bool.or_false, Bool.false_or, Bool.not_true, Bool.not_false, decide_true, decide_false, if_true, if_false, Bool.true_eq_false, Bool.false_eq_true]; done) | (simp [mtM, mtB, (decide_eq_true b12_3)]; done)), rfl⟩⟩
  · skip
    refine R_aload_n (pc := 15) dX9_isMatch_15 rfl rfl ?_
    refine g_X9_13 (pc := 16) (v := .ref 142) rfl dX9_isMatch_16 (c_140 _) rfl ?_
    refine R_iload_n (pc := 19) dX9_isMatch_19 rfl rfl ?_
    have hx6 : vp_in a 20 := (vp_of_inR ha (by decide))
    refine R_iaload (pc := 20) dX9_isMatch_20 (c_142 _) hx6 ?_
    refine R_aload_n (pc := 21) dX9_isMatch_21 rfl rfl ?_
    refine g_X9_13 (pc := 22) (v := .ref 142) rfl dX9_isMatch_22 (c_140 _) rfl ?_
    refine R_iload_n (pc := 25) dX9_isMatch_25 rfl rfl ?_
    have hx7 : vp_in b 20 := (vp_of_inR hb (by decide))
    refine R_iaload (pc := 26) dX9_isMatch_26 (c_142 _) hx7 ?_
    refine R_icne (pc := 27) 49 dX9_isMatch_27 (by decide) (fun b27_8 => ?_) (fun b27_8 => ?_)
    · skip
      refine R_iconst (pc := 49) (v := 0) dX9_isMatch_49 (by decide) ?_
      refine st_4_3_i_i (pc := 50) dX9_isMatch_50 ?_
      refine R_iload_n (pc := 51) dX9_isMatch_51 rfl rfl ?_
      refine R_ifeq (pc := 52) 92 dX9_isMatch_52 (by decide) (fun _ => ?_) (fun h => absurd (by decide) h)
      refine R_iconst (pc := 92) (v := 0) dX9_isMatch_92 (by decide) ?_
      refine st_4_3_i_i (pc := 93) dX9_isMatch_93 ?_
      refine R_iload_n (pc := 94) dX9_isMatch_94 rfl rfl ?_
      refine R_ifeq (pc := 95) 121 dX9_isMatch_95 (by decide) (fun _ => ?_) (fun h => absurd (by decide) h)
      refine R_iconst (pc := 121) (v := 0) dX9_isMatch_121 (by decide) ?_
      exact R_iret (pc := 122) dX9_isMatch_122 rfl rfl (Nat.zero_le _) (Nat.zero_le _) ⟨_, rfl, _, rfl, hI, (show Cor σ σ from Cor.rfl' σ), (fq_rfl _ σ), Or.inr ⟨(by first | (simp only [mtM, mtB, (decide_eq_false b12_3), (decide_eq_false b27_8), cond_true, cond_false, Bool.and_true, Bool.true_and, Bool.and_false, Bool.false_and, Bool.or_true, Bool.true_or, Bool.or_false, Bool.false_or, Bool.not_true, Bool.not_false, decide_true, decide_false, if_true, if_false, Bool.true_eq_false, Bool.false_eq_true]; done) | (simp [mtM, mtB, (decide_eq_false b12_3), (decide_eq_false b27_8)]; done)), rfl⟩⟩
    · skip
      refine R_aload_n (pc := 30) dX9_isMatch_30 rfl rfl ?_
      refine g_X9_19 (pc := 31) (v := .ref 144) rfl dX9_isMatch_31 (c_140 _) rfl ?_
      refine R_iload_n (pc := 34) dX9_isMatch_34 rfl rfl ?_
      have hx11 : vp_in a 20 := (vp_of_inR ha (by decide))
      refine R_iaload (pc := 35) dX9_isMatch_35 (c_144 _) hx11 ?_
      refine R_aload_n (pc := 36) dX9_isMatch_36 rfl rfl ?_
      refine g_X9_19 (pc := 37) (v := .ref 144) rfl dX9_isMatch_37 (c_140 _) rfl ?_
      refine R_iload_n (pc := 40) dX9_isMatch_40 rfl rfl ?_
      have hx12 : vp_in b 20 := (vp_of_inR hb (by decide))
      refine R_iaload (pc := 41) dX9_isMatch_41 (c_144 _) hx12 ?_
      refine R_icne (pc := 42) 49 dX9_isMatch_42 (by decide) (fun b42_13 => ?_) (fun b42_13 => ?_)
      · skip
        refine R_iconst (pc := 49) (v := 0) dX9_isMatch_49 (by decide) ?_
        refine st_4_3_i_i (pc := 50) dX9_isMatch_50 ?_
        refine R_iload_n (pc := 51) dX9_isMatch_51 rfl rfl ?_
        refine R_ifeq (pc := 52) 92 dX9_isMatch_52 (by decide) (fun _ => ?_) (fun h => absurd (by decide) h)
        refine R_iconst (pc := 92) (v := 0) dX9_isMatch_92 (by decide) ?_
        refine st_4_3_i_i (pc := 93) dX9_isMatch_93 ?_
        refine R_iload_n (pc := 94) dX9_isMatch_94 rfl rfl ?_
        refine R_ifeq (pc := 95) 121 dX9_isMatch_95 (by decide) (fun _ => ?_) (fun h => absurd (by decide) h)
        refine R_iconst (pc := 121) (v := 0) dX9_isMatch_121 (by decide) ?_
        exact R_iret (pc := 122) dX9_isMatch_122 rfl rfl (Nat.zero_le _) (Nat.zero_le _) ⟨_, rfl, _, rfl, hI, (show Cor σ σ from Cor.rfl' σ), (fq_rfl _ σ), Or.inr ⟨(by first | (simp only [mtM, mtB, (decide_eq_false b12_3), (decide_eq_true b27_8), (decide_eq_false b42_13), cond_true, cond_false, Bool.and_true, Bool.true_and, Bool.and_false, Bool.false_and, Bool.or_true, Bool.true_or, Bool.or_false, Bool.false_or, Bool.not_true, Bool.not_false, decide_true, decide_false, if_true, if_false, Bool.true_eq_false, Bool.false_eq_true]; done) | (simp [mtM, mtB, (decide_eq_false b12_3), (decide_eq_true b27_8), (decide_eq_false b42_13)]; done)), rfl⟩⟩
      · skip
        refine R_iconst (pc := 45) (v := 1) dX9_isMatch_45 (by decide) ?_
        refine R_goto (pc := 46) 50 dX9_isMatch_46 (by decide) ?_
        refine st_4_3_i_i (pc := 50) dX9_isMatch_50 ?_
        refine R_iload_n (pc := 51) dX9_isMatch_51 rfl rfl ?_
        refine R_ifeq (pc := 52) 92 dX9_isMatch_52 (by decide) (fun h => absurd h (by decide)) (fun _ => ?_)
        refine R_aload_n (pc := 55) dX9_isMatch_55 rfl rfl ?_
        refine g_X9_16 (pc := 56) (v := .ref 143) rfl dX9_isMatch_56 (c_140 _) rfl ?_
        refine R_iload_n (pc := 59) dX9_isMatch_59 rfl rfl ?_
        have hx17 : vp_in a 20 := (vp_of_inR ha (by decide))
        refine R_iaload (pc := 60) dX9_isMatch_60 (c_143 _) hx17 ?_
        refine R_aload_n (pc := 61) dX9_isMatch_61 rfl rfl ?_
        refine g_X9_16 (pc := 62) (v := .ref 143) rfl dX9_isMatch_62 (c_140 _) rfl ?_
        refine R_iload_n (pc := 65) dX9_isMatch_65 rfl rfl ?_
        have hx18 : vp_in b 20 := (vp_of_inR hb (by decide))
        refine R_iaload (pc := 66) dX9_isMatch_66 (c_143 _) hx18 ?_
        refine R_iceq (pc := 67) 88 dX9_isMatch_67 (by decide) (fun b67_19 => ?_) (fun b67_19 => ?_)
        · skip
          refine R_iconst (pc := 88) (v := 1) dX9_isMatch_88 (by decide) ?_
          refine R_goto (pc := 89) 93 dX9_isMatch_89 (by decide) ?_
          refine st_4_3_i_i (pc := 93) dX9_isMatch_93 ?_
          refine R_iload_n (pc := 94) dX9_isMatch_94 rfl rfl ?_
          refine R_ifeq (pc := 95) 121 dX9_isMatch_95 (by decide) (fun h => absurd h (by decide)) (fun _ => ?_)
          refine R_aload_n (pc := 98) dX9_isMatch_98 rfl rfl ?_
          refine R_iload_n (pc := 99) dX9_isMatch_99 rfl rfl ?_
          refine R_iload_n (pc := 100) dX9_isMatch_100 rfl rfl ?_
          refine k_X9_155 (pc := 101) (ge_X9_isLike _ _ _ hI ha hb) rfl (c_140 _) (by decide) (Nat.le_refl _) (Nat.le_refl _) (Nat.le_of_ble_eq_true rfl) dX9_isMatch_101 (fun x w2 h => ?_)
          rcases h with ⟨rfl, ⟨h21, rfl⟩ | ⟨h21, rfl⟩⟩
          · skip
            refine R_ifeq (pc := 104) 121 dX9_isMatch_104 (by decide) (fun h => absurd h (by decide)) (fun _ => ?_)
            refine R_aload_n (pc := 107) dX9_isMatch_107 rfl rfl ?_
            refine R_iload_n (pc := 108) dX9_isMatch_108 rfl rfl ?_
            refine R_iload_n (pc := 109) dX9_isMatch_109 rfl rfl ?_
            refine k_X9_152 (pc := 110) (gn_X9_farOf _ _ _ hI ha hb) rfl (c_140 _) (by decide) (Nat.le_refl _) (Nat.le_refl _) (Nat.le_of_ble_eq_true rfl) dX9_isMatch_110 (fun x w2 h => ?_)
            obtain ⟨σx24, rfl, hV23, hW25, rfl, hq26⟩ := h
            refine R_cv (lvM σ a b) rfl ?_
            have hW27 := Cor.trans (show Cor σ σ from Cor.rfl' σ) hW25
            refine R_iconst (pc := 113) (v := 2) dX9_isMatch_113 (by decide) ?_
            refine R_icgt (pc := 114) 121 dX9_isMatch_114 (by decide) (fun b114_28 => ?_) (fun b114_28 => ?_)
            · skip
              refine R_iconst (pc := 121) (v := 0) dX9_isMatch_121 (by decide) ?_
              exact R_iret (pc := 122) dX9_isMatch_122 rfl rfl (Nat.zero_le _) (Nat.zero_le _) ⟨_, rfl, _, rfl, hV23, hW27, hq26, Or.inr ⟨(by first | (simp only [mtM, mtB, h21, (decide_eq_false b12_3), (decide_eq_true b27_8), (decide_eq_true b42_13), (decide_eq_true b67_19), (decide_eq_true b114_28), cond_true, cond_false, Bool.and_true, Bool.true_and, Bool.and_false, Bool.false_and, Bool.or_true, Bool.true_or, Bool.or_false, Bool.false_or, Bool.not_true, Bool.not_false, decide_true, decide_false, if_true, if_false, Bool.true_eq_false, Bool.false_eq_true]; done) | (simp [mtM, mtB, h21, (decide_eq_false b12_3), (decide_eq_true b27_8), (decide_eq_true b42_13), (decide_eq_true b67_19), (decide_eq_true b114_28)]; done)), rfl⟩⟩
            · skip
              refine R_iconst (pc := 117) (v := 1) dX9_isMatch_117 (by decide) ?_
              refine R_goto (pc := 118) 122 dX9_isMatch_118 (by decide) ?_
              exact R_iret (pc := 122) dX9_isMatch_122 rfl rfl (Nat.zero_le _) (Nat.zero_le _) ⟨_, rfl, _, rfl, hV23, hW27, hq26, Or.inl ⟨(by first | (simp only [mtM, mtB, h21, (decide_eq_false b12_3), (decide_eq_true b27_8), (decide_eq_true b42_13), (decide_eq_true b67_19), (decide_eq_false b114_28), cond_true, cond_false, Bool.and_true, Bool.true_and, Bool.and_false, Bool.false_and, Bool.or_true, Bool.true_or, Bool.or_false, Bool.false_or, Bool.not_true, Bool.not_false, decide_true, decide_false, if_true, if_false, Bool.true_eq_false, Bool.false_eq_true]; done) | (simp [mtM, mtB, h21, (decide_eq_false b12_3), (decide_eq_true b27_8), (decide_eq_true b42_13), (decide_eq_true b67_19), (decide_eq_false b114_28)]; done)), rfl⟩⟩
          · skip
            refine R_ifeq (pc := 104) 121 dX9_isMatch_104 (by decide) (fun _ => ?_) (fun h => absurd (by decide) h)
            refine R_iconst (pc := 121) (v := 0) dX9_isMatch_121 (by decide) ?_
            exact R_iret (pc := 122) dX9_isMatch_122 rfl rfl (Nat.zero_le _) (Nat.zero_le _) ⟨_, rfl, _, rfl, hI, (show Cor σ σ from Cor.rfl' σ), (fq_rfl _ σ), Or.inr ⟨(by first | (simp only [mtM, mtB, h21, (decide_eq_false b12_3), (decide_eq_true b27_8), (decide_eq_true b42_13), (decide_eq_true b67_19), cond_true, cond_false, Bool.and_true, Bool.true_and, Bool.and_false, Bool.false_and, Bool.or_true, Bool.true_or, Bool.or_false, Bool.false_or, Bool.not_true, Bool.not_false, decide_true, decide_false, if_true, if_false, Bool.true_eq_false, Bool.false_eq_true]; done) | (simp [mtM, mtB, h21, (decide_eq_false b12_3), (decide_eq_true b27_8), (decide_eq_true b42_13), (decide_eq_true b67_19)]; done)), rfl⟩⟩
        · skip
          refine R_aload_n (pc := 70) dX9_isMatch_70 rfl rfl ?_
          refine g_X9_16 (pc := 71) (v := .ref 143) rfl dX9_isMatch_71 (c_140 _) rfl ?_
          refine R_iload_n (pc := 74) dX9_isMatch_74 rfl rfl ?_
          have hx30 : vp_in a 20 := (vp_of_inR ha (by decide))
          refine R_iaload (pc := 75) dX9_isMatch_75 (c_143 _) hx30 ?_
          refine R_ifeq (pc := 76) 88 dX9_isMatch_76 (by decide) (fun b76_31 => ?_) (fun b76_31 => ?_)
          · skip
            refine R_iconst (pc := 88) (v := 1) dX9_isMatch_88 (by decide) ?_
            refine R_goto (pc := 89) 93 dX9_isMatch_89 (by decide) ?_
            refine st_4_3_i_i (pc := 93) dX9_isMatch_93 ?_
            refine R_iload_n (pc := 94) dX9_isMatch_94 rfl rfl ?_
            refine R_ifeq (pc := 95) 121 dX9_isMatch_95 (by decide) (fun h => absurd h (by decide)) (fun _ => ?_)
            refine R_aload_n (pc := 98) dX9_isMatch_98 rfl rfl ?_
            refine R_iload_n (pc := 99) dX9_isMatch_99 rfl rfl ?_
            refine R_iload_n (pc := 100) dX9_isMatch_100 rfl rfl ?_
            refine k_X9_155 (pc := 101) (ge_X9_isLike _ _ _ hI ha hb) rfl (c_140 _) (by decide) (Nat.le_refl _) (Nat.le_refl _) (Nat.le_of_ble_eq_true rfl) dX9_isMatch_101 (fun x w2 h => ?_)
            rcases h with ⟨rfl, ⟨h33, rfl⟩ | ⟨h33, rfl⟩⟩
            · skip
              refine R_ifeq (pc := 104) 121 dX9_isMatch_104 (by decide) (fun h => absurd h (by decide)) (fun _ => ?_)
              refine R_aload_n (pc := 107) dX9_isMatch_107 rfl rfl ?_
              refine R_iload_n (pc := 108) dX9_isMatch_108 rfl rfl ?_
              refine R_iload_n (pc := 109) dX9_isMatch_109 rfl rfl ?_
              refine k_X9_152 (pc := 110) (gn_X9_farOf _ _ _ hI ha hb) rfl (c_140 _) (by decide) (Nat.le_refl _) (Nat.le_refl _) (Nat.le_of_ble_eq_true rfl) dX9_isMatch_110 (fun x w2 h => ?_)
              obtain ⟨σx36, rfl, hV35, hW37, rfl, hq38⟩ := h
              refine R_cv (lvM σ a b) rfl ?_
              have hW39 := Cor.trans (show Cor σ σ from Cor.rfl' σ) hW37
              refine R_iconst (pc := 113) (v := 2) dX9_isMatch_113 (by decide) ?_
              refine R_icgt (pc := 114) 121 dX9_isMatch_114 (by decide) (fun b114_40 => ?_) (fun b114_40 => ?_)
              · skip
                refine R_iconst (pc := 121) (v := 0) dX9_isMatch_121 (by decide) ?_
                exact R_iret (pc := 122) dX9_isMatch_122 rfl rfl (Nat.zero_le _) (Nat.zero_le _) ⟨_, rfl, _, rfl, hV35, hW39, hq38, Or.inr ⟨(by first | (simp only [mtM, mtB, h33, (decide_eq_false b12_3), (decide_eq_true b27_8), (decide_eq_true b42_13), (decide_eq_false b67_19), (decide_eq_true b76_31), (decide_eq_true b114_40), cond_true, cond_false, Bool.and_true, Bool.true_and, Bool.and_false, Bool.false_and, Bool.or_true, Bool.true_or, Bool.or_false, Bool.false_or, Bool.not_true, Bool.not_false, decide_true, decide_false, if_true, if_false, Bool.true_eq_false, Bool.false_eq_true]; done) | (simp [mtM, mtB, h33, (decide_eq_false b12_3), (decide_eq_true b27_8), (decide_eq_true b42_13), (decide_eq_false b67_19), (decide_eq_true b76_31), (decide_eq_true b114_40)]; done)), rfl⟩⟩
              · skip
                refine R_iconst (pc := 117) (v := 1) dX9_isMatch_117 (by decide) ?_
                refine R_goto (pc := 118) 122 dX9_isMatch_118 (by decide) ?_
                exact R_iret (pc := 122) dX9_isMatch_122 rfl rfl (Nat.zero_le _) (Nat.zero_le _) ⟨_, rfl, _, rfl, hV35, hW39, hq38, Or.inl ⟨(by first | (simp only [mtM, mtB, h33, (decide_eq_false b12_3), (decide_eq_true b27_8), (decide_eq_true b42_13), (decide_eq_false b67_19), (decide_eq_true b76_31), (decide_eq_false b114_40), cond_true, cond_false, Bool.and_true, Bool.true_and, Bool.and_false, Bool.false_and, Bool.or_true, Bool.true_or, Bool.or_false, Bool.false_or, Bool.not_true, Bool.not_false, decide_true, decide_false, if_true, if_false, Bool.true_eq_false, Bool.false_eq_true]; done) | (simp [mtM, mtB, h33, (decide_eq_false b12_3), (decide_eq_true b27_8), (decide_eq_true b42_13), (decide_eq_false b67_19), (decide_eq_true b76_31), (decide_eq_false b114_40)]; done)), rfl⟩⟩
            · skip
              refine R_ifeq (pc := 104) 121 dX9_isMatch_104 (by decide) (fun _ => ?_) (fun h => absurd (by decide) h)
              refine R_iconst (pc := 121) (v := 0) dX9_isMatch_121 (by decide) ?_
              exact R_iret (pc := 122) dX9_isMatch_122 rfl rfl (Nat.zero_le _) (Nat.zero_le _) ⟨_, rfl, _, rfl, hI, (show Cor σ σ from Cor.rfl' σ), (fq_rfl _ σ), Or.inr ⟨(by first | (simp only [mtM, mtB, h33, (decide_eq_false b12_3), (decide_eq_true b27_8), (decide_eq_true b42_13), (decide_eq_false b67_19), (decide_eq_true b76_31), cond_true, cond_false, Bool.and_true, Bool.true_and, Bool.and_false, Bool.false_and, Bool.or_true, Bool.true_or, Bool.or_false, Bool.false_or, Bool.not_true, Bool.not_false, decide_true, decide_false, if_true, if_false, Bool.true_eq_false, Bool.false_eq_true]; done) | (simp [mtM, mtB, h33, (decide_eq_false b12_3), (decide_eq_true b27_8), (decide_eq_true b42_13), (decide_eq_false b67_19), (decide_eq_true b76_31)]; done)), rfl⟩⟩
          · skip
            refine R_aload_n (pc := 79) dX9_isMatch_79 rfl rfl ?_
            refine g_X9_16 (pc := 80) (v := .ref 143) rfl dX9_isMatch_80 (c_140 _) rfl ?_
            refine R_iload_n (pc := 83) dX9_isMatch_83 rfl rfl ?_
            have hx42 : vp_in b 20 := (vp_of_inR hb (by decide))
            refine R_iaload (pc := 84) dX9_isMatch_84 (c_143 _) hx42 ?_
            refine R_ifne (pc := 85) 92 dX9_isMatch_85 (by decide) (fun b85_43 => ?_) (fun b85_43 => ?_)
            · skip
              refine R_iconst (pc := 92) (v := 0) dX9_isMatch_92 (by decide) ?_
              refine st_4_3_i_i (pc := 93) dX9_isMatch_93 ?_
              refine R_iload_n (pc := 94) dX9_isMatch_94 rfl rfl ?_
              refine R_ifeq (pc := 95) 121 dX9_isMatch_95 (by decide) (fun _ => ?_) (fun h => absurd (by decide) h)
              refine R_iconst (pc := 121) (v := 0) dX9_isMatch_121 (by decide) ?_
              exact R_iret (pc := 122) dX9_isMatch_122 rfl rfl (Nat.zero_le _) (Nat.zero_le _) ⟨_, rfl, _, rfl, hI, (show Cor σ σ from Cor.rfl' σ), (fq_rfl _ σ), Or.inr ⟨(by first | (simp only [mtM, mtB, (decide_eq_false b12_3), (decide_eq_true b27_8), (decide_eq_true b42_13), (decide_eq_false b67_19), (decide_eq_false b76_31), (decide_eq_false b85_43), cond_true, cond_false, Bool.and_true, Bool.true_and, Bool.and_false, Bool.false_and, Bool.or_true, Bool.true_or, Bool.or_false, Bool.false_or, Bool.not_true, Bool.not_false, decide_true, decide_false, if_true, if_false, Bool.true_eq_false, Bool.false_eq_true]; done) | (simp [mtM, mtB, (decide_eq_false b12_3), (decide_eq_true b27_8), (decide_eq_true b42_13), (decide_eq_false b67_19), (decide_eq_false b76_31), (decide_eq_false b85_43)]; done)), rfl⟩⟩
            · skip
              refine R_iconst (pc := 88) (v := 1) dX9_isMatch_88 (by decide) ?_
              refine R_goto (pc := 89) 93 dX9_isMatch_89 (by decide) ?_
              refine st_4_3_i_i (pc := 93) dX9_isMatch_93 ?_
              refine R_iload_n (pc := 94) dX9_isMatch_94 rfl rfl ?_
              refine R_ifeq (pc := 95) 121 dX9_isMatch_95 (by decide) (fun h => absurd h (by decide)) (fun _ => ?_)
              refine R_aload_n (pc := 98) dX9_isMatch_98 rfl rfl ?_
              refine R_iload_n (pc := 99) dX9_isMatch_99 rfl rfl ?_
              refine R_iload_n (pc := 100) dX9_isMatch_100 rfl rfl ?_
              refine k_X9_155 (pc := 101) (ge_X9_isLike _ _ _ hI ha hb) rfl (c_140 _) (by decide) (Nat.le_refl _) (Nat.le_refl _) (Nat.le_of_ble_eq_true rfl) dX9_isMatch_101 (fun x w2 h => ?_)
              rcases h with ⟨rfl, ⟨h46, rfl⟩ | ⟨h46, rfl⟩⟩
              · skip
                refine R_ifeq (pc := 104) 121 dX9_isMatch_104 (by decide) (fun h => absurd h (by decide)) (fun _ => ?_)
                refine R_aload_n (pc := 107) dX9_isMatch_107 rfl rfl ?_
                refine R_iload_n (pc := 108) dX9_isMatch_108 rfl rfl ?_
                refine R_iload_n (pc := 109) dX9_isMatch_109 rfl rfl ?_
                refine k_X9_152 (pc := 110) (gn_X9_farOf _ _ _ hI ha hb) rfl (c_140 _) (by decide) (Nat.le_refl _) (Nat.le_refl _) (Nat.le_of_ble_eq_true rfl) dX9_isMatch_110 (fun x w2 h => ?_)
                obtain ⟨σx49, rfl, hV48, hW50, rfl, hq51⟩ := h
                refine R_cv (lvM σ a b) rfl ?_
                have hW52 := Cor.trans (show Cor σ σ from Cor.rfl' σ) hW50
                refine R_iconst (pc := 113) (v := 2) dX9_isMatch_113 (by decide) ?_
                refine R_icgt (pc := 114) 121 dX9_isMatch_114 (by decide) (fun b114_53 => ?_) (fun b114_53 => ?_)
                · skip
                  refine R_iconst (pc := 121) (v := 0) dX9_isMatch_121 (by decide) ?_
                  exact R_iret (pc := 122) dX9_isMatch_122 rfl rfl (Nat.zero_le _) (Nat.zero_le _) ⟨_, rfl, _, rfl, hV48, hW52, hq51, Or.inr ⟨(by first | (simp only [mtM, mtB, h46, (decide_eq_false b12_3), (decide_eq_true b27_8), (decide_eq_true b42_13), (decide_eq_false b67_19), (decide_eq_false b76_31), (decide_eq_true b85_43), (decide_eq_true b114_53), cond_true, cond_false, Bool.and_true, Bool.true_and, Bool.and_false, Bool.false_and, Bool.or_true, Bool.true_or, Bool.or_false, Bool.false_or, Bool.not_true, Bool.not_false, decide_true, decide_false, if_true, if_false, Bool.true_eq_false, Bool.false_eq_true]; done) | (simp [mtM, mtB, h46, (decide_eq_false b12_3), (decide_eq_true b27_8), (decide_eq_true b42_13), (decide_eq_false b67_19), (decide_eq_false b76_31), (decide_eq_true b85_43), (decide_eq_true b114_53)]; done)), rfl⟩⟩
                · skip
                  refine R_iconst (pc := 117) (v := 1) dX9_isMatch_117 (by decide) ?_
                  refine R_goto (pc := 118) 122 dX9_isMatch_118 (by decide) ?_
                  exact R_iret (pc := 122) dX9_isMatch_122 rfl rfl (Nat.zero_le _) (Nat.zero_le _) ⟨_, rfl, _, rfl, hV48, hW52, hq51, Or.inl ⟨(by first | (simp only [mtM, mtB, h46, (decide_eq_false b12_3), (decide_eq_true b27_8), (decide_eq_true b42_13), (decide_eq_false b67_19), (decide_eq_false b76_31), (decide_eq_true b85_43), (decide_eq_false b114_53), cond_true, cond_false, Bool.and_true, Bool.true_and, Bool.and_false, Bool.false_and, Bool.or_true, Bool.true_or, Bool.or_false, Bool.false_or, Bool.not_true, Bool.not_false, decide_true, decide_false, if_true, if_false, Bool.true_eq_false, Bool.false_eq_true]; done) | (simp [mtM, mtB, h46, (decide_eq_false b12_3), (decide_eq_true b27_8), (decide_eq_true b42_13), (decide_eq_false b67_19), (decide_eq_false b76_31), (decide_eq_true b85_43), (decide_eq_false b114_53)]; done)), rfl⟩⟩
              · skip
                refine R_ifeq (pc := 104) 121 dX9_isMatch_104 (by decide) (fun _ => ?_) (fun h => absurd (by decide) h)
                refine R_iconst (pc := 121) (v := 0) dX9_isMatch_121 (by decide) ?_
                exact R_iret (pc := 122) dX9_isMatch_122 rfl rfl (Nat.zero_le _) (Nat.zero_le _) ⟨_, rfl, _, rfl, hI, (show Cor σ σ from Cor.rfl' σ), (fq_rfl _ σ), Or.inr ⟨(by first | (simp only [mtM, mtB, h46, (decide_eq_false b12_3), (decide_eq_true b27_8), (decide_eq_true b42_13), (decide_eq_false b67_19), (decide_eq_false b76_31), (decide_eq_true b85_43), cond_true, cond_false, Bool.and_true, Bool.true_and, Bool.and_false, Bool.false_and, Bool.or_true, Bool.true_or, Bool.or_false, Bool.false_or, Bool.not_true, Bool.not_false, decide_true, decide_false, if_true, if_false, Bool.true_eq_false, Bool.false_eq_true]; done) | (simp [mtM, mtB, h46, (decide_eq_false b12_3), (decide_eq_true b27_8), (decide_eq_true b42_13), (decide_eq_false b67_19), (decide_eq_false b76_31), (decide_eq_true b85_43)]; done)), rfl⟩⟩
