/-! methods that touch no cell -/
def inR (v a b : Int32) : Prop := ¬ v < a ∧ ¬ b < v
theorem dX8_isWithin_0 : decode cX8_isWithin 0 = .ok (.iload_n 0, 1) := by decide +kernel
theorem dX8_isWithin_1 : decode cX8_isWithin 1 = .ok (.iload_n 1, 1) := by decide +kernel
theorem dX8_isWithin_2 : decode cX8_isWithin 2 = .ok (.if_icmp .lt 12, 3) := by decide +kernel
theorem dX8_isWithin_5 : decode cX8_isWithin 5 = .ok (.iload_n 0, 1) := by decide +kernel
theorem dX8_isWithin_6 : decode cX8_isWithin 6 = .ok (.iload_n 2, 1) := by decide +kernel
theorem dX8_isWithin_7 : decode cX8_isWithin 7 = .ok (.if_icmp .gt 7, 3) := by decide +kernel
theorem dX8_isWithin_10 : decode cX8_isWithin 10 = .ok (.iconst 1, 1) := by decide +kernel
theorem dX8_isWithin_11 : decode cX8_isWithin 11 = .ok (.goto 4, 3) := by decide +kernel
theorem dX8_isWithin_14 : decode cX8_isWithin 14 = .ok (.iconst 0, 1) := by decide +kernel
theorem dX8_isWithin_15 : decode cX8_isWithin 15 = .ok (.ireturn, 1) := by decide +kernel
set_option maxRecDepth 100000 in
set_option maxHeartbeats 4000000 in
theorem sp_X8_isWithin {G : vG} {l : Launch} (w : VW) (v a b : Int32) : Sp G l yX8_isWithin cX8_isWithin 3 (some .boolean) 0 0 0 [.int v, .int a, .int b] w (QI (fun x w2 => w2 = w ∧ (inR v a b ∧ x = 1 ∨ ¬ inR v a b ∧ x = 0))) := by
  refine Sp_of_R [(some (.int v)), (some (.int a)), (some (.int b))] [] rfl (by simp) rfl (Nat.le_of_ble_eq_true rfl) ?_
  refine R_iload_n (pc := 0) dX8_isWithin_0 rfl rfl ?_
  refine R_iload_n (pc := 1) dX8_isWithin_1 rfl rfl ?_
  refine R_iclt (pc := 2) 14 dX8_isWithin_2 (by decide) (fun b2_1 => ?_) (fun b2_1 => ?_)
  · skip
    refine R_iconst (pc := 14) (v := 0) dX8_isWithin_14 (by decide) ?_
    exact R_iret (pc := 15) dX8_isWithin_15 rfl rfl (Nat.zero_le _) (Nat.zero_le _) ⟨_, rfl, rfl, by unfold inR; simp [*]⟩
  · skip
    refine R_iload_n (pc := 5) dX8_isWithin_5 rfl rfl ?_
    refine R_iload_n (pc := 6) dX8_isWithin_6 rfl rfl ?_
    refine R_icgt (pc := 7) 14 dX8_isWithin_7 (by decide) (fun b7_2 => ?_) (fun b7_2 => ?_)
    · skip
      refine R_iconst (pc := 14) (v := 0) dX8_isWithin_14 (by decide) ?_
      exact R_iret (pc := 15) dX8_isWithin_15 rfl rfl (Nat.zero_le _) (Nat.zero_le _) ⟨_, rfl, rfl, by unfold inR; simp [*]⟩
    · skip
      refine R_iconst (pc := 10) (v := 1) dX8_isWithin_10 (by decide) ?_
      refine R_goto (pc := 11) 15 dX8_isWithin_11 (by decide) ?_
      exact R_iret (pc := 15) dX8_isWithin_15 rfl rfl (Nat.zero_le _) (Nat.zero_le _) ⟨_, rfl, rfl, by unfold inR; simp [*]⟩
theorem dX9_in_0 : decode cX9_in 0 = .ok (.iload_n 0, 1) := by decide +kernel
theorem dX9_in_1 : decode cX9_in 1 = .ok (.iload_n 1, 1) := by decide +kernel
theorem dX9_in_2 : decode cX9_in 2 = .ok (.if_icmp .lt 12, 3) := by decide +kernel
theorem dX9_in_5 : decode cX9_in 5 = .ok (.iload_n 0, 1) := by decide +kernel
theorem dX9_in_6 : decode cX9_in 6 = .ok (.iload_n 2, 1) := by decide +kernel
theorem dX9_in_7 : decode cX9_in 7 = .ok (.if_icmp .gt 7, 3) := by decide +kernel
theorem dX9_in_10 : decode cX9_in 10 = .ok (.iconst 1, 1) := by decide +kernel
theorem dX9_in_11 : decode cX9_in 11 = .ok (.goto 4, 3) := by decide +kernel
theorem dX9_in_14 : decode cX9_in 14 = .ok (.iconst 0, 1) := by decide +kernel
theorem dX9_in_15 : decode cX9_in 15 = .ok (.ireturn, 1) := by decide +kernel
set_option maxRecDepth 100000 in
set_option maxHeartbeats 4000000 in
theorem sp_X9_in {G : vG} {l : Launch} (w : VW) (v a b : Int32) : Sp G l yX9_in cX9_in 3 (some .boolean) 0 0 0 [.int v, .int a, .int b] w (QI (fun x w2 => w2 = w ∧ (inR v a b ∧ x = 1 ∨ ¬ inR v a b ∧ x = 0))) := by
  refine Sp_of_R [(some (.int v)), (some (.int a)), (some (.int b))] [] rfl (by simp) rfl (Nat.le_of_ble_eq_true rfl) ?_
  refine R_iload_n (pc := 0) dX9_in_0 rfl rfl ?_
  refine R_iload_n (pc := 1) dX9_in_1 rfl rfl ?_
  refine R_iclt (pc := 2) 14 dX9_in_2 (by decide) (fun b2_1 => ?_) (fun b2_1 => ?_)
  · skip
    refine R_iconst (pc := 14) (v := 0) dX9_in_14 (by decide) ?_
    exact R_iret (pc := 15) dX9_in_15 rfl rfl (Nat.zero_le _) (Nat.zero_le _) ⟨_, rfl, rfl, by unfold inR; simp [*]⟩
  · skip
    refine R_iload_n (pc := 5) dX9_in_5 rfl rfl ?_
    refine R_iload_n (pc := 6) dX9_in_6 rfl rfl ?_
    refine R_icgt (pc := 7) 14 dX9_in_7 (by decide) (fun b7_2 => ?_) (fun b7_2 => ?_)
    · skip
      refine R_iconst (pc := 14) (v := 0) dX9_in_14 (by decide) ?_
      exact R_iret (pc := 15) dX9_in_15 rfl rfl (Nat.zero_le _) (Nat.zero_le _) ⟨_, rfl, rfl, by unfold inR; simp [*]⟩
    · skip
      refine R_iconst (pc := 10) (v := 1) dX9_in_10 (by decide) ?_
      refine R_goto (pc := 11) 15 dX9_in_11 (by decide) ?_
      exact R_iret (pc := 15) dX9_in_15 rfl rfl (Nat.zero_le _) (Nat.zero_le _) ⟨_, rfl, rfl, by unfold inR; simp [*]⟩
theorem dX8_has_0 : decode cX8_has 0 = .ok (.iload_n 0, 1) := by decide +kernel
theorem dX8_has_1 : decode cX8_has 1 = .ok (.iload_n 1, 1) := by decide +kernel
theorem dX8_has_2 : decode cX8_has 2 = .ok (.ishr, 1) := by decide +kernel
theorem dX8_has_3 : decode cX8_has 3 = .ok (.iconst 1, 1) := by decide +kernel
theorem dX8_has_4 : decode cX8_has 4 = .ok (.iand, 1) := by decide +kernel
theorem dX8_has_5 : decode cX8_has 5 = .ok (.iconst 1, 1) := by decide +kernel
theorem dX8_has_6 : decode cX8_has 6 = .ok (.if_icmp .ne 7, 3) := by decide +kernel
theorem dX8_has_9 : decode cX8_has 9 = .ok (.iconst 1, 1) := by decide +kernel
theorem dX8_has_10 : decode cX8_has 10 = .ok (.goto 4, 3) := by decide +kernel
theorem dX8_has_13 : decode cX8_has 13 = .ok (.iconst 0, 1) := by decide +kernel
theorem dX8_has_14 : decode cX8_has 14 = .ok (.ireturn, 1) := by decide +kernel
set_option maxRecDepth 100000 in
set_option maxHeartbeats 4000000 in
theorem sp_X8_has {G : vG} {l : Launch} (w : VW) (a b : Int32) : Sp G l yX8_has cX8_has 2 (some .boolean) 0 0 0 [.int a, .int b] w (QI (fun x w2 => w2 = w ∧ (((a >>> (b &&& 31)) &&& 1) = 1 ∧ x = 1 ∨ ¬ ((a >>> (b &&& 31)) &&& 1) = 1 ∧ x = 0))) := by
  refine Sp_of_R [(some (.int a)), (some (.int b))] [] rfl (by simp) rfl (Nat.le_of_ble_eq_true rfl) ?_
  refine R_iload_n (pc := 0) dX8_has_0 rfl rfl ?_
  refine R_iload_n (pc := 1) dX8_has_1 rfl rfl ?_
  refine R_ishr (pc := 2) dX8_has_2 ?_
  refine R_iconst (pc := 3) (v := 1) dX8_has_3 (by decide) ?_
  refine R_iand (pc := 4) dX8_has_4 ?_
  refine R_iconst (pc := 5) (v := 1) dX8_has_5 (by decide) ?_
  refine R_icne (pc := 6) 13 dX8_has_6 (by decide) (fun b6_1 => ?_) (fun b6_1 => ?_)
  · skip
    refine R_iconst (pc := 13) (v := 0) dX8_has_13 (by decide) ?_
    exact R_iret (pc := 14) dX8_has_14 rfl rfl (Nat.zero_le _) (Nat.zero_le _) ⟨_, rfl, rfl, by simp [*]⟩
  · skip
    refine R_iconst (pc := 9) (v := 1) dX8_has_9 (by decide) ?_
    refine R_goto (pc := 10) 14 dX8_has_10 (by decide) ?_
    exact R_iret (pc := 14) dX8_has_14 rfl rfl (Nat.zero_le _) (Nat.zero_le _) ⟨_, rfl, rfl, by simp [*]⟩
theorem dX8_byteOf_0 : decode cX8_byteOf 0 = .ok (.lload_n 0, 1) := by decide +kernel
theorem dX8_byteOf_1 : decode cX8_byteOf 1 = .ok (.bipush 8, 2) := by decide +kernel
theorem dX8_byteOf_3 : decode cX8_byteOf 3 = .ok (.iload_n 2, 1) := by decide +kernel
theorem dX8_byteOf_4 : decode cX8_byteOf 4 = .ok (.imul, 1) := by decide +kernel
theorem dX8_byteOf_5 : decode cX8_byteOf 5 = .ok (.lshr, 1) := by decide +kernel
theorem dX8_byteOf_6 : decode cX8_byteOf 6 = .ok (.ldc2_w 322, 3) := by decide +kernel
theorem dX8_byteOf_9 : decode cX8_byteOf 9 = .ok (.land, 1) := by decide +kernel
theorem dX8_byteOf_10 : decode cX8_byteOf 10 = .ok (.l2i, 1) := by decide +kernel
theorem dX8_byteOf_11 : decode cX8_byteOf 11 = .ok (.ireturn, 1) := by decide +kernel
set_option maxRecDepth 100000 in
set_option maxHeartbeats 4000000 in
theorem sp_X8_byteOf {G : vG} {l : Launch} (w : VW) (a : Int64) (b : Int32) : Sp G l yX8_byteOf cX8_byteOf 3 (some .int) 0 0 0 [.long a, .int b] w (QI (fun x w2 => w2 = w ∧ x = Int64.toInt32 ((a >>> ((8 * b).toInt64 &&& 63)) &&& 255))) := by
  refine Sp_of_R [(some (.long a)), none, (some (.int b))] [] rfl (by simp) rfl (Nat.le_of_ble_eq_true rfl) ?_
  refine R_lload_n (pc := 0) dX8_byteOf_0 rfl rfl ?_
  refine R_bipush (pc := 1) (v := 8) dX8_byteOf_1 (by decide) ?_
  refine R_iload_n (pc := 3) dX8_byteOf_3 rfl rfl ?_
  refine R_imul (pc := 4) dX8_byteOf_4 ?_
  refine R_lshr (pc := 5) dX8_byteOf_5 ?_
  refine R_ldc2 (pc := 6) w_399c dX8_byteOf_6 ?_
  refine R_land (pc := 9) dX8_byteOf_9 ?_
  refine R_l2i (pc := 10) dX8_byteOf_10 ?_
  exact R_iret (pc := 11) dX8_byteOf_11 rfl rfl (Nat.zero_le _) (Nat.zero_le _) ⟨_, rfl, rfl, rfl⟩
theorem dX8_isLetter_0 : decode cX8_isLetter 0 = .ok (.iload_n 0, 1) := by decide +kernel
theorem dX8_isLetter_1 : decode cX8_isLetter 1 = .ok (.bipush 97, 2) := by decide +kernel
theorem dX8_isLetter_3 : decode cX8_isLetter 3 = .ok (.if_icmp .lt 13, 3) := by decide +kernel
theorem dX8_isLetter_6 : decode cX8_isLetter 6 = .ok (.iload_n 0, 1) := by decide +kernel
theorem dX8_isLetter_7 : decode cX8_isLetter 7 = .ok (.bipush 122, 2) := by decide +kernel
theorem dX8_isLetter_9 : decode cX8_isLetter 9 = .ok (.if_icmp .gt 7, 3) := by decide +kernel
theorem dX8_isLetter_12 : decode cX8_isLetter 12 = .ok (.iconst 1, 1) := by decide +kernel
theorem dX8_isLetter_13 : decode cX8_isLetter 13 = .ok (.goto 4, 3) := by decide +kernel
theorem dX8_isLetter_16 : decode cX8_isLetter 16 = .ok (.iconst 0, 1) := by decide +kernel
theorem dX8_isLetter_17 : decode cX8_isLetter 17 = .ok (.ireturn, 1) := by decide +kernel
set_option maxRecDepth 100000 in
set_option maxHeartbeats 4000000 in
theorem sp_X8_isLetter {G : vG} {l : Launch} (w : VW) (v : Int32) : Sp G l yX8_isLetter cX8_isLetter 1 (some .boolean) 0 0 0 [.int v] w (QI (fun x w2 => w2 = w ∧ (inR v 97 122 ∧ x = 1 ∨ ¬ inR v 97 122 ∧ x = 0))) := by
  refine Sp_of_R [(some (.int v))] [] rfl (by simp) rfl (Nat.le_of_ble_eq_true rfl) ?_
  refine R_iload_n (pc := 0) dX8_isLetter_0 rfl rfl ?_
  refine R_bipush (pc := 1) (v := 97) dX8_isLetter_1 (by decide) ?_
  refine R_iclt (pc := 3) 16 dX8_isLetter_3 (by decide) (fun b3_1 => ?_) (fun b3_1 => ?_)
  · skip
    refine R_iconst (pc := 16) (v := 0) dX8_isLetter_16 (by decide) ?_
    exact R_iret (pc := 17) dX8_isLetter_17 rfl rfl (Nat.zero_le _) (Nat.zero_le _) ⟨_, rfl, rfl, by unfold inR; simp [*]⟩
  · skip
    refine R_iload_n (pc := 6) dX8_isLetter_6 rfl rfl ?_
    refine R_bipush (pc := 7) (v := 122) dX8_isLetter_7 (by decide) ?_
    refine R_icgt (pc := 9) 16 dX8_isLetter_9 (by decide) (fun b9_2 => ?_) (fun b9_2 => ?_)
    · skip
      refine R_iconst (pc := 16) (v := 0) dX8_isLetter_16 (by decide) ?_
      exact R_iret (pc := 17) dX8_isLetter_17 rfl rfl (Nat.zero_le _) (Nat.zero_le _) ⟨_, rfl, rfl, by unfold inR; simp [*]⟩
    · skip
      refine R_iconst (pc := 12) (v := 1) dX8_isLetter_12 (by decide) ?_
      refine R_goto (pc := 13) 17 dX8_isLetter_13 (by decide) ?_
      exact R_iret (pc := 17) dX8_isLetter_17 rfl rfl (Nat.zero_le _) (Nat.zero_le _) ⟨_, rfl, rfl, by unfold inR; simp [*]⟩
theorem dX8_isDigit_0 : decode cX8_isDigit 0 = .ok (.iload_n 0, 1) := by decide +kernel
theorem dX8_isDigit_1 : decode cX8_isDigit 1 = .ok (.bipush 48, 2) := by decide +kernel
theorem dX8_isDigit_3 : decode cX8_isDigit 3 = .ok (.if_icmp .lt 13, 3) := by decide +kernel
theorem dX8_isDigit_6 : decode cX8_isDigit 6 = .ok (.iload_n 0, 1) := by decide +kernel
theorem dX8_isDigit_7 : decode cX8_isDigit 7 = .ok (.bipush 57, 2) := by decide +kernel
theorem dX8_isDigit_9 : decode cX8_isDigit 9 = .ok (.if_icmp .gt 7, 3) := by decide +kernel
theorem dX8_isDigit_12 : decode cX8_isDigit 12 = .ok (.iconst 1, 1) := by decide +kernel
theorem dX8_isDigit_13 : decode cX8_isDigit 13 = .ok (.goto 4, 3) := by decide +kernel
theorem dX8_isDigit_16 : decode cX8_isDigit 16 = .ok (.iconst 0, 1) := by decide +kernel
theorem dX8_isDigit_17 : decode cX8_isDigit 17 = .ok (.ireturn, 1) := by decide +kernel
set_option maxRecDepth 100000 in
set_option maxHeartbeats 4000000 in
theorem sp_X8_isDigit {G : vG} {l : Launch} (w : VW) (v : Int32) : Sp G l yX8_isDigit cX8_isDigit 1 (some .boolean) 0 0 0 [.int v] w (QI (fun x w2 => w2 = w ∧ (inR v 48 57 ∧ x = 1 ∨ ¬ inR v 48 57 ∧ x = 0))) := by
  refine Sp_of_R [(some (.int v))] [] rfl (by simp) rfl (Nat.le_of_ble_eq_true rfl) ?_
  refine R_iload_n (pc := 0) dX8_isDigit_0 rfl rfl ?_
  refine R_bipush (pc := 1) (v := 48) dX8_isDigit_1 (by decide) ?_
  refine R_iclt (pc := 3) 16 dX8_isDigit_3 (by decide) (fun b3_1 => ?_) (fun b3_1 => ?_)
  · skip
    refine R_iconst (pc := 16) (v := 0) dX8_isDigit_16 (by decide) ?_
    exact R_iret (pc := 17) dX8_isDigit_17 rfl rfl (Nat.zero_le _) (Nat.zero_le _) ⟨_, rfl, rfl, by unfold inR; simp [*]⟩
  · skip
    refine R_iload_n (pc := 6) dX8_isDigit_6 rfl rfl ?_
    refine R_bipush (pc := 7) (v := 57) dX8_isDigit_7 (by decide) ?_
    refine R_icgt (pc := 9) 16 dX8_isDigit_9 (by decide) (fun b9_2 => ?_) (fun b9_2 => ?_)
    · skip
      refine R_iconst (pc := 16) (v := 0) dX8_isDigit_16 (by decide) ?_
      exact R_iret (pc := 17) dX8_isDigit_17 rfl rfl (Nat.zero_le _) (Nat.zero_le _) ⟨_, rfl, rfl, by unfold inR; simp [*]⟩
    · skip
      refine R_iconst (pc := 12) (v := 1) dX8_isDigit_12 (by decide) ?_
      refine R_goto (pc := 13) 17 dX8_isDigit_13 (by decide) ?_
      exact R_iret (pc := 17) dX8_isDigit_17 rfl rfl (Nat.zero_le _) (Nat.zero_le _) ⟨_, rfl, rfl, by unfold inR; simp [*]⟩
theorem dX3_moved_0 : decode cX3_moved 0 = .ok (.iload_n 2, 1) := by decide +kernel
theorem dX3_moved_1 : decode cX3_moved 1 = .ok (.ifCond .lt 9, 3) := by decide +kernel
theorem dX3_moved_4 : decode cX3_moved 4 = .ok (.lload_n 0, 1) := by decide +kernel
theorem dX3_moved_5 : decode cX3_moved 5 = .ok (.iload_n 2, 1) := by decide +kernel
theorem dX3_moved_6 : decode cX3_moved 6 = .ok (.lushr, 1) := by decide +kernel
theorem dX3_moved_7 : decode cX3_moved 7 = .ok (.goto 7, 3) := by decide +kernel
theorem dX3_moved_10 : decode cX3_moved 10 = .ok (.lload_n 0, 1) := by decide +kernel
theorem dX3_moved_11 : decode cX3_moved 11 = .ok (.iload_n 2, 1) := by decide +kernel
theorem dX3_moved_12 : decode cX3_moved 12 = .ok (.ineg, 1) := by decide +kernel
theorem dX3_moved_13 : decode cX3_moved 13 = .ok (.lshl, 1) := by decide +kernel
theorem dX3_moved_14 : decode cX3_moved 14 = .ok (.lreturn, 1) := by decide +kernel
set_option maxRecDepth 100000 in
set_option maxHeartbeats 4000000 in
theorem sp_X3_moved {G : vG} {l : Launch} (w : VW) (a : Int64) (b : Int32) : Sp G l yX3_moved cX3_moved 3 (some .long) 0 0 0 [.long a, .int b] w (QL (fun _ w2 => w2 = w)) := by
  refine Sp_of_R [(some (.long a)), none, (some (.int b))] [] rfl (by simp) rfl (Nat.le_of_ble_eq_true rfl) ?_
  refine R_iload_n (pc := 0) dX3_moved_0 rfl rfl ?_
  refine R_iflt (pc := 1) 10 dX3_moved_1 (by decide) (fun b1_1 => ?_) (fun b1_1 => ?_)
  · skip
    refine R_lload_n (pc := 10) dX3_moved_10 rfl rfl ?_
    refine R_iload_n (pc := 11) dX3_moved_11 rfl rfl ?_
    refine R_ineg (pc := 12) dX3_moved_12 ?_
    refine R_lshl (pc := 13) dX3_moved_13 ?_
    exact R_lret (pc := 14) dX3_moved_14 rfl (Nat.zero_le _) (Nat.zero_le _) ⟨_, rfl, rfl⟩
  · skip
    refine R_lload_n (pc := 4) dX3_moved_4 rfl rfl ?_
    refine R_iload_n (pc := 5) dX3_moved_5 rfl rfl ?_
    refine R_lushr (pc := 6) dX3_moved_6 ?_
    refine R_goto (pc := 7) 14 dX3_moved_7 (by decide) ?_
    exact R_lret (pc := 14) dX3_moved_14 rfl (Nat.zero_le _) (Nat.zero_le _) ⟨_, rfl, rfl⟩
def ush (a b : Int32) : Int32 := (a.toUInt32 >>> (b.toUInt32 &&& Int32.toUInt32 31)).toInt32
def pc1 (a : Int32) : Int32 := a - (ush a 1 &&& 1431655765)
def pc2 (a : Int32) : Int32 := (a &&& 858993459) + (ush a 2 &&& 858993459)
def pc3 (a : Int32) : Int32 := (a + ush a 4) &&& 252645135
def pc4 (a : Int32) : Int32 := a + ush a 8
def pc5 (a : Int32) : Int32 := a + ush a 16
def pcI (a : Int32) : Int32 := pc5 (pc4 (pc3 (pc2 (pc1 a)))) &&& 63
theorem dJ6_bitCount_0f7a4_0 : decode cJ6_bitCount_0f7a4 0 = .ok (.iload_n 0, 1) := by decide +kernel
theorem dJ6_bitCount_0f7a4_1 : decode cJ6_bitCount_0f7a4 1 = .ok (.iload_n 0, 1) := by decide +kernel
theorem dJ6_bitCount_0f7a4_2 : decode cJ6_bitCount_0f7a4 2 = .ok (.iconst 1, 1) := by decide +kernel
theorem dJ6_bitCount_0f7a4_3 : decode cJ6_bitCount_0f7a4 3 = .ok (.iushr, 1) := by decide +kernel
theorem dJ6_bitCount_0f7a4_4 : decode cJ6_bitCount_0f7a4 4 = .ok (.ldc_w 265, 3) := by decide +kernel
theorem dJ6_bitCount_0f7a4_7 : decode cJ6_bitCount_0f7a4 7 = .ok (.iand, 1) := by decide +kernel
theorem dJ6_bitCount_0f7a4_8 : decode cJ6_bitCount_0f7a4 8 = .ok (.isub, 1) := by decide +kernel
theorem dJ6_bitCount_0f7a4_9 : decode cJ6_bitCount_0f7a4 9 = .ok (.istore_n 0, 1) := by decide +kernel
theorem dJ6_bitCount_0f7a4_10 : decode cJ6_bitCount_0f7a4 10 = .ok (.iload_n 0, 1) := by decide +kernel
theorem dJ6_bitCount_0f7a4_11 : decode cJ6_bitCount_0f7a4 11 = .ok (.ldc_w 266, 3) := by decide +kernel
theorem dJ6_bitCount_0f7a4_14 : decode cJ6_bitCount_0f7a4 14 = .ok (.iand, 1) := by decide +kernel
theorem dJ6_bitCount_0f7a4_15 : decode cJ6_bitCount_0f7a4 15 = .ok (.iload_n 0, 1) := by decide +kernel
theorem dJ6_bitCount_0f7a4_16 : decode cJ6_bitCount_0f7a4 16 = .ok (.iconst 2, 1) := by decide +kernel
theorem dJ6_bitCount_0f7a4_17 : decode cJ6_bitCount_0f7a4 17 = .ok (.iushr, 1) := by decide +kernel
theorem dJ6_bitCount_0f7a4_18 : decode cJ6_bitCount_0f7a4 18 = .ok (.ldc_w 266, 3) := by decide +kernel
theorem dJ6_bitCount_0f7a4_21 : decode cJ6_bitCount_0f7a4 21 = .ok (.iand, 1) := by decide +kernel
theorem dJ6_bitCount_0f7a4_22 : decode cJ6_bitCount_0f7a4 22 = .ok (.iadd, 1) := by decide +kernel
theorem dJ6_bitCount_0f7a4_23 : decode cJ6_bitCount_0f7a4 23 = .ok (.istore_n 0, 1) := by decide +kernel
theorem dJ6_bitCount_0f7a4_24 : decode cJ6_bitCount_0f7a4 24 = .ok (.iload_n 0, 1) := by decide +kernel
theorem dJ6_bitCount_0f7a4_25 : decode cJ6_bitCount_0f7a4 25 = .ok (.iload_n 0, 1) := by decide +kernel
theorem dJ6_bitCount_0f7a4_26 : decode cJ6_bitCount_0f7a4 26 = .ok (.iconst 4, 1) := by decide +kernel
theorem dJ6_bitCount_0f7a4_27 : decode cJ6_bitCount_0f7a4 27 = .ok (.iushr, 1) := by decide +kernel
theorem dJ6_bitCount_0f7a4_28 : decode cJ6_bitCount_0f7a4 28 = .ok (.iadd, 1) := by decide +kernel
theorem dJ6_bitCount_0f7a4_29 : decode cJ6_bitCount_0f7a4 29 = .ok (.ldc_w 267, 3) := by decide +kernel
theorem dJ6_bitCount_0f7a4_32 : decode cJ6_bitCount_0f7a4 32 = .ok (.iand, 1) := by decide +kernel
theorem dJ6_bitCount_0f7a4_33 : decode cJ6_bitCount_0f7a4 33 = .ok (.istore_n 0, 1) := by decide +kernel
theorem dJ6_bitCount_0f7a4_34 : decode cJ6_bitCount_0f7a4 34 = .ok (.iload_n 0, 1) := by decide +kernel
theorem dJ6_bitCount_0f7a4_35 : decode cJ6_bitCount_0f7a4 35 = .ok (.iload_n 0, 1) := by decide +kernel
theorem dJ6_bitCount_0f7a4_36 : decode cJ6_bitCount_0f7a4 36 = .ok (.bipush 8, 2) := by decide +kernel
theorem dJ6_bitCount_0f7a4_38 : decode cJ6_bitCount_0f7a4 38 = .ok (.iushr, 1) := by decide +kernel
theorem dJ6_bitCount_0f7a4_39 : decode cJ6_bitCount_0f7a4 39 = .ok (.iadd, 1) := by decide +kernel
theorem dJ6_bitCount_0f7a4_40 : decode cJ6_bitCount_0f7a4 40 = .ok (.istore_n 0, 1) := by decide +kernel
theorem dJ6_bitCount_0f7a4_41 : decode cJ6_bitCount_0f7a4 41 = .ok (.iload_n 0, 1) := by decide +kernel
theorem dJ6_bitCount_0f7a4_42 : decode cJ6_bitCount_0f7a4 42 = .ok (.iload_n 0, 1) := by decide +kernel
theorem dJ6_bitCount_0f7a4_43 : decode cJ6_bitCount_0f7a4 43 = .ok (.bipush 16, 2) := by decide +kernel
theorem dJ6_bitCount_0f7a4_45 : decode cJ6_bitCount_0f7a4 45 = .ok (.iushr, 1) := by decide +kernel
theorem dJ6_bitCount_0f7a4_46 : decode cJ6_bitCount_0f7a4 46 = .ok (.iadd, 1) := by decide +kernel
theorem dJ6_bitCount_0f7a4_47 : decode cJ6_bitCount_0f7a4 47 = .ok (.istore_n 0, 1) := by decide +kernel
theorem dJ6_bitCount_0f7a4_48 : decode cJ6_bitCount_0f7a4 48 = .ok (.iload_n 0, 1) := by decide +kernel
theorem dJ6_bitCount_0f7a4_49 : decode cJ6_bitCount_0f7a4 49 = .ok (.bipush 63, 2) := by decide +kernel
theorem dJ6_bitCount_0f7a4_51 : decode cJ6_bitCount_0f7a4 51 = .ok (.iand, 1) := by decide +kernel
theorem dJ6_bitCount_0f7a4_52 : decode cJ6_bitCount_0f7a4 52 = .ok (.ireturn, 1) := by decide +kernel
set_option maxRecDepth 100000 in
set_option maxHeartbeats 4000000 in
theorem sp_J6_bitCount_0f7a4 {G : vG} {l : Launch} (w : VW) (a : Int32) : Sp G l yJ6_bitCount_0f7a4 cJ6_bitCount_0f7a4 1 (some .int) 0 0 0 [.int a] w (QI (fun x w2 => w2 = w ∧ x = pcI a)) := by
  refine Sp_of_R [(some (.int a))] [] rfl (by simp) rfl (Nat.le_of_ble_eq_true rfl) ?_
  refine R_iload_n (pc := 0) dJ6_bitCount_0f7a4_0 rfl rfl ?_
  refine R_iload_n (pc := 1) dJ6_bitCount_0f7a4_1 rfl rfl ?_
  refine R_iconst (pc := 2) (v := 1) dJ6_bitCount_0f7a4_2 (by decide) ?_
  refine R_iushr (pc := 3) dJ6_bitCount_0f7a4_3 ?_
  refine R_ldcw (pc := 4) w_451c dJ6_bitCount_0f7a4_4 ?_
  refine R_iand (pc := 7) dJ6_bitCount_0f7a4_7 ?_
  refine R_isub (pc := 8) dJ6_bitCount_0f7a4_8 ?_
  refine st_1_0_i_x (pc := 9) dJ6_bitCount_0f7a4_9 ?_
  refine R_iload_n (pc := 10) dJ6_bitCount_0f7a4_10 rfl rfl ?_
  refine R_ldcw (pc := 11) w_452c dJ6_bitCount_0f7a4_11 ?_
  refine R_iand (pc := 14) dJ6_bitCount_0f7a4_14 ?_
  refine R_iload_n (pc := 15) dJ6_bitCount_0f7a4_15 rfl rfl ?_
  refine R_iconst (pc := 16) (v := 2) dJ6_bitCount_0f7a4_16 (by decide) ?_
  refine R_iushr (pc := 17) dJ6_bitCount_0f7a4_17 ?_
  refine R_ldcw (pc := 18) w_452c dJ6_bitCount_0f7a4_18 ?_
  refine R_iand (pc := 21) dJ6_bitCount_0f7a4_21 ?_
  refine R_iadd (pc := 22) dJ6_bitCount_0f7a4_22 ?_
  refine st_1_0_i_x (pc := 23) dJ6_bitCount_0f7a4_23 ?_
  refine R_iload_n (pc := 24) dJ6_bitCount_0f7a4_24 rfl rfl ?_
  refine R_iload_n (pc := 25) dJ6_bitCount_0f7a4_25 rfl rfl ?_
  refine R_iconst (pc := 26) (v := 4) dJ6_bitCount_0f7a4_26 (by decide) ?_
  refine R_iushr (pc := 27) dJ6_bitCount_0f7a4_27 ?_
  refine R_iadd (pc := 28) dJ6_bitCount_0f7a4_28 ?_
  refine R_ldcw (pc := 29) w_453c dJ6_bitCount_0f7a4_29 ?_
  refine R_iand (pc := 32) dJ6_bitCount_0f7a4_32 ?_
  refine st_1_0_i_x (pc := 33) dJ6_bitCount_0f7a4_33 ?_
  refine R_iload_n (pc := 34) dJ6_bitCount_0f7a4_34 rfl rfl ?_
  refine R_iload_n (pc := 35) dJ6_bitCount_0f7a4_35 rfl rfl ?_
  refine R_bipush (pc := 36) (v := 8) dJ6_bitCount_0f7a4_36 (by decide) ?_
  refine R_iushr (pc := 38) dJ6_bitCount_0f7a4_38 ?_
  refine R_iadd (pc := 39) dJ6_bitCount_0f7a4_39 ?_
  refine st_1_0_i_x (pc := 40) dJ6_bitCount_0f7a4_40 ?_
  refine R_iload_n (pc := 41) dJ6_bitCount_0f7a4_41 rfl rfl ?_
  refine R_iload_n (pc := 42) dJ6_bitCount_0f7a4_42 rfl rfl ?_
  refine R_bipush (pc := 43) (v := 16) dJ6_bitCount_0f7a4_43 (by decide) ?_
  refine R_iushr (pc := 45) dJ6_bitCount_0f7a4_45 ?_
  refine R_iadd (pc := 46) dJ6_bitCount_0f7a4_46 ?_
  refine st_1_0_i_x (pc := 47) dJ6_bitCount_0f7a4_47 ?_
  refine R_iload_n (pc := 48) dJ6_bitCount_0f7a4_48 rfl rfl ?_
  refine R_bipush (pc := 49) (v := 63) dJ6_bitCount_0f7a4_49 (by decide) ?_
  refine R_iand (pc := 51) dJ6_bitCount_0f7a4_51 ?_
  exact R_iret (pc := 52) dJ6_bitCount_0f7a4_52 rfl rfl (Nat.zero_le _) (Nat.zero_le _) ⟨_, rfl, rfl, rfl⟩
theorem dJ13_bitCount_95d88_0 : decode cJ13_bitCount_95d88 0 = .ok (.lload_n 0, 1) := by decide +kernel
theorem dJ13_bitCount_95d88_1 : decode cJ13_bitCount_95d88 1 = .ok (.lload_n 0, 1) := by decide +kernel
theorem dJ13_bitCount_95d88_2 : decode cJ13_bitCount_95d88 2 = .ok (.iconst 1, 1) := by decide +kernel
theorem dJ13_bitCount_95d88_3 : decode cJ13_bitCount_95d88 3 = .ok (.lushr, 1) := by decide +kernel
theorem dJ13_bitCount_95d88_4 : decode cJ13_bitCount_95d88 4 = .ok (.ldc2_w 314, 3) := by decide +kernel
theorem dJ13_bitCount_95d88_7 : decode cJ13_bitCount_95d88 7 = .ok (.land, 1) := by decide +kernel
theorem dJ13_bitCount_95d88_8 : decode cJ13_bitCount_95d88 8 = .ok (.lsub, 1) := by decide +kernel
theorem dJ13_bitCount_95d88_9 : decode cJ13_bitCount_95d88 9 = .ok (.lstore_n 0, 1) := by decide +kernel
theorem dJ13_bitCount_95d88_10 : decode cJ13_bitCount_95d88 10 = .ok (.lload_n 0, 1) := by decide +kernel
theorem dJ13_bitCount_95d88_11 : decode cJ13_bitCount_95d88 11 = .ok (.ldc2_w 316, 3) := by decide +kernel
theorem dJ13_bitCount_95d88_14 : decode cJ13_bitCount_95d88 14 = .ok (.land, 1) := by decide +kernel
theorem dJ13_bitCount_95d88_15 : decode cJ13_bitCount_95d88 15 = .ok (.lload_n 0, 1) := by decide +kernel
theorem dJ13_bitCount_95d88_16 : decode cJ13_bitCount_95d88 16 = .ok (.iconst 2, 1) := by decide +kernel
theorem dJ13_bitCount_95d88_17 : decode cJ13_bitCount_95d88 17 = .ok (.lushr, 1) := by decide +kernel
theorem dJ13_bitCount_95d88_18 : decode cJ13_bitCount_95d88 18 = .ok (.ldc2_w 316, 3) := by decide +kernel
theorem dJ13_bitCount_95d88_21 : decode cJ13_bitCount_95d88 21 = .ok (.land, 1) := by decide +kernel
theorem dJ13_bitCount_95d88_22 : decode cJ13_bitCount_95d88 22 = .ok (.ladd, 1) := by decide +kernel
theorem dJ13_bitCount_95d88_23 : decode cJ13_bitCount_95d88 23 = .ok (.lstore_n 0, 1) := by decide +kernel
theorem dJ13_bitCount_95d88_24 : decode cJ13_bitCount_95d88 24 = .ok (.lload_n 0, 1) := by decide +kernel
theorem dJ13_bitCount_95d88_25 : decode cJ13_bitCount_95d88 25 = .ok (.lload_n 0, 1) := by decide +kernel
theorem dJ13_bitCount_95d88_26 : decode cJ13_bitCount_95d88 26 = .ok (.iconst 4, 1) := by decide +kernel
theorem dJ13_bitCount_95d88_27 : decode cJ13_bitCount_95d88 27 = .ok (.lushr, 1) := by decide +kernel
theorem dJ13_bitCount_95d88_28 : decode cJ13_bitCount_95d88 28 = .ok (.ladd, 1) := by decide +kernel
theorem dJ13_bitCount_95d88_29 : decode cJ13_bitCount_95d88 29 = .ok (.ldc2_w 318, 3) := by decide +kernel
theorem dJ13_bitCount_95d88_32 : decode cJ13_bitCount_95d88 32 = .ok (.land, 1) := by decide +kernel
theorem dJ13_bitCount_95d88_33 : decode cJ13_bitCount_95d88 33 = .ok (.lstore_n 0, 1) := by decide +kernel
theorem dJ13_bitCount_95d88_34 : decode cJ13_bitCount_95d88 34 = .ok (.lload_n 0, 1) := by decide +kernel
theorem dJ13_bitCount_95d88_35 : decode cJ13_bitCount_95d88 35 = .ok (.lload_n 0, 1) := by decide +kernel
theorem dJ13_bitCount_95d88_36 : decode cJ13_bitCount_95d88 36 = .ok (.bipush 8, 2) := by decide +kernel
theorem dJ13_bitCount_95d88_38 : decode cJ13_bitCount_95d88 38 = .ok (.lushr, 1) := by decide +kernel
theorem dJ13_bitCount_95d88_39 : decode cJ13_bitCount_95d88 39 = .ok (.ladd, 1) := by decide +kernel
theorem dJ13_bitCount_95d88_40 : decode cJ13_bitCount_95d88 40 = .ok (.lstore_n 0, 1) := by decide +kernel
theorem dJ13_bitCount_95d88_41 : decode cJ13_bitCount_95d88 41 = .ok (.lload_n 0, 1) := by decide +kernel
theorem dJ13_bitCount_95d88_42 : decode cJ13_bitCount_95d88 42 = .ok (.lload_n 0, 1) := by decide +kernel
theorem dJ13_bitCount_95d88_43 : decode cJ13_bitCount_95d88 43 = .ok (.bipush 16, 2) := by decide +kernel
theorem dJ13_bitCount_95d88_45 : decode cJ13_bitCount_95d88 45 = .ok (.lushr, 1) := by decide +kernel
theorem dJ13_bitCount_95d88_46 : decode cJ13_bitCount_95d88 46 = .ok (.ladd, 1) := by decide +kernel
theorem dJ13_bitCount_95d88_47 : decode cJ13_bitCount_95d88 47 = .ok (.lstore_n 0, 1) := by decide +kernel
theorem dJ13_bitCount_95d88_48 : decode cJ13_bitCount_95d88 48 = .ok (.lload_n 0, 1) := by decide +kernel
theorem dJ13_bitCount_95d88_49 : decode cJ13_bitCount_95d88 49 = .ok (.lload_n 0, 1) := by decide +kernel
theorem dJ13_bitCount_95d88_50 : decode cJ13_bitCount_95d88 50 = .ok (.bipush 32, 2) := by decide +kernel
theorem dJ13_bitCount_95d88_52 : decode cJ13_bitCount_95d88 52 = .ok (.lushr, 1) := by decide +kernel
theorem dJ13_bitCount_95d88_53 : decode cJ13_bitCount_95d88 53 = .ok (.ladd, 1) := by decide +kernel
theorem dJ13_bitCount_95d88_54 : decode cJ13_bitCount_95d88 54 = .ok (.lstore_n 0, 1) := by decide +kernel
theorem dJ13_bitCount_95d88_55 : decode cJ13_bitCount_95d88 55 = .ok (.lload_n 0, 1) := by decide +kernel
theorem dJ13_bitCount_95d88_56 : decode cJ13_bitCount_95d88 56 = .ok (.l2i, 1) := by decide +kernel
theorem dJ13_bitCount_95d88_57 : decode cJ13_bitCount_95d88 57 = .ok (.bipush 127, 2) := by decide +kernel
theorem dJ13_bitCount_95d88_59 : decode cJ13_bitCount_95d88 59 = .ok (.iand, 1) := by decide +kernel
theorem dJ13_bitCount_95d88_60 : decode cJ13_bitCount_95d88 60 = .ok (.ireturn, 1) := by decide +kernel
set_option maxRecDepth 100000 in
set_option maxHeartbeats 4000000 in
theorem sp_J13_bitCount_95d88 {G : vG} {l : Launch} (w : VW) (a : Int64) : Sp G l yJ13_bitCount_95d88 cJ13_bitCount_95d88 2 (some .int) 0 0 0 [.long a] w (QI (fun _ w2 => w2 = w)) := by
  refine Sp_of_R [(some (.long a)), none] [] rfl (by simp) rfl (Nat.le_of_ble_eq_true rfl) ?_
  refine R_lload_n (pc := 0) dJ13_bitCount_95d88_0 rfl rfl ?_
  refine R_lload_n (pc := 1) dJ13_bitCount_95d88_1 rfl rfl ?_
  refine R_iconst (pc := 2) (v := 1) dJ13_bitCount_95d88_2 (by decide) ?_
  refine R_lushr (pc := 3) dJ13_bitCount_95d88_3 ?_
  refine R_ldc2 (pc := 4) w_382c dJ13_bitCount_95d88_4 ?_
  refine R_land (pc := 7) dJ13_bitCount_95d88_7 ?_
  refine R_lsub (pc := 8) dJ13_bitCount_95d88_8 ?_
  refine st_2_0_l_x (pc := 9) dJ13_bitCount_95d88_9 ?_
  refine R_lload_n (pc := 10) dJ13_bitCount_95d88_10 rfl rfl ?_
  refine R_ldc2 (pc := 11) w_383c dJ13_bitCount_95d88_11 ?_
  refine R_land (pc := 14) dJ13_bitCount_95d88_14 ?_
  refine R_lload_n (pc := 15) dJ13_bitCount_95d88_15 rfl rfl ?_
  refine R_iconst (pc := 16) (v := 2) dJ13_bitCount_95d88_16 (by decide) ?_
  refine R_lushr (pc := 17) dJ13_bitCount_95d88_17 ?_
  refine R_ldc2 (pc := 18) w_383c dJ13_bitCount_95d88_18 ?_
  refine R_land (pc := 21) dJ13_bitCount_95d88_21 ?_
  refine R_ladd (pc := 22) dJ13_bitCount_95d88_22 ?_
  refine st_2_0_l_x (pc := 23) dJ13_bitCount_95d88_23 ?_
  refine R_lload_n (pc := 24) dJ13_bitCount_95d88_24 rfl rfl ?_
  refine R_lload_n (pc := 25) dJ13_bitCount_95d88_25 rfl rfl ?_
  refine R_iconst (pc := 26) (v := 4) dJ13_bitCount_95d88_26 (by decide) ?_
  refine R_lushr (pc := 27) dJ13_bitCount_95d88_27 ?_
  refine R_ladd (pc := 28) dJ13_bitCount_95d88_28 ?_
  refine R_ldc2 (pc := 29) w_384c dJ13_bitCount_95d88_29 ?_
  refine R_land (pc := 32) dJ13_bitCount_95d88_32 ?_
  refine st_2_0_l_x (pc := 33) dJ13_bitCount_95d88_33 ?_
  refine R_lload_n (pc := 34) dJ13_bitCount_95d88_34 rfl rfl ?_
  refine R_lload_n (pc := 35) dJ13_bitCount_95d88_35 rfl rfl ?_
  refine R_bipush (pc := 36) (v := 8) dJ13_bitCount_95d88_36 (by decide) ?_
  refine R_lushr (pc := 38) dJ13_bitCount_95d88_38 ?_
  refine R_ladd (pc := 39) dJ13_bitCount_95d88_39 ?_
  refine st_2_0_l_x (pc := 40) dJ13_bitCount_95d88_40 ?_
  refine R_lload_n (pc := 41) dJ13_bitCount_95d88_41 rfl rfl ?_
  refine R_lload_n (pc := 42) dJ13_bitCount_95d88_42 rfl rfl ?_
  refine R_bipush (pc := 43) (v := 16) dJ13_bitCount_95d88_43 (by decide) ?_
  refine R_lushr (pc := 45) dJ13_bitCount_95d88_45 ?_
  refine R_ladd (pc := 46) dJ13_bitCount_95d88_46 ?_
  refine st_2_0_l_x (pc := 47) dJ13_bitCount_95d88_47 ?_
  refine R_lload_n (pc := 48) dJ13_bitCount_95d88_48 rfl rfl ?_
  refine R_lload_n (pc := 49) dJ13_bitCount_95d88_49 rfl rfl ?_
  refine R_bipush (pc := 50) (v := 32) dJ13_bitCount_95d88_50 (by decide) ?_
  refine R_lushr (pc := 52) dJ13_bitCount_95d88_52 ?_
  refine R_ladd (pc := 53) dJ13_bitCount_95d88_53 ?_
  refine st_2_0_l_x (pc := 54) dJ13_bitCount_95d88_54 ?_
  refine R_lload_n (pc := 55) dJ13_bitCount_95d88_55 rfl rfl ?_
  refine R_l2i (pc := 56) dJ13_bitCount_95d88_56 ?_
  refine R_bipush (pc := 57) (v := 127) dJ13_bitCount_95d88_57 (by decide) ?_
  refine R_iand (pc := 59) dJ13_bitCount_95d88_59 ?_
  exact R_iret (pc := 60) dJ13_bitCount_95d88_60 rfl rfl (Nat.zero_le _) (Nat.zero_le _) ⟨_, rfl, rfl⟩
