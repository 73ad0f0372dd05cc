/-! methods on any state that keeps the invariant -/
theorem rem_in {u v : Int32} (hu : 0 ≤ u.toInt) (hv : 0 < v.toInt) : 0 ≤ (u - u / v * v).toInt ∧ (u - u / v * v).toInt < v.toInt := by
  have h1 := ti_rng u
  have h2 := ti_rng v
  have hm : u ≠ Int32.minValue := by
    rintro rfl
    exact absurd hu (by decide)
  have hd : (u / v).toInt = u.toInt / v.toInt := by
    rw [Int32.toInt_div_of_ne_left _ _ hm, Int.tdiv_eq_ediv_of_nonneg hu]
  have hq := Int.ediv_mul_le u.toInt (show v.toInt ≠ 0 by omega)
  have hr := Int.lt_ediv_add_one_mul_self u.toInt hv
  have hn : 0 ≤ u.toInt / v.toInt * v.toInt := Int.mul_nonneg (Int.ediv_nonneg hu (by omega)) (by omega)
  rw [Int.add_mul, Int.one_mul] at hr
  have hp : (u / v * v).toInt = u.toInt / v.toInt * v.toInt := by
    rw [Int32.toInt_mul, hd]; exact Int.bmod_eq_of_le (by omega) (by omega)
  have hs : (u - u / v * v).toInt = u.toInt - u.toInt / v.toInt * v.toInt := by
    rw [Int32.toInt_sub, hp]; exact Int.bmod_eq_of_le (by omega) (by omega)
  rw [hs]
  omega

theorem dX9_common_0 : decode cX9_common 0 = .ok (.iload_n 0, 1) := by decide +kernel
theorem dX9_common_1 : decode cX9_common 1 = .ok (.istore_n 2, 1) := by decide +kernel
theorem dX9_common_2 : decode cX9_common 2 = .ok (.iload_n 1, 1) := by decide +kernel
theorem dX9_common_3 : decode cX9_common 3 = .ok (.istore_n 3, 1) := by decide +kernel
theorem dX9_common_4 : decode cX9_common 4 = .ok (.iload_n 3, 1) := by decide +kernel
theorem dX9_common_5 : decode cX9_common 5 = .ok (.ifCond .eq 16, 3) := by decide +kernel
theorem dX9_common_8 : decode cX9_common 8 = .ok (.iload_n 2, 1) := by decide +kernel
theorem dX9_common_9 : decode cX9_common 9 = .ok (.iload_n 3, 1) := by decide +kernel
theorem dX9_common_10 : decode cX9_common 10 = .ok (.irem, 1) := by decide +kernel
theorem dX9_common_11 : decode cX9_common 11 = .ok (.istore 4, 2) := by decide +kernel
theorem dX9_common_13 : decode cX9_common 13 = .ok (.iload_n 3, 1) := by decide +kernel
theorem dX9_common_14 : decode cX9_common 14 = .ok (.istore_n 2, 1) := by decide +kernel
theorem dX9_common_15 : decode cX9_common 15 = .ok (.iload 4, 2) := by decide +kernel
theorem dX9_common_17 : decode cX9_common 17 = .ok (.istore_n 3, 1) := by decide +kernel
theorem dX9_common_18 : decode cX9_common 18 = .ok (.goto (-14), 3) := by decide +kernel
theorem dX9_common_21 : decode cX9_common 21 = .ok (.iload_n 2, 1) := by decide +kernel
theorem dX9_common_22 : decode cX9_common 22 = .ok (.ireturn, 1) := by decide +kernel
set_option maxRecDepth 100000 in
set_option maxHeartbeats 40000000 in
theorem gx_X9_common {G : vG} {l : Launch} (w : VW) (a b : Int32) (ha : 0 ≤ a.toInt) (hb : 0 ≤ b.toInt) : Sp G l yX9_common cX9_common 5 (some .int) 0 0 0 [.int a, .int b] (w) (QI (fun x w2 => w2 = w ∧ 0 ≤ x.toInt ∧ ((¬ a = 0 ∨ ¬ b = 0) → ¬ x = 0))) := by
  refine Sp_of_R [(some (.int a)), (some (.int b)), none, none, none] [none, none, none] rfl (by simp) rfl (Nat.le_of_ble_eq_true rfl) ?_
  refine R_iload_n (pc := 0) dX9_common_0 rfl rfl ?_
  refine st_5_2_i_i (pc := 1) dX9_common_1 ?_
  refine R_iload_n (pc := 2) dX9_common_2 rfl rfl ?_
  refine st_5_3_i_i (pc := 3) dX9_common_3 ?_
  have HL : ∀ (q : Nat) (u v : Int32) (o : Option Value), v.toInt ≤ (q : Int) → 0 ≤ u.toInt → 0 ≤ v.toInt → ((¬ a = 0 ∨ ¬ b = 0) → ¬ u = 0 ∨ ¬ v = 0) → R G l yX9_common cX9_common 5 (some .int) 0 0 0 (QI (fun x w2 => w2 = w ∧ 0 ≤ x.toInt ∧ ((¬ a = 0 ∨ ¬ b = 0) → ¬ x = 0))) 4 [(some (.int a)), (some (.int b)), (some (.int u)), (some (.int v)), o] [] (w) 0 0 := by
    intro q
    induction q with
    | zero =>
      intro u v o hq hu hv hz
      obtain rfl : v = 0 := Int32.toInt_inj.mp (by have z : (0 : Int32).toInt = 0 := (by decide); omega)
      refine R_iload_n (pc := 4) dX9_common_4 rfl rfl ?_
      refine R_ifeq (pc := 5) 21 dX9_common_5 (by decide) (fun _ => ?_) (fun h => absurd (by decide) h)
      refine R_iload_n (pc := 21) dX9_common_21 rfl rfl ?_
      exact R_iret (pc := 22) dX9_common_22 rfl rfl (Nat.zero_le _) (Nat.zero_le _) ⟨_, rfl, rfl, hu, fun h => (hz h).elim (fun h => h) (fun h => by first | exact absurd rfl h | exact absurd (by assumption) h)⟩
    | succ q ih =>
      intro u v o hq hu hv hz
      refine R_iload_n (pc := 4) dX9_common_4 rfl rfl ?_
      refine R_ifeq (pc := 5) 21 dX9_common_5 (by decide) (fun b5_2 => ?_) (fun b5_2 => ?_)
      · skip
        refine R_iload_n (pc := 21) dX9_common_21 rfl rfl ?_
        exact R_iret (pc := 22) dX9_common_22 rfl rfl (Nat.zero_le _) (Nat.zero_le _) ⟨_, rfl, rfl, hu, fun h => (hz h).elim (fun h => h) (fun h => by first | exact absurd rfl h | exact absurd (by assumption) h)⟩
      · skip
        refine R_iload_n (pc := 8) dX9_common_8 rfl rfl ?_
        refine R_iload_n (pc := 9) dX9_common_9 rfl rfl ?_
        refine R_irem (pc := 10) dX9_common_10 b5_2 ?_
        refine st_5_4_i_i (pc := 11) dX9_common_11 ?_
        refine R_iload_n (pc := 13) dX9_common_13 rfl rfl ?_
        refine st_5_2_i_i (pc := 14) dX9_common_14 ?_
        refine R_iload (pc := 15) dX9_common_15 rfl ?_
        refine st_5_3_i_i (pc := 17) dX9_common_17 ?_
        refine R_goto (pc := 18) 4 dX9_common_18 (by decide) ?_
        have hp : 0 < v.toInt := by have := ti_ne b5_2; have z : (0 : Int32).toInt = 0 := (by decide); omega
        have hr := rem_in hu hp
        exact ih v _ _ (by omega) hv hr.1 (fun _ => Or.inl b5_2)
  exact HL b.toInt.toNat a b _ (by omega) ha hb (fun h => h)
theorem dX9_lowest_0 : decode cX9_lowest 0 = .ok (.iload_n 0, 1) := by decide +kernel
theorem dX9_lowest_1 : decode cX9_lowest 1 = .ok (.iload_n 1, 1) := by decide +kernel
theorem dX9_lowest_2 : decode cX9_lowest 2 = .ok (.invokestatic 191, 3) := by decide +kernel
theorem dX9_lowest_5 : decode cX9_lowest 5 = .ok (.istore_n 3, 1) := by decide +kernel
theorem dX9_lowest_6 : decode cX9_lowest 6 = .ok (.iload_n 2, 1) := by decide +kernel
theorem dX9_lowest_7 : decode cX9_lowest 7 = .ok (.ifCond .eq 9, 3) := by decide +kernel
theorem dX9_lowest_10 : decode cX9_lowest 10 = .ok (.iload_n 0, 1) := by decide +kernel
theorem dX9_lowest_11 : decode cX9_lowest 11 = .ok (.iload_n 3, 1) := by decide +kernel
theorem dX9_lowest_12 : decode cX9_lowest 12 = .ok (.idiv, 1) := by decide +kernel
theorem dX9_lowest_13 : decode cX9_lowest 13 = .ok (.goto 6, 3) := by decide +kernel
theorem dX9_lowest_16 : decode cX9_lowest 16 = .ok (.iload_n 1, 1) := by decide +kernel
theorem dX9_lowest_17 : decode cX9_lowest 17 = .ok (.iload_n 3, 1) := by decide +kernel
theorem dX9_lowest_18 : decode cX9_lowest 18 = .ok (.idiv, 1) := by decide +kernel
theorem dX9_lowest_19 : decode cX9_lowest 19 = .ok (.ireturn, 1) := by decide +kernel
set_option maxRecDepth 100000 in
set_option maxHeartbeats 40000000 in
theorem gx_X9_lowest {G : vG} {l : Launch} (w : VW) (a b m : Int32) (ha : 0 ≤ a.toInt) (hb : 0 ≤ b.toInt) (hz : ¬ b = 0) : Sp G l yX9_lowest cX9_lowest 4 (some .int) 1 0 0 [.int a, .int b, .int m] (w) (QI (fun _ w2 => w2 = w)) := by
  refine Sp_of_R [(some (.int a)), (some (.int b)), (some (.int m)), none] [none] rfl (by simp) rfl (Nat.le_of_ble_eq_true rfl) ?_
  refine R_iload_n (pc := 0) dX9_lowest_0 rfl rfl ?_
  refine R_iload_n (pc := 1) dX9_lowest_1 rfl rfl ?_
  refine k_X9_191 (pc := 2) (gx_X9_common _ _ _ ha hb) rfl (by decide) (Nat.le_refl _) (Nat.le_refl _) (Nat.le_of_ble_eq_true rfl) dX9_lowest_2 (fun y1 w2 h => ?_)
  obtain ⟨rfl, -, hg⟩ := h
  have hg0 : ¬ y1 = 0 := hg (Or.inr hz)
  refine st_4_3_i_i (pc := 5) dX9_lowest_5 ?_
  refine R_iload_n (pc := 6) dX9_lowest_6 rfl rfl ?_
  refine R_ifeq (pc := 7) 16 dX9_lowest_7 (by decide) (fun b7_2 => ?_) (fun b7_2 => ?_)
  · skip
    refine R_iload_n (pc := 16) dX9_lowest_16 rfl rfl ?_
    refine R_iload_n (pc := 17) dX9_lowest_17 rfl rfl ?_
    refine R_idiv (pc := 18) dX9_lowest_18 hg0 ?_
    exact R_iret (pc := 19) dX9_lowest_19 rfl rfl (Nat.zero_le _) (Nat.zero_le _) ⟨_, rfl, rfl⟩
  · skip
    refine R_iload_n (pc := 10) dX9_lowest_10 rfl rfl ?_
    refine R_iload_n (pc := 11) dX9_lowest_11 rfl rfl ?_
    refine R_idiv (pc := 12) dX9_lowest_12 hg0 ?_
    refine R_goto (pc := 13) 19 dX9_lowest_13 (by decide) ?_
    exact R_iret (pc := 19) dX9_lowest_19 rfl rfl (Nat.zero_le _) (Nat.zero_le _) ⟨_, rfl, rfl⟩
