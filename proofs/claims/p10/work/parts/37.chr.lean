/-! the reader's six texts: their letters -/
section STR2
variable {G : vG} {l : Launch} {y : MethodName} {cc : ByteArray} {nL : Nat} {ret : Option FieldType} {d mc ms : Nat} {Q : Option Value → VW → Prop} {pc : Nat} {lv : List (Option Value)} {st : List Value} {w : VW} {k n : Nat}
set_option maxRecDepth 100000 in
theorem R_szq (hy : y.cls = "java/lang/String") (hdg : decode cc pc = .ok (.getstatic 1053, 3)) (k1 : R G l y cc nL ret d mc ms Q (pc + 3) lv (.null :: st) w k n) (k2 : R G l y cc nL ret d mc ms Q (pc + 3) lv (.ref 1000199 :: st) w k n) : R G l y cc nL ret d mc ms Q pc lv st w k n := by
  intro p e Rm s m args below meth c Qt C0 hret H locs ls hH hS hl
  obtain ⟨-, -, -, -, -, hZ, -⟩ := C0.2.2.2.2.2.1
  rcases hZ with hZ | hZ
  · exact va_gets C0.1 C0.2.1 hZ hS (own := "java/lang/String") (by rw [← hy]; exact C0.2.2.2.1) (C0.2.2.2.2.1 _ (TW_tb 764 (w := Cond.fieldLink "java/lang/String" 1053 "jdk/internal/util/Preconditions" "SIOOBE_FORMATTER" "Ljava/util/function/BiFunction;") rfl rfl)) (fun _ h => h) hdg (k1 p e Rm s m args below meth c Qt C0 hret H locs ls hH hS hl)
  · refine va_gets C0.1 C0.2.1 hZ hS (own := "java/lang/String") (by rw [← hy]; exact C0.2.2.2.1) (C0.2.2.2.2.1 _ (TW_tb 764 (w := Cond.fieldLink "java/lang/String" 1053 "jdk/internal/util/Preconditions" "SIOOBE_FORMATTER" "Ljava/util/function/BiFunction;") rfl rfl)) (fun _ h => h) hdg ?_
    rw [← adT G (show 99 < 100 by decide)]
    exact k2 p e Rm s m args below meth c Qt C0 hret H locs ls hH hS hl
theorem R_sbld {i : Nat} {v j : Int32} (hi : i < 6) (hj : vp_in j (lenS.getD i 0)) (hv : (bytS.getD i []).getD j.toNatClampNeg 0 = v) (hdg : decode cc pc = .ok (.baload, 1)) (kk : R G l y cc nL ret d mc ms Q (pc + 1) lv (.int v :: st) w k n) : R G l y cc nL ret d mc ms Q pc lv (.int j :: .ref (1000100 + i) :: st) w k n := by
  intro p e Rm s m args below meth c Qt C0 hret H locs ls hH hS hl
  obtain ⟨-, -, -, hS4, -⟩ := C0.2.2.2.2.2.1
  have h9 := kk p e Rm s m args below meth c Qt C0 hret H locs ls hH hS hl
  show W p l e Rm s m args below meth c H locs k n Qt (F0 m pc ls (.int j :: .ref (ad G (1000100 + i)) :: st.map (tv G)))
  rw [adT G (show i < 100 by omega)]
  exact va_tb C0.1 C0.2.1 (hS4.1 i hi).2.2.2 hS hj (by rw [hv]; rfl) hdg h9
theorem R_callVS1 {va : Int32} {y2 : MethodName} {cc2 : ByteArray} {nL2 d2 index i : Nat} {ret2 : Option FieldType} {Q2 : Option Value → VW → Prop} (hi : i < 6)
    (hM : Sp G l y2 cc2 nL2 ret2 d2 0 0 [.ref (1000000 + i), .int va] w Q2) (hcode : Cond.code y2 cc2 nL2 ret2 ∈ TW) (hlink : Cond.methodLink y.cls index y2 ∈ TW) (hinst : Cond.instanceMethod y2 ∈ TW) (hsel : Cond.selects y2.cls y2 y2 ∈ TW) (hini : Cond.initialized y2.cls ∈ TW)
    (hd : y2.cls ≠ "java/lang/invoke/MethodHandle" ∧ y2.cls ≠ "java/lang/invoke/VarHandle" ∧ (parseMethodDescriptor y2.desc).map (fun d => d.parameters.length) = some 1)
    (hdl : d2 < d) (hnl : nL2 ≤ 21) (hk : k ≤ mc) (hn : n ≤ ms) (hst : (st.map fun v => v.category).sum ≤ 8) (hq : y2.cls = "java/lang/String")
    (hdg : decode cc pc = .ok (.invokevirtual index, 3)) (kk : ∀ (r : Option Value) (w' : VW), Q2 r w' → R G l y cc nL ret d mc ms Q (pc + 3) lv (r.toList ++ st) w' k n) : R G l y cc nL ret d mc ms Q pc lv (.int va :: .ref (1000000 + i) :: st) w k n := by
  intro p e Rm s m args below meth c Qt C0 hret H locs ls hH hS hl
  have hts := C0.2.2.2.2.1
  have hR := room_in hdl hnl C0.2.2.2.2.2.2.1 C0.2.2.2.2.2.2.2.1
  have hk3 := C0.2.2.2.2.2.2.2.2.1
  have hn3 := C0.2.2.2.2.2.2.2.2.2.1
  obtain ⟨-, -, -, hS4, -⟩ := C0.2.2.2.2.2.1
  have hrun := va_runV (e := e) (below := below) (meth := meth) (As := [.int va]) (rest := st.map (tv G)) (g := F0 m pc ls ((Value.int va :: .ref (1000000 + i) :: st).map (tv G))) (n := 1) (index := index) (cells := k) (slots := n) (locs := locs) (H := H) (C := y2.cls) (b := ad G (1000000 + i)) ⟨C0.1, C0.2.1, C0.2.2.1, C0.2.2.2.1, hts⟩ hM
    ⟨callB_of 1 hts (good_callee hcode) rfl rfl rfl (hts _ hini) (hts _ hlink) hd hR, hts _ hinst, hts _ hsel⟩
    ⟨Qm_blind, by have := vk_recv hS4 hi hS; rw [hq, adS G (show i < 100 by omega)]; exact this, fun U hU hW => ⟨rfl, by rw [hU]; exact hH, K9_at C0.2.2.2.2.2.1 hS hU hW⟩⟩ rfl rfl hl.1 rfl (lv_room (by rw [tv_cats]; exact hst)) hdg ⟨by omega, by omega⟩
  refine call_go hrun hS (fun r w' H1 locs1 hq2 hp2 hS2 => ?_)
  have h9 := kk r w' hq2 p e Rm s m args below meth c Qt C0 hret H1 locs1 ls hp2 hS2 hl
  rw [List.map_append] at h9
  cases r <;> exact h9
end STR2
theorem dJ3_checkIndex_8e157_0 : decode cJ3_checkIndex_8e157 0 = .ok (.iload_n 0, 1) := by decide +kernel
theorem dJ3_checkIndex_8e157_1 : decode cJ3_checkIndex_8e157 1 = .ok (.ifCond .lt 8, 3) := by decide +kernel
theorem dJ3_checkIndex_8e157_4 : decode cJ3_checkIndex_8e157 4 = .ok (.iload_n 0, 1) := by decide +kernel
theorem dJ3_checkIndex_8e157_5 : decode cJ3_checkIndex_8e157 5 = .ok (.iload_n 1, 1) := by decide +kernel
theorem dJ3_checkIndex_8e157_6 : decode cJ3_checkIndex_8e157 6 = .ok (.if_icmp .lt 10, 3) := by decide +kernel
theorem dJ3_checkIndex_8e157_16 : decode cJ3_checkIndex_8e157 16 = .ok (.iload_n 0, 1) := by decide +kernel
theorem dJ3_checkIndex_8e157_17 : decode cJ3_checkIndex_8e157 17 = .ok (.ireturn, 1) := by decide +kernel
theorem dJ0_checkIndex_df160_0 : decode cJ0_checkIndex_df160 0 = .ok (.iload_n 0, 1) := by decide +kernel
theorem dJ0_checkIndex_df160_1 : decode cJ0_checkIndex_df160 1 = .ok (.iload_n 1, 1) := by decide +kernel
theorem dJ0_checkIndex_df160_2 : decode cJ0_checkIndex_df160 2 = .ok (.getstatic 1053, 3) := by decide +kernel
theorem dJ0_checkIndex_df160_5 : decode cJ0_checkIndex_df160 5 = .ok (.invokestatic 1059, 3) := by decide +kernel
theorem dJ0_checkIndex_df160_8 : decode cJ0_checkIndex_df160 8 = .ok (.pop, 1) := by decide +kernel
theorem dJ0_checkIndex_df160_9 : decode cJ0_checkIndex_df160 9 = .ok (.return_, 1) := by decide +kernel
theorem dJ1_charAt_3b067_0 : decode cJ1_charAt_3b067 0 = .ok (.iload_n 1, 1) := by decide +kernel
theorem dJ1_charAt_3b067_1 : decode cJ1_charAt_3b067 1 = .ok (.aload_n 0, 1) := by decide +kernel
theorem dJ1_charAt_3b067_2 : decode cJ1_charAt_3b067 2 = .ok (.arraylength, 1) := by decide +kernel
theorem dJ1_charAt_3b067_3 : decode cJ1_charAt_3b067 3 = .ok (.invokestatic 9, 3) := by decide +kernel
theorem dJ1_charAt_3b067_6 : decode cJ1_charAt_3b067 6 = .ok (.aload_n 0, 1) := by decide +kernel
theorem dJ1_charAt_3b067_7 : decode cJ1_charAt_3b067 7 = .ok (.iload_n 1, 1) := by decide +kernel
theorem dJ1_charAt_3b067_8 : decode cJ1_charAt_3b067 8 = .ok (.baload, 1) := by decide +kernel
theorem dJ1_charAt_3b067_9 : decode cJ1_charAt_3b067 9 = .ok (.sipush 255, 3) := by decide +kernel
theorem dJ1_charAt_3b067_12 : decode cJ1_charAt_3b067 12 = .ok (.iand, 1) := by decide +kernel
theorem dJ1_charAt_3b067_13 : decode cJ1_charAt_3b067 13 = .ok (.i2c, 1) := by decide +kernel
theorem dJ1_charAt_3b067_14 : decode cJ1_charAt_3b067 14 = .ok (.ireturn, 1) := by decide +kernel
theorem dJ0_isLatin1_aae02_0 : decode cJ0_isLatin1_aae02 0 = .ok (.getstatic 38, 3) := by decide +kernel
theorem dJ0_isLatin1_aae02_3 : decode cJ0_isLatin1_aae02 3 = .ok (.ifCond .eq 14, 3) := by decide +kernel
theorem dJ0_isLatin1_aae02_6 : decode cJ0_isLatin1_aae02 6 = .ok (.aload_n 0, 1) := by decide +kernel
theorem dJ0_isLatin1_aae02_7 : decode cJ0_isLatin1_aae02 7 = .ok (.getfield 15, 3) := by decide +kernel
theorem dJ0_isLatin1_aae02_10 : decode cJ0_isLatin1_aae02 10 = .ok (.ifCond .ne 7, 3) := by decide +kernel
theorem dJ0_isLatin1_aae02_13 : decode cJ0_isLatin1_aae02 13 = .ok (.iconst 1, 1) := by decide +kernel
theorem dJ0_isLatin1_aae02_14 : decode cJ0_isLatin1_aae02 14 = .ok (.goto 4, 3) := by decide +kernel
theorem dJ0_isLatin1_aae02_18 : decode cJ0_isLatin1_aae02 18 = .ok (.ireturn, 1) := by decide +kernel
theorem dJ0_charAt_5068e_0 : decode cJ0_charAt_5068e 0 = .ok (.aload_n 0, 1) := by decide +kernel
theorem dJ0_charAt_5068e_1 : decode cJ0_charAt_5068e 1 = .ok (.invokevirtual 492, 3) := by decide +kernel
theorem dJ0_charAt_5068e_4 : decode cJ0_charAt_5068e 4 = .ok (.ifCond .eq 12, 3) := by decide +kernel
theorem dJ0_charAt_5068e_7 : decode cJ0_charAt_5068e 7 = .ok (.aload_n 0, 1) := by decide +kernel
theorem dJ0_charAt_5068e_8 : decode cJ0_charAt_5068e 8 = .ok (.getfield 9, 3) := by decide +kernel
theorem dJ0_charAt_5068e_11 : decode cJ0_charAt_5068e 11 = .ok (.iload_n 1, 1) := by decide +kernel
theorem dJ0_charAt_5068e_12 : decode cJ0_charAt_5068e 12 = .ok (.invokestatic 495, 3) := by decide +kernel
theorem dJ0_charAt_5068e_15 : decode cJ0_charAt_5068e 15 = .ok (.ireturn, 1) := by decide +kernel
set_option maxRecDepth 100000 in
theorem sp_chk3 {G : vG} {l : Launch} (w : VW) (a b : Int32) (v : Value) (hv : v = .null ∨ v = .ref 1000199) (h1 : ¬ a < 0) (h2 : a < b) : Sp G l yJ3_checkIndex_8e157 cJ3_checkIndex_8e157 3 (some .int) 0 0 0 [.int a, .int b, v] w (QI (fun x w2 => w2 = w ∧ x = a)) := by
  rcases hv with rfl | rfl
  · refine Sp_of_R [some (.int a), some (.int b), some (.null)] [] rfl (by simp) rfl (Nat.le_of_ble_eq_true rfl) ?_
    refine R_iload_n (pc := 0) dJ3_checkIndex_8e157_0 rfl rfl ?_
    refine R_iflt (pc := 1) 9 dJ3_checkIndex_8e157_1 (by decide) (fun h => absurd h h1) (fun _ => ?_)
    refine R_iload_n (pc := 4) dJ3_checkIndex_8e157_4 rfl rfl ?_
    refine R_iload_n (pc := 5) dJ3_checkIndex_8e157_5 rfl rfl ?_
    refine R_iclt (pc := 6) 16 dJ3_checkIndex_8e157_6 (by decide) (fun _ => ?_) (fun h => absurd h2 h)
    refine R_iload_n (pc := 16) dJ3_checkIndex_8e157_16 rfl rfl ?_
    exact R_iret (pc := 17) dJ3_checkIndex_8e157_17 rfl rfl (Nat.zero_le _) (Nat.zero_le _) ⟨_, rfl, rfl, rfl⟩
  · refine Sp_of_R [some (.int a), some (.int b), some (.ref 1000199)] [] rfl (by simp) rfl (Nat.le_of_ble_eq_true rfl) ?_
    refine R_iload_n (pc := 0) dJ3_checkIndex_8e157_0 rfl rfl ?_
    refine R_iflt (pc := 1) 9 dJ3_checkIndex_8e157_1 (by decide) (fun h => absurd h h1) (fun _ => ?_)
    refine R_iload_n (pc := 4) dJ3_checkIndex_8e157_4 rfl rfl ?_
    refine R_iload_n (pc := 5) dJ3_checkIndex_8e157_5 rfl rfl ?_
    refine R_iclt (pc := 6) 16 dJ3_checkIndex_8e157_6 (by decide) (fun _ => ?_) (fun h => absurd h2 h)
    refine R_iload_n (pc := 16) dJ3_checkIndex_8e157_16 rfl rfl ?_
    exact R_iret (pc := 17) dJ3_checkIndex_8e157_17 rfl rfl (Nat.zero_le _) (Nat.zero_le _) ⟨_, rfl, rfl, rfl⟩
set_option maxRecDepth 100000 in
theorem sp_chk {G : vG} {l : Launch} (w : VW) (a b : Int32) (h1 : ¬ a < 0) (h2 : a < b) : Sp G l yJ0_checkIndex_df160 cJ0_checkIndex_df160 2 none 1 0 0 [.int a, .int b] w (QV (fun w2 => w2 = w)) := by
  refine Sp_of_R [some (.int a), some (.int b)] [] rfl (by simp) rfl (Nat.le_of_ble_eq_true rfl) ?_
  refine R_iload_n (pc := 0) dJ0_checkIndex_df160_0 rfl rfl ?_
  refine R_iload_n (pc := 1) dJ0_checkIndex_df160_1 rfl rfl ?_
  refine R_szq (pc := 2) rfl dJ0_checkIndex_df160_2 ?_ ?_
  · refine R_callS (pc := 5) (as := [.int a, .int b, .null]) (sp_chk3 w a b _ (Or.inl rfl) h1 h2) (TW_t4 48 rfl rfl) (TW_t4 46 rfl rfl) (TW_t4 47 rfl rfl) (TW_t1 16 rfl rfl) ⟨by decide, by decide, by rfl⟩ (by decide) (by decide) (Nat.le_refl _) (Nat.le_refl _) (Nat.zero_le _) dJ0_checkIndex_df160_5 ?_
    rintro r w2 ⟨x, rfl, rfl, rfl⟩
    refine R_pop (pc := 8) dJ0_checkIndex_df160_8 rfl ?_
    exact R_vret (pc := 9) dJ0_checkIndex_df160_9 rfl (Nat.zero_le _) (Nat.zero_le _) ⟨rfl, rfl⟩
  · refine R_callS (pc := 5) (as := [.int a, .int b, .ref 1000199]) (sp_chk3 w a b _ (Or.inr rfl) h1 h2) (TW_t4 48 rfl rfl) (TW_t4 46 rfl rfl) (TW_t4 47 rfl rfl) (TW_t1 16 rfl rfl) ⟨by decide, by decide, by rfl⟩ (by decide) (by decide) (Nat.le_refl _) (Nat.le_refl _) (Nat.zero_le _) dJ0_checkIndex_df160_5 ?_
    rintro r w2 ⟨x, rfl, rfl, rfl⟩
    refine R_pop (pc := 8) dJ0_checkIndex_df160_8 rfl ?_
    exact R_vret (pc := 9) dJ0_checkIndex_df160_9 rfl (Nat.zero_le _) (Nat.zero_le _) ⟨rfl, rfl⟩
set_option maxRecDepth 100000 in
theorem sp_isL {G : vG} {l : Launch} (w : VW) (i : Nat) (hi : i < 6) : Sp G l yJ0_isLatin1_aae02 cJ0_isLatin1_aae02 1 (some .boolean) 0 0 0 [.ref (1000000 + i)] w (QI (fun x w2 => w2 = w ∧ x = 1)) := by
  refine Sp_of_R [(some (.ref (1000000 + i)))] [] rfl (by simp) rfl (Nat.le_of_ble_eq_true rfl) ?_
  refine R_scomp (pc := 0) rfl dJ0_isLatin1_aae02_0 ?_
  refine R_ifeq (pc := 3) 17 dJ0_isLatin1_aae02_3 (by decide) (fun h => absurd h (by decide)) (fun _ => ?_)
  refine R_aload_n (pc := 6) dJ0_isLatin1_aae02_6 rfl rfl ?_
  refine R_scod (pc := 7) hi rfl dJ0_isLatin1_aae02_7 ?_
  refine R_ifne (pc := 10) 17 dJ0_isLatin1_aae02_10 (by decide) (fun h => absurd rfl h) (fun _ => ?_)
  refine R_iconst (pc := 13) (v := 1) dJ0_isLatin1_aae02_13 (by decide) ?_
  refine R_goto (pc := 14) 18 dJ0_isLatin1_aae02_14 (by decide) ?_
  exact R_iret (pc := 18) dJ0_isLatin1_aae02_18 rfl rfl (Nat.zero_le _) (Nat.zero_le _) ⟨_, rfl, rfl, rfl⟩
set_option maxRecDepth 100000 in
theorem sp_ch1 {G : vG} {l : Launch} (w : VW) (i : Nat) (j N v x : Int32) (hi : i < 6) (hN : Int32.ofNat (lenS.getD i 0) = N) (h1 : ¬ j < 0) (h2 : j < N) (hj : vp_in j (lenS.getD i 0)) (hv : (bytS.getD i []).getD j.toNatClampNeg 0 = v) (hx : (((v &&& 255).toUInt32 % 65536).toInt32) = x) (hnr : narrow .char (.int x) = .int x) : Sp G l yJ1_charAt_3b067 cJ1_charAt_3b067 2 (some .char) 2 0 0 [.ref (1000100 + i), .int j] w (QI (fun z w2 => w2 = w ∧ z = x)) := by
  refine Sp_of_R [some (.ref (1000100 + i)), some (.int j)] [] rfl (by simp) rfl (Nat.le_of_ble_eq_true rfl) ?_
  refine R_iload_n (pc := 0) dJ1_charAt_3b067_0 rfl rfl ?_
  refine R_aload_n (pc := 1) dJ1_charAt_3b067_1 rfl rfl ?_
  refine R_sblen (pc := 2) hi hN dJ1_charAt_3b067_2 ?_
  refine R_callS (pc := 3) (as := [.int j, .int N]) (sp_chk w j N h1 h2) (TW_t4 43 rfl rfl) (TW_t4 41 rfl rfl) (TW_t4 42 rfl rfl) (TW_t1 14 rfl rfl) ⟨by decide, by decide, by rfl⟩ (by decide) (by decide) (Nat.le_refl _) (Nat.le_refl _) (Nat.zero_le _) dJ1_charAt_3b067_3 ?_
  rintro r w2 ⟨rfl, rfl⟩
  refine R_aload_n (pc := 6) dJ1_charAt_3b067_6 rfl rfl ?_
  refine R_iload_n (pc := 7) dJ1_charAt_3b067_7 rfl rfl ?_
  refine R_sbld (pc := 8) hi hj hv dJ1_charAt_3b067_8 ?_
  refine R_sipush (pc := 9) (v := 255) dJ1_charAt_3b067_9 (by decide) ?_
  refine R_iand (pc := 12) dJ1_charAt_3b067_12 ?_
  refine R_i2c (pc := 13) dJ1_charAt_3b067_13 ?_
  refine R_cv x hx ?_
  exact R_iret (pc := 14) dJ1_charAt_3b067_14 rfl hnr (Nat.zero_le _) (Nat.zero_le _) ⟨_, rfl, rfl, rfl⟩
set_option maxRecDepth 100000 in
theorem sp_chr {G : vG} {l : Launch} (w : VW) (i : Nat) (j N v x : Int32) (hi : i < 6) (hN : Int32.ofNat (lenS.getD i 0) = N) (h1 : ¬ j < 0) (h2 : j < N) (hj : vp_in j (lenS.getD i 0)) (hv : (bytS.getD i []).getD j.toNatClampNeg 0 = v) (hx : (((v &&& 255).toUInt32 % 65536).toInt32) = x) (hnr : narrow .char (.int x) = .int x) : Sp G l yJ0_charAt_5068e cJ0_charAt_5068e 2 (some .char) 3 0 0 [.ref (1000000 + i), .int j] w (QI (fun z w2 => w2 = w ∧ z = x)) := by
  refine Sp_of_R [some (.ref (1000000 + i)), some (.int j)] [] rfl (by simp) rfl (Nat.le_of_ble_eq_true rfl) ?_
  refine R_aload_n (pc := 0) dJ0_charAt_5068e_0 rfl rfl ?_
  refine R_callVS (pc := 1) hi (sp_isL w i hi) (TW_t4 37 rfl rfl) (TW_t4 34 rfl rfl) (TW_t4 35 rfl rfl) (TW_t4 36 rfl rfl) (TW_t1 14 rfl rfl) ⟨by decide, by decide, by rfl⟩ (by decide) (by decide) (Nat.le_refl _) (Nat.le_refl _) (Nat.zero_le _) rfl dJ0_charAt_5068e_1 ?_
  rintro r w2 ⟨z, rfl, rfl, rfl⟩
  refine R_ifeq (pc := 4) 16 dJ0_charAt_5068e_4 (by decide) (fun h => absurd h (by decide)) (fun _ => ?_)
  refine R_aload_n (pc := 7) dJ0_charAt_5068e_7 rfl rfl ?_
  refine R_sval (pc := 8) hi rfl dJ0_charAt_5068e_8 ?_
  refine R_iload_n (pc := 11) dJ0_charAt_5068e_11 rfl rfl ?_
  refine R_callS (pc := 12) (as := [.ref (1000100 + i), .int j]) (sp_ch1 w2 i j N v x hi hN h1 h2 hj hv hx hnr) (TW_t4 40 rfl rfl) (TW_t4 38 rfl rfl) (TW_t4 39 rfl rfl) (TW_t1 15 rfl rfl) ⟨by decide, by decide, by rfl⟩ (by decide) (by decide) (Nat.le_refl _) (Nat.le_refl _) (Nat.zero_le _) dJ0_charAt_5068e_12 ?_
  rintro r w2 ⟨z, rfl, rfl, rfl⟩
  exact R_iret (pc := 15) dJ0_charAt_5068e_15 rfl hnr (Nat.zero_le _) (Nat.zero_le _) ⟨_, rfl, rfl, rfl⟩
set_option maxRecDepth 100000 in
/-- a letter of a text, asked by the reader -/
theorem k_chr {G : vG} {l : Launch} {y : MethodName} {cc : ByteArray} {nL : Nat} {ret : Option FieldType} {d mc ms : Nat} {Q : Option Value → VW → Prop} {pc : Nat} {lv : List (Option Value)} {st : List Value} {w : VW} {k n i : Nat} {j : Int32} (N v x : Int32) (hi : i < 6) (hN : Int32.ofNat (lenS.getD i 0) = N) (h1 : ¬ j < 0) (h2 : j < N) (hj : vp_in j (lenS.getD i 0)) (hv : (bytS.getD i []).getD j.toNatClampNeg 0 = v) (hx : (((v &&& 255).toUInt32 % 65536).toInt32) = x) (hnr : narrow .char (.int x) = .int x) (hy : y.cls = "ViewCards$Reader") (hdl : 3 < d) (hk : k ≤ mc) (hn : n ≤ ms) (hst : (st.map fun v => v.category).sum ≤ 8)
    (hdg : decode cc pc = .ok (.invokevirtual 97, 3)) (kk : R G l y cc nL ret d mc ms Q (pc + 3) lv (.int x :: st) w k n) : R G l y cc nL ret d mc ms Q pc lv (.int j :: .ref (1000000 + i) :: st) w k n := by
  refine R_callVS1 hi (sp_chr w i j N v x hi hN h1 h2 hj hv hx hnr) (TW_t4 33 rfl rfl) (by rw [hy]; exact (TW_t4 30 rfl rfl)) (TW_t4 31 rfl rfl) (TW_t4 32 rfl rfl) (TW_t1 14 rfl rfl) ⟨by decide, by decide, by rfl⟩ hdl (by decide) hk hn hst rfl hdg ?_
  rintro r w2 ⟨z, rfl, rfl, rfl⟩
  exact kk
