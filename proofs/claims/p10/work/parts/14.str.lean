/-! the reader's six texts: how long they are -/
section STR
variable {G : vG} {l : Launch} {y : MethodName} {cc : ByteArray} {nL : Nat} {ret : Option FieldType} {d mc ms : Nat} {Q : Option Value → VW → Prop} {pc : Nat} {lv : List (Option Value)} {st : List Value} {w : VW} {k n : Nat}
theorem R_sval {i : Nat} (hi : i < 6) (hy : y.cls = "java/lang/String") (hdg : decode cc pc = .ok (.getfield 9, 3)) (kk : R G l y cc nL ret d mc ms Q (pc + 3) lv (.ref (1000100 + i) :: st) w k n) : R G l y cc nL ret d mc ms Q pc lv (.ref (1000000 + i) :: st) w k n := by
  intro p e Rm s m args below meth c Qt C0 hret H locs ls hH hS hl
  obtain ⟨-, -, -, hS4, -⟩ := C0.2.2.2.2.2.1
  have h9 := kk p e Rm s m args below meth c Qt C0 hret H locs ls hH hS hl
  have h8 : W p l e Rm s m args below meth c H locs k n Qt (F0 m (pc + 3) ls (.ref (gV G i) :: st.map (tv G))) := by
    rw [← adT G (show i < 100 by omega)]
    exact h9
  show W p l e Rm s m args below meth c H locs k n Qt (F0 m pc ls (.ref (ad G (1000000 + i)) :: st.map (tv G)))
  rw [adS G (show i < 100 by omega)]
  exact vk_getf C0.1 C0.2.1 (hS4.1 i hi).2.2.1 hS (own := "java/lang/String") (by rw [← hy]; exact C0.2.2.2.1) (C0.2.2.2.2.1 _ (TW_tb 1272 (w := Cond.fieldLink "java/lang/String" 9 "java/lang/String" "value" "[B") (by decide +kernel) (by decide +kernel))) (fun _ h => h) hdg h8
theorem R_scod {i : Nat} (hi : i < 6) (hy : y.cls = "java/lang/String") (hdg : decode cc pc = .ok (.getfield 15, 3)) (kk : R G l y cc nL ret d mc ms Q (pc + 3) lv (.int 0 :: st) w k n) : R G l y cc nL ret d mc ms Q pc lv (.ref (1000000 + i) :: st) w k n := by
  intro p e Rm s m args below meth c Qt C0 hret H locs ls hH hS hl
  obtain ⟨-, -, -, hS4, -⟩ := C0.2.2.2.2.2.1
  have h9 := kk p e Rm s m args below meth c Qt C0 hret H locs ls hH hS hl
  show W p l e Rm s m args below meth c H locs k n Qt (F0 m pc ls (.ref (ad G (1000000 + i)) :: st.map (tv G)))
  rw [adS G (show i < 100 by omega)]
  exact vk_getf C0.1 C0.2.1 (hS4.1 i hi).2.1 hS (own := "java/lang/String") (by rw [← hy]; exact C0.2.2.2.1) (C0.2.2.2.2.1 _ (TW_tb 1273 (w := Cond.fieldLink "java/lang/String" 15 "java/lang/String" "coder" "B") (by decide +kernel) (by decide +kernel))) (fun _ h => h) hdg h9
theorem R_scomp (hy : y.cls = "java/lang/String") (hdg : decode cc pc = .ok (.getstatic 38, 3)) (kk : R G l y cc nL ret d mc ms Q (pc + 3) lv (.int 1 :: st) w k n) : R G l y cc nL ret d mc ms Q pc lv st w k n := by
  intro p e Rm s m args below meth c Qt C0 hret H locs ls hH hS hl
  obtain ⟨-, -, -, -, hZ, -⟩ := C0.2.2.2.2.2.1
  exact va_gets C0.1 C0.2.1 hZ hS (own := "java/lang/String") (by rw [← hy]; exact C0.2.2.2.1) (C0.2.2.2.2.1 _ (TW_tb 748 (w := Cond.fieldLink "java/lang/String" 38 "java/lang/String" "COMPACT_STRINGS" "Z") (by decide +kernel) (by decide +kernel))) (fun _ h => h) hdg (kk p e Rm s m args below meth c Qt C0 hret H locs ls hH hS hl)
theorem R_sblen {i : Nat} {v : Int32} (hi : i < 6) (hv : Int32.ofNat (lenS.getD i 0) = v) (hdg : decode cc pc = .ok (.arraylength, 1)) (kk : R G l y cc nL ret d mc ms Q (pc + 1) lv (.int v :: st) w k n) : R G l y cc nL ret d mc ms Q pc lv (.ref (1000100 + i) :: st) w k n := by
  intro p e Rm s m args below meth c Qt C0 hret H locs ls hH hS hl
  obtain ⟨-, -, -, hS4, -⟩ := C0.2.2.2.2.2.1
  have h9 := kk p e Rm s m args below meth c Qt C0 hret H locs ls hH hS hl
  show W p l e Rm s m args below meth c H locs k n Qt (F0 m pc ls (.ref (ad G (1000100 + i)) :: st.map (tv G)))
  rw [adT G (show i < 100 by omega)]
  exact va_tlen C0.1 C0.2.1 (hS4.1 i hi).2.2.2 hS hv hdg h9
theorem R_callVS {y2 : MethodName} {cc2 : ByteArray} {nL2 d2 index i : Nat} {ret2 : Option FieldType} {Q2 : Option Value → VW → Prop} (hi : i < 6)
    (hM : Sp G l y2 cc2 nL2 ret2 d2 0 0 [.ref (1000000 + i)] w Q2) (hcode : Cond.code y2 cc2 nL2 ret2 ∈ TW) (hlink : Cond.methodLink y.cls index y2 ∈ TW) (hinst : Cond.instanceMethod y2 ∈ TW) (hsel : Cond.selects y2.cls y2 y2 ∈ TW) (hini : Cond.initialized y2.cls ∈ TW)
    (hd : y2.cls ≠ "java/lang/invoke/MethodHandle" ∧ y2.cls ≠ "java/lang/invoke/VarHandle" ∧ (parseMethodDescriptor y2.desc).map (fun d => d.parameters.length) = some 0)
    (hdl : d2 < d) (hnl : nL2 ≤ 21) (hk : k ≤ mc) (hn : n ≤ ms) (hst : (st.map fun v => v.category).sum ≤ 8) (hq : y2.cls = "java/lang/String")
    (hdg : decode cc pc = .ok (.invokevirtual index, 3)) (kk : ∀ (r : Option Value) (w' : VW), Q2 r w' → R G l y cc nL ret d mc ms Q (pc + 3) lv (r.toList ++ st) w' k n) : R G l y cc nL ret d mc ms Q pc lv (.ref (1000000 + i) :: st) w k n := by
  intro p e Rm s m args below meth c Qt C0 hret H locs ls hH hS hl
  have hts := C0.2.2.2.2.1
  have hR := room_in hdl hnl C0.2.2.2.2.2.2.1 C0.2.2.2.2.2.2.2.1
  have hk3 := C0.2.2.2.2.2.2.2.2.1
  have hn3 := C0.2.2.2.2.2.2.2.2.2.1
  obtain ⟨-, -, -, hS4, -⟩ := C0.2.2.2.2.2.1
  have hrun := va_runV (e := e) (below := below) (meth := meth) (As := []) (rest := st.map (tv G)) (g := F0 m pc ls ((Value.ref (1000000 + i) :: st).map (tv G))) (n := 0) (index := index) (cells := k) (slots := n) (locs := locs) (H := H) (C := y2.cls) (b := ad G (1000000 + i)) ⟨C0.1, C0.2.1, C0.2.2.1, C0.2.2.2.1, hts⟩ hM
    ⟨callB_of 0 hts (good_callee hcode) rfl rfl rfl (hts _ hini) (hts _ hlink) hd hR, hts _ hinst, hts _ hsel⟩
    ⟨Qm_blind, by have := vk_recv hS4 hi hS; rw [hq, adS G (show i < 100 by omega)]; exact this, fun U hU hW => ⟨rfl, by rw [hU]; exact hH, K9_at C0.2.2.2.2.2.1 hS hU hW⟩⟩ rfl rfl hl.1 rfl (lv_room (by rw [tv_cats]; exact hst)) hdg ⟨by omega, by omega⟩
  refine call_go hrun hS (fun r w' H1 locs1 hq2 hp2 hS2 => ?_)
  have h9 := kk r w' hq2 p e Rm s m args below meth c Qt C0 hret H1 locs1 ls hp2 hS2 hl
  rw [List.map_append] at h9
  cases r <;> exact h9
end STR
def yStrCoder : MethodName := ⟨"java/lang/String", "coder", "()B"⟩
def yStrLength : MethodName := ⟨"java/lang/String", "length", "()I"⟩
theorem dsc_0 : decode prog_15_method_152_code 0 = .ok (.getstatic 38, 3) := by decide +kernel
theorem dsc_3 : decode prog_15_method_152_code 3 = .ok (.ifCond .eq 10, 3) := by decide +kernel
theorem dsc_6 : decode prog_15_method_152_code 6 = .ok (.aload_n 0, 1) := by decide +kernel
theorem dsc_7 : decode prog_15_method_152_code 7 = .ok (.getfield 15, 3) := by decide +kernel
theorem dsc_10 : decode prog_15_method_152_code 10 = .ok (.goto 4, 3) := by decide +kernel
theorem dsc_14 : decode prog_15_method_152_code 14 = .ok (.ireturn, 1) := by decide +kernel
theorem dsl_0 : decode prog_15_method_54_code 0 = .ok (.aload_n 0, 1) := by decide +kernel
theorem dsl_1 : decode prog_15_method_54_code 1 = .ok (.getfield 9, 3) := by decide +kernel
theorem dsl_4 : decode prog_15_method_54_code 4 = .ok (.arraylength, 1) := by decide +kernel
theorem dsl_5 : decode prog_15_method_54_code 5 = .ok (.aload_n 0, 1) := by decide +kernel
theorem dsl_6 : decode prog_15_method_54_code 6 = .ok (.invokevirtual 335, 3) := by decide +kernel
theorem dsl_9 : decode prog_15_method_54_code 9 = .ok (.ishr, 1) := by decide +kernel
theorem dsl_10 : decode prog_15_method_54_code 10 = .ok (.ireturn, 1) := by decide +kernel
set_option maxRecDepth 100000 in
theorem sp_coder {G : vG} {l : Launch} (w : VW) (i : Nat) (hi : i < 6) : Sp G l yStrCoder prog_15_method_152_code 1 (some .byte) 0 0 0 [.ref (1000000 + i)] w (QI (fun x w2 => w2 = w ∧ x = 0)) := by
  refine Sp_of_R [(some (.ref (1000000 + i)))] [] rfl (by simp) rfl (Nat.le_of_ble_eq_true rfl) ?_
  refine R_scomp (pc := 0) rfl dsc_0 ?_
  refine R_ifeq (pc := 3) 13 dsc_3 (by decide) (fun h => absurd h (by decide)) (fun _ => ?_)
  refine R_aload_n (pc := 6) dsc_6 rfl rfl ?_
  refine R_scod (pc := 7) hi rfl dsc_7 ?_
  refine R_goto (pc := 10) 14 dsc_10 (by decide) ?_
  exact R_iret (pc := 14) dsc_14 rfl rfl (Nat.zero_le _) (Nat.zero_le _) ⟨_, rfl, rfl, rfl⟩
set_option maxRecDepth 100000 in
theorem sp_length {G : vG} {l : Launch} (w : VW) (i : Nat) (hi : i < 6) : Sp G l yStrLength prog_15_method_54_code 1 (some .int) 1 0 0 [.ref (1000000 + i)] w (QI (fun x w2 => w2 = w ∧ x = Int32.ofNat (lenS.getD i 0) >>> (0 &&& 31))) := by
  refine Sp_of_R [(some (.ref (1000000 + i)))] [] rfl (by simp) rfl (Nat.le_of_ble_eq_true rfl) ?_
  refine R_aload_n (pc := 0) dsl_0 rfl rfl ?_
  refine R_sval (pc := 1) hi rfl dsl_1 ?_
  refine R_sblen (pc := 4) hi rfl dsl_4 ?_
  refine R_aload_n (pc := 5) dsl_5 rfl rfl ?_
  refine R_callVS (pc := 6) hi (sp_coder w i hi) (TW_tb 747 (by decide +kernel) (by decide +kernel)) (TW_tb 744 (by decide +kernel) (by decide +kernel)) (TW_tb 745 (by decide +kernel) (by decide +kernel)) (TW_tb 746 (by decide +kernel) (by decide +kernel)) (TW_tb 14 (by decide +kernel) (by decide +kernel)) ⟨by decide, by decide, by rfl⟩ (by decide) (by decide) (Nat.le_refl _) (Nat.le_refl _) (Nat.le_of_ble_eq_true rfl) rfl dsl_6 ?_
  rintro r w2 ⟨x, rfl, rfl, rfl⟩
  refine R_ishr (pc := 9) dsl_9 ?_
  exact R_iret (pc := 10) dsl_10 rfl rfl (Nat.zero_le _) (Nat.zero_le _) ⟨_, rfl, rfl, rfl⟩
/-- a text's length, asked by the reader -/
theorem k_len {G : vG} {l : Launch} {y : MethodName} {cc : ByteArray} {nL : Nat} {ret : Option FieldType} {d mc ms : Nat} {Q : Option Value → VW → Prop} {pc : Nat} {lv : List (Option Value)} {st : List Value} {w : VW} {k n i : Nat} (v : Int32) (hi : i < 6) (hv : Int32.ofNat (lenS.getD i 0) >>> (0 &&& 31) = v) (hy : y.cls = "ViewCards$Reader") (hdl : 1 < d) (hk : k ≤ mc) (hn : n ≤ ms) (hst : (st.map fun v => v.category).sum ≤ 8)
    (hdg : decode cc pc = .ok (.invokevirtual 92, 3)) (kk : R G l y cc nL ret d mc ms Q (pc + 3) lv (.int v :: st) w k n) : R G l y cc nL ret d mc ms Q pc lv (.ref (1000000 + i) :: st) w k n := by
  refine R_callVS hi (sp_length w i hi) (TW_tb 743 (by decide +kernel) (by decide +kernel)) (by rw [hy]; exact TW_tb 740 (by decide +kernel) (by decide +kernel)) (TW_tb 741 (by decide +kernel) (by decide +kernel)) (TW_tb 742 (by decide +kernel) (by decide +kernel)) (TW_tb 14 (by decide +kernel) (by decide +kernel)) ⟨by decide, by decide, by rfl⟩ hdl (by decide) hk hn hst rfl hdg ?_
  rintro r w2 ⟨x, rfl, rfl, rfl⟩
  rw [hv]
  exact kk
