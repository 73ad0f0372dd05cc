/-! calls, new objects, new arrays, Math -/
theorem tv_app (G : vG) (as st : List Value) : (as.reverse ++ st).map (tv G) = (as.map (tv G)).reverse ++ st.map (tv G) := by
  rw [List.map_append, List.map_reverse]
theorem Qm_blind {G : vG} {as : List Value} {w : VW} : FrameBlind (va_Pc (as.map (tv G)) (fun U => hpOK G w U.heap ∧ K9 G U U.heap)) := fun a U g mk q => ⟨q.1, q.2.1, q.2.2.call g mk a⟩
section CALLS
variable {G : vG} {l : Launch} {y : MethodName} {cc : ByteArray} {nL : Nat} {ret : Option FieldType} {d mc ms : Nat} {Q : Option Value → VW → Prop} {pc : Nat} {lv : List (Option Value)} {st : List Value} {w : VW} {k n : Nat}
theorem call_go {p : Program} {e : Env} {Rm : Room} {s : State} {m : MethodId} {args : Array Value} {below : List Frame} {meth : Method} {c : Code} {Qt : State → Prop} {H : Heap} {locs : List Loc} {k n mc2 ms2 : Nat} {ls : Array Slot} {st0 rest : List Value} {Q2 : Option Value → VW → Prop} {a : Array Value}
    (hr : va_Run p l e Rm s m args below meth c H locs k n mc2 ms2 (F0 m pc ls st0) rest (Qm G Q2 a) (Ar G)) (hS : va_S (Ar G) s.heap H locs)
    (kk : ∀ (r : Option Value) (w' : VW) (H1 : Heap) (locs1 : List Loc), Q2 r w' → hpOK G w' H1 → va_S (Ar G) s.heap H1 locs1 → W p l e Rm s m args below meth c H1 locs1 (k + mc2) (n + ms2) Qt (F0 m (pc + 3) ls ((r.map (tv G)).toList ++ rest))) : W p l e Rm s m args below meth c H locs k n Qt (F0 m pc ls st0) := by
  intro T hT X
  obtain ⟨v, st₀, t, T', L, h0, X', hL, e1, e2, ⟨⟨r, w', hv, hq, hp⟩, hz, hk⟩, stp⟩ := hr T hT X
  cases hv
  rw [h0] at hz hk
  obtain ⟨t2, a1, b1⟩ := kk r w' T'.heap (locs ++ L) hq (by rw [e1]; exact hp) ⟨Nat.le_trans hS.1 (by rw [e1]; exact hz), fun q h1 h2 => by rw [e1, hk q (Nat.lt_of_lt_of_le h1 hS.1) h2]; exact hS.2.1 q h1 h2, fun q hq => by
      rcases List.mem_append.mp hq with h | h
      · exact hS.2.2 q h
      · exact hL q h⟩ T' rfl X'
  exact ⟨t2, stp t2 a1, b1⟩
theorem K9_at {s U : State} {G : vG} {H : Heap} {locs : List Loc} (h : K9 G s s.heap) (hS : va_S (Ar G) s.heap H locs) (hU : U.heap = H) (hW : s.WarmedH U.vm) : K9 G U U.heap := by
  rw [hU]
  exact h.go hW hS.1 hS.2.1
theorem good_callee {y2 : MethodName} {cc2 : ByteArray} {nL2 : Nat} {ret2 : Option FieldType} (h : Cond.code y2 cc2 nL2 ret2 ∈ TW) : GoodIn TW (.code y2 cc2 nL2 ret2 :: TW) := by
  intro w hw
  rcases List.mem_cons.mp hw with rfl | hw
  · exact ⟨h, TW_good _ h⟩
  · exact ⟨hw, TW_good _ hw⟩
/-- the room of a callee in its caller's -/
theorem room_in {d d2 nL2 : Nat} {Rm : Room} (h : d2 < d) (hn : nL2 ≤ 21) (h1 : d ≤ Rm.frames) (h2 : 40 * d ≤ Rm.locals) : d2 + 1 ≤ Rm.frames ∧ 8 + (nL2 + 11) + 40 * d2 ≤ Rm.locals := by omega
theorem R_callV {y2 : MethodName} {cc2 : ByteArray} {nL2 d2 mc2 ms2 index b ci : Nat} {ret2 : Option FieldType} {q : vw_C} {fs : List Value} {as : List Value} {Q2 : Option Value → VW → Prop}
    (hM : Sp G l y2 cc2 nL2 ret2 d2 mc2 ms2 (.ref b :: as) w Q2) (hcode : Cond.code y2 cc2 nL2 ret2 ∈ TW) (hlink : Cond.methodLink y.cls index y2 ∈ TW) (hinst : Cond.instanceMethod y2 ∈ TW) (hsel : Cond.selects y2.cls y2 y2 ∈ TW) (hini : Cond.initialized y2.cls ∈ TW)
    (hd : y2.cls ≠ "java/lang/invoke/MethodHandle" ∧ y2.cls ≠ "java/lang/invoke/VarHandle" ∧ (parseMethodDescriptor y2.desc).map (fun d => d.parameters.length) = some as.length)
    (hdl : d2 < d) (hnl : nL2 ≤ 21) (hk : k + mc2 ≤ mc) (hn : n + ms2 ≤ ms) (hst : (st.map fun v => v.category).sum ≤ 8) (hc : vwCl[ci]? = some q) (hq : q.1 = y2.cls) (he : w[b]? = some (.inr (ci, fs)))
    (hdg : decode cc pc = .ok (.invokevirtual index, 3)) (kk : ∀ (r : Option Value) (w' : VW), Q2 r w' → R G l y cc nL ret d mc ms Q (pc + 3) lv (r.toList ++ st) w' (k + mc2) (n + ms2)) : R G l y cc nL ret d mc ms Q pc lv (as.reverse ++ .ref b :: st) w k n := by
  intro p e Rm s m args below meth c Qt C0 hret H locs ls hH hS hl
  have hts := C0.2.2.2.2.1
  have hR := room_in hdl hnl C0.2.2.2.2.2.2.1 C0.2.2.2.2.2.2.2.1
  have hk3 := C0.2.2.2.2.2.2.2.2.1
  have hn3 := C0.2.2.2.2.2.2.2.2.2.1
  have hrun := va_runV (e := e) (below := below) (meth := meth) (As := as.map (tv G)) (rest := st.map (tv G)) (g := F0 m pc ls ((as.reverse ++ .ref b :: st).map (tv G))) (n := as.length) (index := index) (cells := k) (slots := n) (locs := locs) (H := H) (C := y2.cls) (b := ad G b) ⟨C0.1, C0.2.1, C0.2.2.1, C0.2.2.2.1, hts⟩ hM
    ⟨callB_of as.length hts (good_callee hcode) rfl rfl rfl (hts _ hini) (hts _ hlink) hd hR, hts _ hinst, hts _ hsel⟩
    ⟨Qm_blind, by have := va_recv C0.2.2.2.2.2.1.1 hH.2.2 hc (rw_get he); rw [hq] at this; exact this, fun U hU hW => ⟨rfl, by rw [hU]; exact hH, K9_at C0.2.2.2.2.2.1 hS hU hW⟩⟩ rfl (List.length_map _) hl.1 (tv_app G as (.ref b :: st)) (lv_room (by rw [tv_cats]; exact hst)) hdg ⟨by omega, by omega⟩
  refine call_go hrun hS (fun r w' H1 locs1 hq2 hp2 hS2 => ?_)
  have h9 := kk r w' hq2 p e Rm s m args below meth c Qt C0 hret H1 locs1 ls hp2 hS2 hl
  rw [List.map_append] at h9
  cases r <;> exact h9
theorem R_callS {y2 : MethodName} {cc2 : ByteArray} {nL2 d2 mc2 ms2 index : Nat} {ret2 : Option FieldType} {as : List Value} {Q2 : Option Value → VW → Prop}
    (hM : Sp G l y2 cc2 nL2 ret2 d2 mc2 ms2 as w Q2) (hcode : Cond.code y2 cc2 nL2 ret2 ∈ TW) (hlink : Cond.methodLink y.cls index y2 ∈ TW) (hstt : Cond.static y2 ∈ TW) (hini : Cond.initialized y2.cls ∈ TW)
    (hd : y2.cls ≠ "java/lang/invoke/MethodHandle" ∧ y2.cls ≠ "java/lang/invoke/VarHandle" ∧ (parseMethodDescriptor y2.desc).map (fun d => d.parameters.length) = some as.length)
    (hdl : d2 < d) (hnl : nL2 ≤ 21) (hk : k + mc2 ≤ mc) (hn : n + ms2 ≤ ms) (hst : (st.map fun v => v.category).sum ≤ 8)
    (hdg : decode cc pc = .ok (.invokestatic index, 3)) (kk : ∀ (r : Option Value) (w' : VW), Q2 r w' → R G l y cc nL ret d mc ms Q (pc + 3) lv (r.toList ++ st) w' (k + mc2) (n + ms2)) : R G l y cc nL ret d mc ms Q pc lv (as.reverse ++ st) w k n := by
  intro p e Rm s m args below meth c Qt C0 hret H locs ls hH hS hl
  have hts := C0.2.2.2.2.1
  have hR := room_in hdl hnl C0.2.2.2.2.2.2.1 C0.2.2.2.2.2.2.2.1
  have hk3 := C0.2.2.2.2.2.2.2.2.1
  have hn3 := C0.2.2.2.2.2.2.2.2.2.1
  have hrun := va_runS (e := e) (below := below) (meth := meth) (As := as.map (tv G)) (rest := st.map (tv G)) (g := F0 m pc ls ((as.reverse ++ st).map (tv G))) (n := as.length) (index := index) (cells := k) (slots := n) (locs := locs) (H := H) ⟨C0.1, C0.2.1, C0.2.2.1, C0.2.2.2.1, hts⟩ hM
    ⟨callB_of as.length hts (good_callee hcode) rfl rfl rfl (hts _ hini) (hts _ hlink) hd hR, hts _ hstt⟩
    ⟨Qm_blind, fun U hU hW => ⟨rfl, by rw [hU]; exact hH, K9_at C0.2.2.2.2.2.1 hS hU hW⟩⟩ rfl (List.length_map _) hl.1 (tv_app G as st) (lv_room (by rw [tv_cats]; exact hst)) hdg ⟨by omega, by omega⟩
  refine call_go hrun hS (fun r w' H1 locs1 hq2 hp2 hS2 => ?_)
  have h9 := kk r w' hq2 p e Rm s m args below meth c Qt C0 hret H1 locs1 ls hp2 hS2 hl
  rw [List.map_append] at h9
  cases r <;> exact h9
/-- a nest mate's private static method -/
theorem R_callSN {y2 : MethodName} {cc2 : ByteArray} {nL2 d2 mc2 ms2 index : Nat} {ret2 : Option FieldType} {as : List Value} {Q2 : Option Value → VW → Prop}
    (hM : Sp G l y2 cc2 nL2 ret2 d2 mc2 ms2 as w Q2) (hcode : Cond.code y2 cc2 nL2 ret2 ∈ TW) (hlink : (y.cls, index, y2) ∈ NWl) (hstt : Cond.static y2 ∈ TW) (hini : Cond.initialized y2.cls ∈ TW)
    (hd : y2.cls ≠ "java/lang/invoke/MethodHandle" ∧ y2.cls ≠ "java/lang/invoke/VarHandle" ∧ (parseMethodDescriptor y2.desc).map (fun d => d.parameters.length) = some as.length)
    (hdl : d2 < d) (hnl : nL2 ≤ 21) (hk : k + mc2 ≤ mc) (hn : n + ms2 ≤ ms) (hst : (st.map fun v => v.category).sum ≤ 8)
    (hdg : decode cc pc = .ok (.invokestatic index, 3)) (kk : ∀ (r : Option Value) (w' : VW), Q2 r w' → R G l y cc nL ret d mc ms Q (pc + 3) lv (r.toList ++ st) w' (k + mc2) (n + ms2)) : R G l y cc nL ret d mc ms Q pc lv (as.reverse ++ st) w k n := by
  intro p e Rm s m args below meth c Qt C0 hret H locs ls hH hS hl
  have hts := C0.2.2.2.2.1
  have hR := room_in hdl hnl C0.2.2.2.2.2.2.1 C0.2.2.2.2.2.2.2.1
  have hk3 := C0.2.2.2.2.2.2.2.2.1
  have hn3 := C0.2.2.2.2.2.2.2.2.2.1
  have hrun := va_runSN (e := e) (below := below) (meth := meth) (As := as.map (tv G)) (rest := st.map (tv G)) (g := F0 m pc ls ((as.reverse ++ st).map (tv G))) (n := as.length) (index := index) (cells := k) (slots := n) (locs := locs) (H := H) ⟨C0.1, C0.2.1, C0.2.2.1, C0.2.2.2.1, hts⟩ hM
    ⟨va_cnB as.length hts (good_callee hcode) rfl rfl rfl (C0.2.2.2.2.2.1.2.1 _ hlink) (hts _ hini) hd hR, hts _ hstt, trivial⟩
    ⟨Qm_blind, fun U hU hW => ⟨rfl, by rw [hU]; exact hH, K9_at C0.2.2.2.2.2.1 hS hU hW⟩⟩ rfl (List.length_map _) hl.1 (tv_app G as st) (lv_room (by rw [tv_cats]; exact hst)) hdg ⟨by omega, by omega⟩
  refine call_go hrun hS (fun r w' H1 locs1 hq2 hp2 hS2 => ?_)
  have h9 := kk r w' hq2 p e Rm s m args below meth c Qt C0 hret H1 locs1 ls hp2 hS2 hl
  rw [List.map_append] at h9
  cases r <;> exact h9
theorem R_callI {y2 : MethodName} {cc2 : ByteArray} {nL2 d2 mc2 ms2 index b : Nat} {as : List Value} {Q2 : Option Value → VW → Prop}
    (hM : Sp G l y2 cc2 nL2 none d2 mc2 ms2 (.ref b :: as) w Q2) (hcode : Cond.code y2 cc2 nL2 none ∈ TW) (hlink : Cond.methodLink y.cls index y2 ∈ TW) (hinst : Cond.instanceMethod y2 ∈ TW) (hini : Cond.initialized y2.cls ∈ TW) (hname : y2.name = "<init>")
    (hd : y2.cls ≠ "java/lang/invoke/MethodHandle" ∧ y2.cls ≠ "java/lang/invoke/VarHandle" ∧ (parseMethodDescriptor y2.desc).map (fun d => d.parameters.length) = some as.length)
    (hdl : d2 < d) (hnl : nL2 ≤ 21) (hk : k + mc2 ≤ mc) (hn : n + ms2 ≤ ms) (hst : (st.map fun v => v.category).sum ≤ 8)
    (hdg : decode cc pc = .ok (.invokespecial index, 3)) (kk : ∀ (r : Option Value) (w' : VW), Q2 r w' → R G l y cc nL ret d mc ms Q (pc + 3) lv (r.toList ++ st) w' (k + mc2) (n + ms2)) : R G l y cc nL ret d mc ms Q pc lv (as.reverse ++ .ref b :: st) w k n := by
  intro p e Rm s m args below meth c Qt C0 hret H locs ls hH hS hl
  have hts := C0.2.2.2.2.1
  have hR := room_in hdl hnl C0.2.2.2.2.2.2.1 C0.2.2.2.2.2.2.2.1
  have hk3 := C0.2.2.2.2.2.2.2.2.1
  have hn3 := C0.2.2.2.2.2.2.2.2.2.1
  have hrun := va_runI (e := e) (below := below) (meth := meth) (As := as.map (tv G)) (rest := st.map (tv G)) (g := F0 m pc ls ((as.reverse ++ .ref b :: st).map (tv G))) (n := as.length) (index := index) (cells := k) (slots := n) (locs := locs) (H := H) (b := ad G b) ⟨C0.1, C0.2.1, C0.2.2.1, C0.2.2.2.1, hts⟩ hM
    ⟨callB_of as.length hts (good_callee hcode) rfl rfl rfl (hts _ hini) (hts _ hlink) hd hR, hname, hts _ hinst⟩
    ⟨Qm_blind, fun U hU hW => ⟨rfl, by rw [hU]; exact hH, K9_at C0.2.2.2.2.2.1 hS hU hW⟩⟩ rfl (List.length_map _) hl.1 (tv_app G as (.ref b :: st)) (lv_room (by rw [tv_cats]; exact hst)) hdg ⟨by omega, by omega⟩
  refine call_go hrun hS (fun r w' H1 locs1 hq2 hp2 hS2 => ?_)
  have h9 := kk r w' hq2 p e Rm s m args below meth c Qt C0 hret H1 locs1 ls hp2 hS2 hl
  rw [List.map_append] at h9
  cases r <;> exact h9
/-- a nest mate's private constructor -/
theorem R_callIN {y2 : MethodName} {cc2 : ByteArray} {nL2 d2 mc2 ms2 index b : Nat} {as : List Value} {Q2 : Option Value → VW → Prop}
    (hM : Sp G l y2 cc2 nL2 none d2 mc2 ms2 (.ref b :: as) w Q2) (hcode : Cond.code y2 cc2 nL2 none ∈ TW) (hlink : (y.cls, index, y2) ∈ NWl) (hinst : Cond.instanceMethod y2 ∈ TW) (hini : Cond.initialized y2.cls ∈ TW) (hname : y2.name = "<init>")
    (hd : y2.cls ≠ "java/lang/invoke/MethodHandle" ∧ y2.cls ≠ "java/lang/invoke/VarHandle" ∧ (parseMethodDescriptor y2.desc).map (fun d => d.parameters.length) = some as.length)
    (hdl : d2 < d) (hnl : nL2 ≤ 21) (hk : k + mc2 ≤ mc) (hn : n + ms2 ≤ ms) (hst : (st.map fun v => v.category).sum ≤ 8)
    (hdg : decode cc pc = .ok (.invokespecial index, 3)) (kk : ∀ (r : Option Value) (w' : VW), Q2 r w' → R G l y cc nL ret d mc ms Q (pc + 3) lv (r.toList ++ st) w' (k + mc2) (n + ms2)) : R G l y cc nL ret d mc ms Q pc lv (as.reverse ++ .ref b :: st) w k n := by
  intro p e Rm s m args below meth c Qt C0 hret H locs ls hH hS hl
  have hts := C0.2.2.2.2.1
  have hR := room_in hdl hnl C0.2.2.2.2.2.2.1 C0.2.2.2.2.2.2.2.1
  have hk3 := C0.2.2.2.2.2.2.2.2.1
  have hn3 := C0.2.2.2.2.2.2.2.2.2.1
  have hrun := va_runIN (e := e) (below := below) (meth := meth) (As := as.map (tv G)) (rest := st.map (tv G)) (g := F0 m pc ls ((as.reverse ++ .ref b :: st).map (tv G))) (n := as.length) (index := index) (cells := k) (slots := n) (locs := locs) (H := H) (b := ad G b) ⟨C0.1, C0.2.1, C0.2.2.1, C0.2.2.2.1, hts⟩ hM
    ⟨va_cnB as.length hts (good_callee hcode) rfl rfl rfl (C0.2.2.2.2.2.1.2.1 _ hlink) (hts _ hini) hd hR, hname, hts _ hinst⟩
    ⟨Qm_blind, fun U hU hW => ⟨rfl, by rw [hU]; exact hH, K9_at C0.2.2.2.2.2.1 hS hU hW⟩⟩ rfl (List.length_map _) hl.1 (tv_app G as (.ref b :: st)) (lv_room (by rw [tv_cats]; exact hst)) hdg ⟨by omega, by omega⟩
  refine call_go hrun hS (fun r w' H1 locs1 hq2 hp2 hS2 => ?_)
  have h9 := kk r w' hq2 p e Rm s m args below meth c Qt C0 hret H1 locs1 ls hp2 hS2 hl
  rw [List.map_append] at h9
  cases r <;> exact h9
end CALLS
