/-! new objects, new arrays, Math, Strings -/
theorem vr_outer (c : ClassId) (N h0 : Nat) : ∀ i : Nat, Jvm.Free.Multi.outerC c N h0 i = arrV c N (fun j => va_rf (if j < i then some (h0 + 1 + j) else none))
  | 0 => by
    show ({ cls := c, slots := Array.replicate N .null, vm := .none } : Cell) = _
    rw [arrV_new]
    refine congrArg (arrV c N) (funext fun j => ?_)
    simp [va_rf]
  | i + 1 => by
    show (Jvm.Free.Multi.outerC c N h0 i).setSlot i (.ref (h0 + 1 + i)) = _
    rw [vr_outer c N h0 i, arrV_store]
    refine congrArg (arrV c N) (funext fun j => ?_)
    by_cases e : j = i
    · subst e
      simp [updV, va_rf]
    · by_cases h : j < i
      · simp [updV, e, h, Nat.lt_succ_of_lt h]
      · simp [updV, e, h, show ¬ j < i + 1 by omega]
section MAKE
variable {G : vG} {l : Launch} {y : MethodName} {cc : ByteArray} {nL : Nat} {ret : Option FieldType} {d mc ms : Nat} {Q : Option Value → VW → Prop} {pc : Nat} {lv : List (Option Value)} {st : List Value} {w : VW} {k n : Nat}
theorem hp_push {G : vG} {w : VW} {H H1 : Heap} {e : VE} (hH : hpOK G w H) (hlt : w.length < 1000000) (hz : H1.size = H.size + 1) (hk : ∀ q : Nat, q < H.size → H1[q]? = H[q]?) (he : va_at (gD G) vwCl (ad G w.length, te G e) H1) : hpOK G (w ++ [e]) H1 := by
  refine ⟨by rw [hz, hH.1, List.length_append]; rfl, by rw [List.length_append]; exact hlt, ?_⟩
  rw [← rw_push]
  exact (hH.2.2.kept (fun k x hx => hk x.1 ((hH.2.2 k x hx).lt))).app (fun k x hx => by
    have hz : k < 1 := (List.getElem?_eq_some_iff.mp hx).1
    rw [show k = 0 by omega] at hx
    cases hx
    exact he)
theorem ad_len {G : vG} {w : VW} {H : Heap} (hH : hpOK G w H) (hlt : w.length < 1000000) : ad G w.length = H.size := by
  rw [ad_lt hlt, hH.1]
theorem S_push {G : vG} {s : State} {H H1 : Heap} {locs : List Loc} (hS : va_S (Ar G) s.heap H locs) (hz : H.size ≤ H1.size) (hk : ∀ q : Nat, q < H.size → H1[q]? = H[q]?) : va_S (Ar G) s.heap H1 locs :=
  ⟨Nat.le_trans hS.1 hz, fun x h1 h2 => (hk x (Nat.lt_of_lt_of_le h1 hS.1)).trans (hS.2.1 x h1 h2), hS.2.2⟩
theorem R_new {C : String} {T : u_T} {ty : Nat → FieldType} {N ci index : Nat} {fs : List Value} (hc : vwCl[ci]? = some (C, T, N)) (hin : ∀ w ∈ u_ws C T N, w ∈ TW) (hty : ∀ k, k < N → parseFieldDescriptor (T k).2.2.1 = some (ty k)) (hcl : Cond.classLink y.cls index C ∈ TW) (hinst : Cond.instantiable C N ∈ TW) (hini : Cond.initialized C ∈ TW)
    (hfs : ∀ j, j < N → defaultValue (ty j) = vp_V fs j) (hfr : fs.map (tv G) = fs) (hlt : w.length < 1000000) (hk : k + 1 ≤ mc) (hn : n + N ≤ ms) (hdg : decode cc pc = .ok (.new index, 3))
    (kk : R G l y cc nL ret d mc ms Q (pc + 3) lv (.ref w.length :: st) (w ++ [.inr (ci, fs)]) (k + 1) (n + N)) : R G l y cc nL ret d mc ms Q pc lv st w k n := by
  intro p e Rm s m args below meth c Qt C0 hret H locs ls hH hS hl
  have hts := C0.2.2.2.2.1
  have hKn := C0.2.2.2.2.2.1.1.1 ci _ hc
  have hk3 := C0.2.2.2.2.2.2.2.2.1
  have hn3 := C0.2.2.2.2.2.2.2.2.2.1
  refine W.newcK C0.1 C0.2.1 C0.2.2.2.1 (hts _ hcl) (hts _ hinst) (hts _ hini) rfl hdg (by omega) (by omega) hKn.2.1 rfl fun H1 kC hkC e1 z1 o1 => ?_
  have h9 := kk p e Rm s m args below meth c Qt C0 hret H1 locs ls (hp_push hH hlt z1 o1 ?_) (S_push hS (by omega) o1) hl
  · rw [← ad_len hH hlt]
    exact h9
  · rw [ad_len hH hlt]
    show ∃ r : vw_C, _ ∧ _
    refine ⟨_, hc, ?_⟩
    show t_OB H.size _ _ _ H1 (vp_V (fs.map (tv G)))
    rw [hfr]
    exact (u_born ty hts hin hKn hkC e1 hty).to hfs
theorem newarr_go {a0 : vp_A} {kind : Nat} {atype : ArrayType} {ty : FieldType} (hkd : (tyG G)[kind]? = some (gA G kind, ty)) (hty : newarray.typeOf atype = ty) (hnm : ∀ (U : State) (cA : ClassId), va_RA U cA ty → U.vm.findClass ("[" ++ ty.toString) = some cA) (harr : Cond.arrayClass (newarray.typeOf atype) ∈ TW)
    {x : Int32} {N' : Nat} (ha : ∀ cA : ClassId, vp_cell cA (tc G a0) = arrV cA N' (fun _ => defaultValue ty)) (hx : ¬ x < 0) (hN : x.toNatClampNeg = N') (hbytes : N' * componentBytes ty ≤ 536870912) (hlt : w.length < 1000000) (hk : k + 1 ≤ mc) (hn : n + N' ≤ ms) (hdg : decode cc pc = .ok (.newarray atype, 2))
    (kk : R G l y cc nL ret d mc ms Q (pc + 2) lv (.ref w.length :: st) (w ++ [.inl (kind, a0)]) (k + 1) (n + N')) : R G l y cc nL ret d mc ms Q pc lv (.int x :: st) w k n := by
  intro p e Rm s m args below meth c Qt C0 hret H locs ls hH hS hl
  have hts := C0.2.2.2.2.1
  have hk3 := C0.2.2.2.2.2.2.2.2.1
  have hn3 := C0.2.2.2.2.2.2.2.2.2.1
  subst hty
  refine va_newaK C0.1 C0.2.1 (hts _ harr) rfl hdg rfl hx hN hbytes (by omega) (by omega) rfl fun H1 cA e1 z1 o1 hAr hNm => ?_
  have hcA : cA = gA G kind := Option.some.inj (hNm.symm.trans (hnm _ _ (C0.2.2.2.2.2.1.1.2 kind _ hkd).2))
  subst hcA
  have h9 := kk p e Rm s m args below meth c Qt C0 hret H1 locs ls (hp_push hH hlt z1 o1 ?_) (S_push hS (by omega) o1) hl
  · rw [← ad_len hH hlt]
    exact h9
  · rw [ad_len hH hlt]
    show H1[H.size]? = some (vp_cell (gA G kind) (tc G a0))
    rw [ha]
    exact e1
theorem R_newI {x : Int32} {N' : Nat} (hx : ¬ x < 0) (hN : x.toNatClampNeg = N') (hbytes : N' * 4 ≤ 536870912) (hlt : w.length < 1000000) (hk : k + 1 ≤ mc) (hn : n + N' ≤ ms) (hdg : decode cc pc = .ok (.newarray .int, 2))
    (kk : R G l y cc nL ret d mc ms Q (pc + 2) lv (.ref w.length :: st) (w ++ [.inl (0, N', .inl (fun _ => 0))]) (k + 1) (n + N')) : R G l y cc nL ret d mc ms Q pc lv (.int x :: st) w k n :=
  newarr_go (kind := 0) (a0 := (N', .inl (fun _ => 0))) rfl rfl (fun _ _ h => h) (TW_tb 96 (by decide +kernel) (by decide +kernel)) (fun cA => vp_cell_i cA N' _) hx hN hbytes hlt hk hn hdg kk
theorem R_newJ {x : Int32} {N' : Nat} (hx : ¬ x < 0) (hN : x.toNatClampNeg = N') (hbytes : N' * 8 ≤ 536870912) (hlt : w.length < 1000000) (hk : k + 1 ≤ mc) (hn : n + N' ≤ ms) (hdg : decode cc pc = .ok (.newarray .long, 2))
    (kk : R G l y cc nL ret d mc ms Q (pc + 2) lv (.ref w.length :: st) (w ++ [.inl (1, N', .inr (.inl (fun _ => 0)))]) (k + 1) (n + N')) : R G l y cc nL ret d mc ms Q pc lv (.int x :: st) w k n :=
  newarr_go (kind := 1) (a0 := (N', .inr (.inl (fun _ => 0)))) rfl rfl (fun _ _ h => h) (TW_tb 97 (by decide +kernel) (by decide +kernel)) (fun cA => vp_cell_l cA N' _) hx hN hbytes hlt hk hn hdg kk
theorem R_newZ {x : Int32} {N' : Nat} (hx : ¬ x < 0) (hN : x.toNatClampNeg = N') (hbytes : N' * 1 ≤ 536870912) (hlt : w.length < 1000000) (hk : k + 1 ≤ mc) (hn : n + N' ≤ ms) (hdg : decode cc pc = .ok (.newarray .boolean, 2))
    (kk : R G l y cc nL ret d mc ms Q (pc + 2) lv (.ref w.length :: st) (w ++ [.inl (2, N', .inl (fun _ => 0))]) (k + 1) (n + N')) : R G l y cc nL ret d mc ms Q pc lv (.int x :: st) w k n :=
  newarr_go (kind := 2) (a0 := (N', .inl (fun _ => 0))) rfl rfl (fun _ _ h => h) (TW_tb 150 (by decide +kernel) (by decide +kernel)) (fun cA => vp_cell_i cA N' _) hx hN hbytes hlt hk hn hdg kk
theorem R_objInit {index a : Nat} (hlink : Cond.methodLink y.cls index objectInit ∈ TW) (hdg : decode cc pc = .ok (.invokespecial index, 3)) (hd : 1 ≤ d) (hst : (st.map fun v => v.category).sum ≤ 8) (kk : R G l y cc nL ret d mc ms Q (pc + 3) lv st w k n) : R G l y cc nL ret d mc ms Q pc lv (.ref a :: st) w k n := by
  intro p e Rm s m args below meth c Qt C0 hret H locs ls hH hS hl
  have hts := C0.2.2.2.2.1
  have hf := C0.2.2.2.2.2.2.1
  have hlo := C0.2.2.2.2.2.2.2.1
  have hc := tv_cats G st
  exact W.objInit C0.1 C0.2.1 C0.2.2.2.1 (hts _ hlink) (hts _ (TW_tb 24 (by decide +kernel) (by decide +kernel))) (hts _ (TW_tb 25 (by decide +kernel) (by decide +kernel))) rfl (hl.1.trans C0.2.2.1.symm) rfl hdg (by omega) (by show 2 * 0 + _ + 12 ≤ _; omega) (kk p e Rm s m args below meth c Qt C0 hret H locs ls hH hS hl)
end MAKE
