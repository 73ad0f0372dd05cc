/-! rows of rows, Math, Strings -/
section MORE
variable {G : vG} {l : Launch} {y : MethodName} {cc : ByteArray} {nL : Nat} {ret : Option FieldType} {d mc ms : Nat} {Q : Option Value → VW → Prop} {pc : Nat} {lv : List (Option Value)} {st : List Value} {w : VW} {k n : Nat}
theorem hp_pushes {G : vG} {w : VW} {H H1 : Heap} {e0 e : VE} {N : Nat} (hH : hpOK G w H) (hlt : w.length + N < 1000000) (hz : H1.size = H.size + 1 + N) (hk : ∀ q : Nat, q < H.size → H1[q]? = H[q]?) (h0 : va_at (gD G) vwCl (H.size, te G e0) H1) (he : ∀ j : Nat, j < N → va_at (gD G) vwCl (H.size + 1 + j, te G e) H1) : hpOK G (w ++ e0 :: List.replicate N e) H1 := by
  refine ⟨by rw [hz, hH.1, List.length_append, List.length_cons, List.length_replicate]; omega, by rw [List.length_append, List.length_cons, List.length_replicate]; omega, ?_⟩
  intro i q hq
  obtain ⟨e1, h1, rfl⟩ := rw_inv hq
  by_cases hi : i < w.length
  · rw [List.getElem?_append_left hi] at h1
    have h2 := hH.2.2 i _ (rw_get h1)
    exact h2.kept (hk _ h2.lt)
  · rw [List.getElem?_append_right (by omega)] at h1
    have hil : i < 1000000 := by
      have h5 := (List.getElem?_eq_some_iff.mp h1).1
      rw [List.length_cons, List.length_replicate] at h5
      omega
    rw [ad_lt hil]
    by_cases h3 : i - w.length = 0
    · rw [h3] at h1
      cases h1
      rw [show gz G + i = H.size by rw [hH.1]; omega]
      exact h0
    · obtain ⟨j, hj⟩ : ∃ j, i - w.length = j + 1 := ⟨i - w.length - 1, by omega⟩
      rw [hj, List.getElem?_cons_succ] at h1
      have h5 := (List.getElem?_eq_some_iff.mp h1).1
      rw [List.length_replicate] at h5
      have h6 : e1 = e := by
        rw [List.getElem?_replicate, if_pos h5] at h1
        exact (Option.some.inj h1).symm
      subst h6
      rw [show gz G + i = H.size + 1 + j by rw [hH.1]; omega]
      exact he j h5
theorem R_mna {index : Nat} {x z : Int32} {N K : Nat} (hcl : Cond.classLink y.cls index "[[I" ∈ TW) (hN : x.toNatClampNeg = N) (hK : z.toNatClampNeg = K) (hx : ¬ x < 0) (hz : ¬ z < 0) (hb1 : N * 4 ≤ 536870912) (hb2 : K * 4 ≤ 536870912) (hlt : w.length + N < 1000000) (hk : k + 1 + N ≤ mc) (hn : n + N + N * K ≤ ms) (hdg : decode cc pc = .ok (.multianewarray index 2, 4))
    (kk : R G l y cc nL ret d mc ms Q (pc + 4) lv (.ref w.length :: st) (w ++ .inl (3, N, .inr (.inr (.inr (.inr (fun i => if i < N then some (w.length + 1 + i) else none))))) :: List.replicate N (.inl (0, K, .inl (fun _ => 0)))) (k + 1 + N) (n + N + N * K)) : R G l y cc nL ret d mc ms Q pc lv (.int z :: .int x :: st) w k n := by
  intro p e Rm s m args below meth c Qt C0 hret H locs ls hH hS hl
  subst hN
  subst hK
  have hts := C0.2.2.2.2.1
  have hk3 := C0.2.2.2.2.2.2.2.2.1
  have hn3 := C0.2.2.2.2.2.2.2.2.2.1
  have hK9 := C0.2.2.2.2.2.1.1
  have hA3 : s.vm.findClass ("[" ++ (FieldType.array .int).toString) = some (gA G 3) := (hK9.2 3 _ rfl).2
  have hA0 : s.vm.findClass ("[" ++ FieldType.int.toString) = some (gA G 0) := (hK9.2 0 _ rfl).2
  have hAO : (Cond.arrayOver (.array .int)).before args s = true := Jvm.Stand.arrayOver_alikeB (Vm.Alike.refl s.vm) C0.2.2.2.2.2.1.2.2.2.2.2.2.2.2.2
  intro T hT X
  obtain ⟨vm₁, cA, comp, -, fA, fC, -, -, X', step⟩ := X.multianewarray2F C0.1 C0.2.2.2.1 (own := y.cls) (index := index) (ty := .int) (hts _ hcl) hAO (hts _ (TW_tb 96 (by decide +kernel) (by decide +kernel))) (g := F0 m pc ls ((Value.int z :: .int x :: st).map (tv G))) rfl (by rw [C0.2.1]; exact hdg) rfl hx hz hb1 hb2 (by omega) rfl rfl (by omega) (by omega)
  have ec : cA = gA G 3 := Option.some.inj (fA.symm.trans hA3)
  have ec0 : comp = gA G 0 := Option.some.inj (fC.symm.trans hA0)
  subst ec
  subst ec0
  have hTh : (T.setVm vm₁).heap = H := hT
  obtain ⟨f1, f2, -, -⟩ := Jvm.Free.Multi.fill_facts (T.setVm vm₁) (gA G 3) (gA G 0) x.toNatClampNeg z.toNatClampNeg (defaultValue .int) x.toNatClampNeg
  have hold : ∀ q : Nat, q < H.size → (Jvm.Free.Multi.fill (T.setVm vm₁) (gA G 3) (gA G 0) x.toNatClampNeg z.toNatClampNeg (defaultValue .int) x.toNatClampNeg).heap[q]? = H[q]? := fun q hq => by
    have h9 := Jvm.Free.Multi.fill_old (T.setVm vm₁) (gA G 3) (gA G 0) x.toNatClampNeg z.toNatClampNeg (defaultValue .int) (a := q) (by rw [hTh]; exact hq) x.toNatClampNeg
    rw [hTh] at h9
    exact h9
  have hrow := Jvm.Free.Multi.fill_inner (T.setVm vm₁) (gA G 3) (gA G 0) x.toNatClampNeg z.toNatClampNeg (defaultValue .int) x.toNatClampNeg
  rw [hTh] at f1 f2 hrow
  generalize hF : Jvm.Free.Multi.fill (T.setVm vm₁) (gA G 3) (gA G 0) x.toNatClampNeg z.toNatClampNeg (defaultValue .int) x.toNatClampNeg = F at *
  have hTs : T.heap.size = H.size := by rw [hT]
  rw [hTs] at step
  have hwl : ad G w.length = H.size := ad_len hH (by omega)
  have h9 := kk p e Rm s m args below meth c Qt C0 hret F.heap locs ls (hp_pushes hH hlt f1 hold ?_ ?_) (S_push hS (by omega) hold) hl F rfl X'
  · obtain ⟨t, a1, b1⟩ := h9
    refine ⟨t, step t ?_, b1⟩
    rw [← hwl]
    exact a1
  · show F.heap[H.size]? = some (vp_cell (gA G 3) (x.toNatClampNeg, .inr (.inr (.inr (.inr (fun i => (if i < x.toNatClampNeg then some (w.length + 1 + i) else none).map (ad G)))))))
    rw [f2, vr_outer]
    refine congrArg some ?_
    rw [vp_cell_q]
    refine congrArg (arrV _ _) (funext fun j => ?_)
    by_cases h : j < x.toNatClampNeg
    · rw [if_pos h, if_pos h]
      show va_rf (some (H.size + 1 + j)) = va_rf (some (ad G (w.length + 1 + j)))
      rw [ad_lt (by omega), hH.1]
      congr 2
      omega
    · rw [if_neg h, if_neg h]
      rfl
  · intro j hj
    show F.heap[H.size + 1 + j]? = some (vp_cell (gA G 0) (z.toNatClampNeg, .inl (fun _ => 0)))
    rw [hrow j hj, vp_cell_i, ← arrV_new]
    rfl
theorem R_mmax {index : Nat} {a b : Int32} (hlink : Cond.methodLink y.cls index Lib.Math.max.name ∈ TW) (hdg : decode cc pc = .ok (.invokestatic index, 3)) (hd : 1 ≤ d) (hst : (st.map fun v => v.category).sum ≤ 8) (hk : k ≤ mc) (hn : n ≤ ms) (kk : R G l y cc nL ret d mc ms Q (pc + 3) lv (.int (if a < b then b else a) :: st) w k n) : R G l y cc nL ret d mc ms Q pc lv (.int b :: .int a :: st) w k n := by
  intro p e Rm s m args below meth c Qt C0 hret H locs ls hH hS hl
  have hts := C0.2.2.2.2.1
  have hf := C0.2.2.2.2.2.2.1
  have hlo := C0.2.2.2.2.2.2.2.1
  have hc := tv_cats G st
  have hk3 := C0.2.2.2.2.2.2.2.2.1
  have hn3 := C0.2.2.2.2.2.2.2.2.2.1
  exact va_mmax C0.1 C0.2.1 (C0.2.2.1.trans hl.1.symm) C0.2.2.2.1 (hts _ hlink) (hts _ (TW_tb 374 (by decide +kernel) (by decide +kernel))) (hts _ (TW_tb 11 (by decide +kernel) (by decide +kernel))) (hts _ (TW_tb 375 (by decide +kernel) (by decide +kernel))) (by omega) (by omega) (by omega) (by omega) hdg (kk p e Rm s m args below meth c Qt C0 hret H locs ls hH hS hl)
theorem R_mmin {index : Nat} {a b : Int32} (hlink : Cond.methodLink y.cls index Lib.Math.min.name ∈ TW) (hdg : decode cc pc = .ok (.invokestatic index, 3)) (hd : 1 ≤ d) (hst : (st.map fun v => v.category).sum ≤ 8) (hk : k ≤ mc) (hn : n ≤ ms) (kk : R G l y cc nL ret d mc ms Q (pc + 3) lv (.int (if b < a then b else a) :: st) w k n) : R G l y cc nL ret d mc ms Q pc lv (.int b :: .int a :: st) w k n := by
  intro p e Rm s m args below meth c Qt C0 hret H locs ls hH hS hl
  have hts := C0.2.2.2.2.1
  have hf := C0.2.2.2.2.2.2.1
  have hlo := C0.2.2.2.2.2.2.2.1
  have hc := tv_cats G st
  have hk3 := C0.2.2.2.2.2.2.2.2.1
  have hn3 := C0.2.2.2.2.2.2.2.2.2.1
  exact va_mmin C0.1 C0.2.1 (C0.2.2.1.trans hl.1.symm) C0.2.2.2.1 (hts _ hlink) (hts _ (TW_tb 377 (by decide +kernel) (by decide +kernel))) (hts _ (TW_tb 11 (by decide +kernel) (by decide +kernel))) (hts _ (TW_tb 378 (by decide +kernel) (by decide +kernel))) (by omega) (by omega) (by omega) (by omega) hdg (kk p e Rm s m args below meth c Qt C0 hret H locs ls hH hS hl)
theorem R_mabs {index : Nat} {a : Int32} (hlink : Cond.methodLink y.cls index Lib.Math.abs.name ∈ TW) (hdg : decode cc pc = .ok (.invokestatic index, 3)) (hd : 1 ≤ d) (hst : (st.map fun v => v.category).sum ≤ 8) (hk : k ≤ mc) (hn : n ≤ ms) (kk : R G l y cc nL ret d mc ms Q (pc + 3) lv (.int (if 0 ≤ a then a else 0 - a) :: st) w k n) : R G l y cc nL ret d mc ms Q pc lv (.int a :: st) w k n := by
  intro p e Rm s m args below meth c Qt C0 hret H locs ls hH hS hl
  have hts := C0.2.2.2.2.1
  have hf := C0.2.2.2.2.2.2.1
  have hlo := C0.2.2.2.2.2.2.2.1
  have hc := tv_cats G st
  have hk3 := C0.2.2.2.2.2.2.2.2.1
  have hn3 := C0.2.2.2.2.2.2.2.2.2.1
  exact va_mabs C0.1 C0.2.1 (C0.2.2.1.trans hl.1.symm) C0.2.2.2.1 (hts _ hlink) (hts _ (TW_tb 690 (by decide +kernel) (by decide +kernel))) (hts _ (TW_tb 11 (by decide +kernel) (by decide +kernel))) (hts _ (TW_tb 691 (by decide +kernel) (by decide +kernel))) (by omega) (by omega) (by omega) (by omega) hdg (kk p e Rm s m args below meth c Qt C0 hret H locs ls hH hS hl)
/-- a text's place: 1000000 + i; its bytes' place: 1000100 + i -/
theorem R_ldcS {i : Nat} {q : Nat × String} (hq : cpS[i]? = some q) (hy : y.cls = "ViewCards$Reader") (hdg : decode cc pc = .ok (.ldc q.1, 2)) (hi : ad G (1000000 + i) = gK G i) (kk : R G l y cc nL ret d mc ms Q (pc + 2) lv (.ref (1000000 + i) :: st) w k n) : R G l y cc nL ret d mc ms Q pc lv st w k n := by
  intro p e Rm s m args below meth c Qt C0 hret H locs ls hH hS hl
  obtain ⟨-, -, hZ, -⟩ := C0.2.2.2.2.2.1
  have h9 := kk p e Rm s m args below meth c Qt C0 hret H locs ls hH hS hl
  refine va_ldcS C0.1 C0.2.1 C0.2.2.2.1 (tx := q.2) (q := gK G i) (by rw [hy]; exact hZ i q hq) hdg ?_
  rw [← hi]
  exact h9
theorem adS (G : vG) {i : Nat} (hi : i < 100) : ad G (1000000 + i) = gK G i := by
  unfold ad
  rw [if_neg (by omega), if_pos (by omega), Nat.add_sub_cancel_left]
theorem adT (G : vG) {i : Nat} (hi : i < 100) : ad G (1000100 + i) = gV G i := by
  unfold ad
  rw [if_neg (by omega), if_neg (by omega), if_pos (by omega), Nat.add_sub_cancel_left]
end MORE
