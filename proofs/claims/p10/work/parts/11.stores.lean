/-! stores and steps of positional locals -/
section STORES
variable {G : vG} {l : Launch} {y : MethodName} {cc : ByteArray} {nL : Nat} {ret : Option FieldType} {d mc ms : Nat} {Q : Option Value → VW → Prop} {pc : Nat} {lv : List (Option Value)} {st : List Value} {w : VW} {k n : Nat}
set_option maxRecDepth 100000 in
theorem inc_10_5_1_i {o0 o1 o2 o3 o6 o7 o8 o9 : Option Value} {pv : Int32} {x : Int32} (hdg : decode cc pc = .ok (.iinc 5 1, 3)) (kk : R G l y cc 10 ret d mc ms Q (pc + 3) [o0, o1, o2, o3, (some (.int pv)), (some (.int (x + 1))), o6, o7, o8, o9] st w k n) : R G l y cc 10 ret d mc ms Q pc [o0, o1, o2, o3, (some (.int pv)), (some (.int x)), o6, o7, o8, o9] st w k n := by
  intro p e Rm s m args below meth c Qt C hret H locs ls hH hS hl
  have hm : ((5 : Nat), Value.int x) ∈ asL G [o0, o1, o2, o3, (some (.int pv)), (some (.int x)), o6, o7, o8, o9] := asL_mem (v := .int x) rfl
  obtain ⟨kq, hkq⟩ := List.getElem?_of_mem hm
  refine lv_iinc (v := x + 1) C.1 C.2.1 hdg (hasL_as hl) hkq (by rfl) (by decide) rfl (fun ls' h' => kk p e Rm s m args below meth c Qt C hret H locs ls' hH hS (hasL_set1 (x := .int (x + 1)) h' ?_))
  intro j v hj
  match j, hj with
    | 0, hj => exact Or.inr ⟨by decide, hj, fun h => absurd h (by decide)⟩
    | 1, hj => exact Or.inr ⟨by decide, hj, fun h => absurd h (by decide)⟩
    | 2, hj => exact Or.inr ⟨by decide, hj, fun h => absurd h (by decide)⟩
    | 3, hj => exact Or.inr ⟨by decide, hj, fun h => absurd h (by decide)⟩
    | 4, hj => exact Or.inr ⟨by decide, hj, fun _ => by cases hj; simp [Value.category]⟩
    | 5, hj => exact Or.inl ⟨rfl, (Option.some.inj (Option.some.inj hj)).symm⟩
    | 6, hj => exact Or.inr ⟨by decide, hj, fun h => absurd h (by decide)⟩
    | 7, hj => exact Or.inr ⟨by decide, hj, fun h => absurd h (by decide)⟩
    | 8, hj => exact Or.inr ⟨by decide, hj, fun h => absurd h (by decide)⟩
    | 9, hj => exact Or.inr ⟨by decide, hj, fun h => absurd h (by decide)⟩
    | q + 10, hj => simp at hj
set_option maxRecDepth 100000 in
theorem inc_10_6_1_i {o0 o1 o2 o3 o4 o7 o8 o9 : Option Value} {pv : Int32} {x : Int32} (hdg : decode cc pc = .ok (.iinc 6 1, 3)) (kk : R G l y cc 10 ret d mc ms Q (pc + 3) [o0, o1, o2, o3, o4, (some (.int pv)), (some (.int (x + 1))), o7, o8, o9] st w k n) : R G l y cc 10 ret d mc ms Q pc [o0, o1, o2, o3, o4, (some (.int pv)), (some (.int x)), o7, o8, o9] st w k n := by
  intro p e Rm s m args below meth c Qt C hret H locs ls hH hS hl
  have hm : ((6 : Nat), Value.int x) ∈ asL G [o0, o1, o2, o3, o4, (some (.int pv)), (some (.int x)), o7, o8, o9] := asL_mem (v := .int x) rfl
  obtain ⟨kq, hkq⟩ := List.getElem?_of_mem hm
  refine lv_iinc (v := x + 1) C.1 C.2.1 hdg (hasL_as hl) hkq (by rfl) (by decide) rfl (fun ls' h' => kk p e Rm s m args below meth c Qt C hret H locs ls' hH hS (hasL_set1 (x := .int (x + 1)) h' ?_))
  intro j v hj
  match j, hj with
    | 0, hj => exact Or.inr ⟨by decide, hj, fun h => absurd h (by decide)⟩
    | 1, hj => exact Or.inr ⟨by decide, hj, fun h => absurd h (by decide)⟩
    | 2, hj => exact Or.inr ⟨by decide, hj, fun h => absurd h (by decide)⟩
    | 3, hj => exact Or.inr ⟨by decide, hj, fun h => absurd h (by decide)⟩
    | 4, hj => exact Or.inr ⟨by decide, hj, fun h => absurd h (by decide)⟩
    | 5, hj => exact Or.inr ⟨by decide, hj, fun _ => by cases hj; simp [Value.category]⟩
    | 6, hj => exact Or.inl ⟨rfl, (Option.some.inj (Option.some.inj hj)).symm⟩
    | 7, hj => exact Or.inr ⟨by decide, hj, fun h => absurd h (by decide)⟩
    | 8, hj => exact Or.inr ⟨by decide, hj, fun h => absurd h (by decide)⟩
    | 9, hj => exact Or.inr ⟨by decide, hj, fun h => absurd h (by decide)⟩
    | q + 10, hj => simp at hj
set_option maxRecDepth 100000 in
theorem inc_10_7_1_i {o0 o1 o2 o3 o4 o5 o8 o9 : Option Value} {pv : Int32} {x : Int32} (hdg : decode cc pc = .ok (.iinc 7 1, 3)) (kk : R G l y cc 10 ret d mc ms Q (pc + 3) [o0, o1, o2, o3, o4, o5, (some (.int pv)), (some (.int (x + 1))), o8, o9] st w k n) : R G l y cc 10 ret d mc ms Q pc [o0, o1, o2, o3, o4, o5, (some (.int pv)), (some (.int x)), o8, o9] st w k n := by
  intro p e Rm s m args below meth c Qt C hret H locs ls hH hS hl
  have hm : ((7 : Nat), Value.int x) ∈ asL G [o0, o1, o2, o3, o4, o5, (some (.int pv)), (some (.int x)), o8, o9] := asL_mem (v := .int x) rfl
  obtain ⟨kq, hkq⟩ := List.getElem?_of_mem hm
  refine lv_iinc (v := x + 1) C.1 C.2.1 hdg (hasL_as hl) hkq (by rfl) (by decide) rfl (fun ls' h' => kk p e Rm s m args below meth c Qt C hret H locs ls' hH hS (hasL_set1 (x := .int (x + 1)) h' ?_))
  intro j v hj
  match j, hj with
    | 0, hj => exact Or.inr ⟨by decide, hj, fun h => absurd h (by decide)⟩
    | 1, hj => exact Or.inr ⟨by decide, hj, fun h => absurd h (by decide)⟩
    | 2, hj => exact Or.inr ⟨by decide, hj, fun h => absurd h (by decide)⟩
    | 3, hj => exact Or.inr ⟨by decide, hj, fun h => absurd h (by decide)⟩
    | 4, hj => exact Or.inr ⟨by decide, hj, fun h => absurd h (by decide)⟩
    | 5, hj => exact Or.inr ⟨by decide, hj, fun h => absurd h (by decide)⟩
    | 6, hj => exact Or.inr ⟨by decide, hj, fun _ => by cases hj; simp [Value.category]⟩
    | 7, hj => exact Or.inl ⟨rfl, (Option.some.inj (Option.some.inj hj)).symm⟩
    | 8, hj => exact Or.inr ⟨by decide, hj, fun h => absurd h (by decide)⟩
    | 9, hj => exact Or.inr ⟨by decide, hj, fun h => absurd h (by decide)⟩
    | q + 10, hj => simp at hj
set_option maxRecDepth 100000 in
theorem inc_10_8_1_i {o0 o1 o2 o3 o4 o5 o6 o9 : Option Value} {pv : Int32} {x : Int32} (hdg : decode cc pc = .ok (.iinc 8 1, 3)) (kk : R G l y cc 10 ret d mc ms Q (pc + 3) [o0, o1, o2, o3, o4, o5, o6, (some (.int pv)), (some (.int (x + 1))), o9] st w k n) : R G l y cc 10 ret d mc ms Q pc [o0, o1, o2, o3, o4, o5, o6, (some (.int pv)), (some (.int x)), o9] st w k n := by
  intro p e Rm s m args below meth c Qt C hret H locs ls hH hS hl
  have hm : ((8 : Nat), Value.int x) ∈ asL G [o0, o1, o2, o3, o4, o5, o6, (some (.int pv)), (some (.int x)), o9] := asL_mem (v := .int x) rfl
  obtain ⟨kq, hkq⟩ := List.getElem?_of_mem hm
  refine lv_iinc (v := x + 1) C.1 C.2.1 hdg (hasL_as hl) hkq (by rfl) (by decide) rfl (fun ls' h' => kk p e Rm s m args below meth c Qt C hret H locs ls' hH hS (hasL_set1 (x := .int (x + 1)) h' ?_))
  intro j v hj
  match j, hj with
    | 0, hj => exact Or.inr ⟨by decide, hj, fun h => absurd h (by decide)⟩
    | 1, hj => exact Or.inr ⟨by decide, hj, fun h => absurd h (by decide)⟩
    | 2, hj => exact Or.inr ⟨by decide, hj, fun h => absurd h (by decide)⟩
    | 3, hj => exact Or.inr ⟨by decide, hj, fun h => absurd h (by decide)⟩
    | 4, hj => exact Or.inr ⟨by decide, hj, fun h => absurd h (by decide)⟩
    | 5, hj => exact Or.inr ⟨by decide, hj, fun h => absurd h (by decide)⟩
    | 6, hj => exact Or.inr ⟨by decide, hj, fun h => absurd h (by decide)⟩
    | 7, hj => exact Or.inr ⟨by decide, hj, fun _ => by cases hj; simp [Value.category]⟩
    | 8, hj => exact Or.inl ⟨rfl, (Option.some.inj (Option.some.inj hj)).symm⟩
    | 9, hj => exact Or.inr ⟨by decide, hj, fun h => absurd h (by decide)⟩
    | q + 10, hj => simp at hj
set_option maxRecDepth 100000 in
theorem inc_11_10_1_i {o0 o1 o2 o3 o4 o5 o6 o7 o8 : Option Value} {pv : Int32} {x : Int32} (hdg : decode cc pc = .ok (.iinc 10 1, 3)) (kk : R G l y cc 11 ret d mc ms Q (pc + 3) [o0, o1, o2, o3, o4, o5, o6, o7, o8, (some (.int pv)), (some (.int (x + 1)))] st w k n) : R G l y cc 11 ret d mc ms Q pc [o0, o1, o2, o3, o4, o5, o6, o7, o8, (some (.int pv)), (some (.int x))] st w k n := by
  intro p e Rm s m args below meth c Qt C hret H locs ls hH hS hl
  have hm : ((10 : Nat), Value.int x) ∈ asL G [o0, o1, o2, o3, o4, o5, o6, o7, o8, (some (.int pv)), (some (.int x))] := asL_mem (v := .int x) rfl
  obtain ⟨kq, hkq⟩ := List.getElem?_of_mem hm
  refine lv_iinc (v := x + 1) C.1 C.2.1 hdg (hasL_as hl) hkq (by rfl) (by decide) rfl (fun ls' h' => kk p e Rm s m args below meth c Qt C hret H locs ls' hH hS (hasL_set1 (x := .int (x + 1)) h' ?_))
  intro j v hj
  match j, hj with
    | 0, hj => exact Or.inr ⟨by decide, hj, fun h => absurd h (by decide)⟩
    | 1, hj => exact Or.inr ⟨by decide, hj, fun h => absurd h (by decide)⟩
    | 2, hj => exact Or.inr ⟨by decide, hj, fun h => absurd h (by decide)⟩
    | 3, hj => exact Or.inr ⟨by decide, hj, fun h => absurd h (by decide)⟩
    | 4, hj => exact Or.inr ⟨by decide, hj, fun h => absurd h (by decide)⟩
    | 5, hj => exact Or.inr ⟨by decide, hj, fun h => absurd h (by decide)⟩
    | 6, hj => exact Or.inr ⟨by decide, hj, fun h => absurd h (by decide)⟩
    | 7, hj => exact Or.inr ⟨by decide, hj, fun h => absurd h (by decide)⟩
    | 8, hj => exact Or.inr ⟨by decide, hj, fun h => absurd h (by decide)⟩
    | 9, hj => exact Or.inr ⟨by decide, hj, fun _ => by cases hj; simp [Value.category]⟩
    | 10, hj => exact Or.inl ⟨rfl, (Option.some.inj (Option.some.inj hj)).symm⟩
    | q + 11, hj => simp at hj
set_option maxRecDepth 100000 in
theorem inc_11_10_1_n {o0 o1 o2 o3 o4 o5 o6 o7 o8 : Option Value} {x : Int32} (hdg : decode cc pc = .ok (.iinc 10 1, 3)) (kk : R G l y cc 11 ret d mc ms Q (pc + 3) [o0, o1, o2, o3, o4, o5, o6, o7, o8, none, (some (.int (x + 1)))] st w k n) : R G l y cc 11 ret d mc ms Q pc [o0, o1, o2, o3, o4, o5, o6, o7, o8, none, (some (.int x))] st w k n := by
  intro p e Rm s m args below meth c Qt C hret H locs ls hH hS hl
  have hm : ((10 : Nat), Value.int x) ∈ asL G [o0, o1, o2, o3, o4, o5, o6, o7, o8, none, (some (.int x))] := asL_mem (v := .int x) rfl
  obtain ⟨kq, hkq⟩ := List.getElem?_of_mem hm
  refine lv_iinc (v := x + 1) C.1 C.2.1 hdg (hasL_as hl) hkq (by rfl) (by decide) rfl (fun ls' h' => kk p e Rm s m args below meth c Qt C hret H locs ls' hH hS (hasL_set1 (x := .int (x + 1)) h' ?_))
  intro j v hj
  match j, hj with
    | 0, hj => exact Or.inr ⟨by decide, hj, fun h => absurd h (by decide)⟩
    | 1, hj => exact Or.inr ⟨by decide, hj, fun h => absurd h (by decide)⟩
    | 2, hj => exact Or.inr ⟨by decide, hj, fun h => absurd h (by decide)⟩
    | 3, hj => exact Or.inr ⟨by decide, hj, fun h => absurd h (by decide)⟩
    | 4, hj => exact Or.inr ⟨by decide, hj, fun h => absurd h (by decide)⟩
    | 5, hj => exact Or.inr ⟨by decide, hj, fun h => absurd h (by decide)⟩
    | 6, hj => exact Or.inr ⟨by decide, hj, fun h => absurd h (by decide)⟩
    | 7, hj => exact Or.inr ⟨by decide, hj, fun h => absurd h (by decide)⟩
    | 8, hj => exact Or.inr ⟨by decide, hj, fun h => absurd h (by decide)⟩
    | 9, hj => cases hj
    | 10, hj => exact Or.inl ⟨rfl, (Option.some.inj (Option.some.inj hj)).symm⟩
    | q + 11, hj => simp at hj
set_option maxRecDepth 100000 in
theorem inc_11_4_1_i {o0 o1 o2 o5 o6 o7 o8 o9 o10 : Option Value} {pv : Int32} {x : Int32} (hdg : decode cc pc = .ok (.iinc 4 1, 3)) (kk : R G l y cc 11 ret d mc ms Q (pc + 3) [o0, o1, o2, (some (.int pv)), (some (.int (x + 1))), o5, o6, o7, o8, o9, o10] st w k n) : R G l y cc 11 ret d mc ms Q pc [o0, o1, o2, (some (.int pv)), (some (.int x)), o5, o6, o7, o8, o9, o10] st w k n := by
  intro p e Rm s m args below meth c Qt C hret H locs ls hH hS hl
  have hm : ((4 : Nat), Value.int x) ∈ asL G [o0, o1, o2, (some (.int pv)), (some (.int x)), o5, o6, o7, o8, o9, o10] := asL_mem (v := .int x) rfl
  obtain ⟨kq, hkq⟩ := List.getElem?_of_mem hm
  refine lv_iinc (v := x + 1) C.1 C.2.1 hdg (hasL_as hl) hkq (by rfl) (by decide) rfl (fun ls' h' => kk p e Rm s m args below meth c Qt C hret H locs ls' hH hS (hasL_set1 (x := .int (x + 1)) h' ?_))
  intro j v hj
  match j, hj with
    | 0, hj => exact Or.inr ⟨by decide, hj, fun h => absurd h (by decide)⟩
    | 1, hj => exact Or.inr ⟨by decide, hj, fun h => absurd h (by decide)⟩
    | 2, hj => exact Or.inr ⟨by decide, hj, fun h => absurd h (by decide)⟩
    | 3, hj => exact Or.inr ⟨by decide, hj, fun _ => by cases hj; simp [Value.category]⟩
    | 4, hj => exact Or.inl ⟨rfl, (Option.some.inj (Option.some.inj hj)).symm⟩
    | 5, hj => exact Or.inr ⟨by decide, hj, fun h => absurd h (by decide)⟩
    | 6, hj => exact Or.inr ⟨by decide, hj, fun h => absurd h (by decide)⟩
    | 7, hj => exact Or.inr ⟨by decide, hj, fun h => absurd h (by decide)⟩
    | 8, hj => exact Or.inr ⟨by decide, hj, fun h => absurd h (by decide)⟩
    | 9, hj => exact Or.inr ⟨by decide, hj, fun h => absurd h (by decide)⟩
    | 10, hj => exact Or.inr ⟨by decide, hj, fun h => absurd h (by decide)⟩
    | q + 11, hj => simp at hj
set_option maxRecDepth 100000 in
theorem inc_11_5_1_i {o0 o1 o2 o3 o6 o7 o8 o9 o10 : Option Value} {pv : Int32} {x : Int32} (hdg : decode cc pc = .ok (.iinc 5 1, 3)) (kk : R G l y cc 11 ret d mc ms Q (pc + 3) [o0, o1, o2, o3, (some (.int pv)), (some (.int (x + 1))), o6, o7, o8, o9, o10] st w k n) : R G l y cc 11 ret d mc ms Q pc [o0, o1, o2, o3, (some (.int pv)), (some (.int x)), o6, o7, o8, o9, o10] st w k n := by
  intro p e Rm s m args below meth c Qt C hret H locs ls hH hS hl
  have hm : ((5 : Nat), Value.int x) ∈ asL G [o0, o1, o2, o3, (some (.int pv)), (some (.int x)), o6, o7, o8, o9, o10] := asL_mem (v := .int x) rfl
  obtain ⟨kq, hkq⟩ := List.getElem?_of_mem hm
  refine lv_iinc (v := x + 1) C.1 C.2.1 hdg (hasL_as hl) hkq (by rfl) (by decide) rfl (fun ls' h' => kk p e Rm s m args below meth c Qt C hret H locs ls' hH hS (hasL_set1 (x := .int (x + 1)) h' ?_))
  intro j v hj
  match j, hj with
    | 0, hj => exact Or.inr ⟨by decide, hj, fun h => absurd h (by decide)⟩
    | 1, hj => exact Or.inr ⟨by decide, hj, fun h => absurd h (by decide)⟩
    | 2, hj => exact Or.inr ⟨by decide, hj, fun h => absurd h (by decide)⟩
    | 3, hj => exact Or.inr ⟨by decide, hj, fun h => absurd h (by decide)⟩
    | 4, hj => exact Or.inr ⟨by decide, hj, fun _ => by cases hj; simp [Value.category]⟩
    | 5, hj => exact Or.inl ⟨rfl, (Option.some.inj (Option.some.inj hj)).symm⟩
    | 6, hj => exact Or.inr ⟨by decide, hj, fun h => absurd h (by decide)⟩
    | 7, hj => exact Or.inr ⟨by decide, hj, fun h => absurd h (by decide)⟩
    | 8, hj => exact Or.inr ⟨by decide, hj, fun h => absurd h (by decide)⟩
    | 9, hj => exact Or.inr ⟨by decide, hj, fun h => absurd h (by decide)⟩
    | 10, hj => exact Or.inr ⟨by decide, hj, fun h => absurd h (by decide)⟩
    | q + 11, hj => simp at hj
set_option maxRecDepth 100000 in
theorem inc_11_6_1_i {o0 o1 o2 o3 o4 o7 o8 o9 o10 : Option Value} {pv : Int32} {x : Int32} (hdg : decode cc pc = .ok (.iinc 6 1, 3)) (kk : R G l y cc 11 ret d mc ms Q (pc + 3) [o0, o1, o2, o3, o4, (some (.int pv)), (some (.int (x + 1))), o7, o8, o9, o10] st w k n) : R G l y cc 11 ret d mc ms Q pc [o0, o1, o2, o3, o4, (some (.int pv)), (some (.int x)), o7, o8, o9, o10] st w k n := by
  intro p e Rm s m args below meth c Qt C hret H locs ls hH hS hl
  have hm : ((6 : Nat), Value.int x) ∈ asL G [o0, o1, o2, o3, o4, (some (.int pv)), (some (.int x)), o7, o8, o9, o10] := asL_mem (v := .int x) rfl
  obtain ⟨kq, hkq⟩ := List.getElem?_of_mem hm
  refine lv_iinc (v := x + 1) C.1 C.2.1 hdg (hasL_as hl) hkq (by rfl) (by decide) rfl (fun ls' h' => kk p e Rm s m args below meth c Qt C hret H locs ls' hH hS (hasL_set1 (x := .int (x + 1)) h' ?_))
  intro j v hj
  match j, hj with
    | 0, hj => exact Or.inr ⟨by decide, hj, fun h => absurd h (by decide)⟩
    | 1, hj => exact Or.inr ⟨by decide, hj, fun h => absurd h (by decide)⟩
    | 2, hj => exact Or.inr ⟨by decide, hj, fun h => absurd h (by decide)⟩
    | 3, hj => exact Or.inr ⟨by decide, hj, fun h => absurd h (by decide)⟩
    | 4, hj => exact Or.inr ⟨by decide, hj, fun h => absurd h (by decide)⟩
    | 5, hj => exact Or.inr ⟨by decide, hj, fun _ => by cases hj; simp [Value.category]⟩
    | 6, hj => exact Or.inl ⟨rfl, (Option.some.inj (Option.some.inj hj)).symm⟩
    | 7, hj => exact Or.inr ⟨by decide, hj, fun h => absurd h (by decide)⟩
    | 8, hj => exact Or.inr ⟨by decide, hj, fun h => absurd h (by decide)⟩
    | 9, hj => exact Or.inr ⟨by decide, hj, fun h => absurd h (by decide)⟩
    | 10, hj => exact Or.inr ⟨by decide, hj, fun h => absurd h (by decide)⟩
    | q + 11, hj => simp at hj
set_option maxRecDepth 100000 in
theorem inc_2_1_1_a  {pv : Nat} {x : Int32} (hdg : decode cc pc = .ok (.iinc 1 1, 3)) (kk : R G l y cc 2 ret d mc ms Q (pc + 3) [(some (.ref pv)), (some (.int (x + 1)))] st w k n) : R G l y cc 2 ret d mc ms Q pc [(some (.ref pv)), (some (.int x))] st w k n := by
  intro p e Rm s m args below meth c Qt C hret H locs ls hH hS hl
  have hm : ((1 : Nat), Value.int x) ∈ asL G [(some (.ref pv)), (some (.int x))] := asL_mem (v := .int x) rfl
  obtain ⟨kq, hkq⟩ := List.getElem?_of_mem hm
  refine lv_iinc (v := x + 1) C.1 C.2.1 hdg (hasL_as hl) hkq (by rfl) (by decide) rfl (fun ls' h' => kk p e Rm s m args below meth c Qt C hret H locs ls' hH hS (hasL_set1 (x := .int (x + 1)) h' ?_))
  intro j v hj
  match j, hj with
    | 0, hj => exact Or.inr ⟨by decide, hj, fun _ => by cases hj; simp [Value.category]⟩
    | 1, hj => exact Or.inl ⟨rfl, (Option.some.inj (Option.some.inj hj)).symm⟩
    | q + 2, hj => simp at hj
set_option maxRecDepth 100000 in
theorem inc_3_1_1_a {o2 : Option Value} {pv : Nat} {x : Int32} (hdg : decode cc pc = .ok (.iinc 1 1, 3)) (kk : R G l y cc 3 ret d mc ms Q (pc + 3) [(some (.ref pv)), (some (.int (x + 1))), o2] st w k n) : R G l y cc 3 ret d mc ms Q pc [(some (.ref pv)), (some (.int x)), o2] st w k n := by
  intro p e Rm s m args below meth c Qt C hret H locs ls hH hS hl
  have hm : ((1 : Nat), Value.int x) ∈ asL G [(some (.ref pv)), (some (.int x)), o2] := asL_mem (v := .int x) rfl
  obtain ⟨kq, hkq⟩ := List.getElem?_of_mem hm
  refine lv_iinc (v := x + 1) C.1 C.2.1 hdg (hasL_as hl) hkq (by rfl) (by decide) rfl (fun ls' h' => kk p e Rm s m args below meth c Qt C hret H locs ls' hH hS (hasL_set1 (x := .int (x + 1)) h' ?_))
  intro j v hj
  match j, hj with
    | 0, hj => exact Or.inr ⟨by decide, hj, fun _ => by cases hj; simp [Value.category]⟩
    | 1, hj => exact Or.inl ⟨rfl, (Option.some.inj (Option.some.inj hj)).symm⟩
    | 2, hj => exact Or.inr ⟨by decide, hj, fun h => absurd h (by decide)⟩
    | q + 3, hj => simp at hj
set_option maxRecDepth 100000 in
theorem inc_3_2_1_a {o0 : Option Value} {pv : Nat} {x : Int32} (hdg : decode cc pc = .ok (.iinc 2 1, 3)) (kk : R G l y cc 3 ret d mc ms Q (pc + 3) [o0, (some (.ref pv)), (some (.int (x + 1)))] st w k n) : R G l y cc 3 ret d mc ms Q pc [o0, (some (.ref pv)), (some (.int x))] st w k n := by
  intro p e Rm s m args below meth c Qt C hret H locs ls hH hS hl
  have hm : ((2 : Nat), Value.int x) ∈ asL G [o0, (some (.ref pv)), (some (.int x))] := asL_mem (v := .int x) rfl
  obtain ⟨kq, hkq⟩ := List.getElem?_of_mem hm
  refine lv_iinc (v := x + 1) C.1 C.2.1 hdg (hasL_as hl) hkq (by rfl) (by decide) rfl (fun ls' h' => kk p e Rm s m args below meth c Qt C hret H locs ls' hH hS (hasL_set1 (x := .int (x + 1)) h' ?_))
  intro j v hj
  match j, hj with
    | 0, hj => exact Or.inr ⟨by decide, hj, fun h => absurd h (by decide)⟩
    | 1, hj => exact Or.inr ⟨by decide, hj, fun _ => by cases hj; simp [Value.category]⟩
    | 2, hj => exact Or.inl ⟨rfl, (Option.some.inj (Option.some.inj hj)).symm⟩
    | q + 3, hj => simp at hj
set_option maxRecDepth 100000 in
theorem inc_3_2_1_i {o0 : Option Value} {pv : Int32} {x : Int32} (hdg : decode cc pc = .ok (.iinc 2 1, 3)) (kk : R G l y cc 3 ret d mc ms Q (pc + 3) [o0, (some (.int pv)), (some (.int (x + 1)))] st w k n) : R G l y cc 3 ret d mc ms Q pc [o0, (some (.int pv)), (some (.int x))] st w k n := by
  intro p e Rm s m args below meth c Qt C hret H locs ls hH hS hl
  have hm : ((2 : Nat), Value.int x) ∈ asL G [o0, (some (.int pv)), (some (.int x))] := asL_mem (v := .int x) rfl
  obtain ⟨kq, hkq⟩ := List.getElem?_of_mem hm
  refine lv_iinc (v := x + 1) C.1 C.2.1 hdg (hasL_as hl) hkq (by rfl) (by decide) rfl (fun ls' h' => kk p e Rm s m args below meth c Qt C hret H locs ls' hH hS (hasL_set1 (x := .int (x + 1)) h' ?_))
  intro j v hj
  match j, hj with
    | 0, hj => exact Or.inr ⟨by decide, hj, fun h => absurd h (by decide)⟩
    | 1, hj => exact Or.inr ⟨by decide, hj, fun _ => by cases hj; simp [Value.category]⟩
    | 2, hj => exact Or.inl ⟨rfl, (Option.some.inj (Option.some.inj hj)).symm⟩
    | q + 3, hj => simp at hj
set_option maxRecDepth 100000 in
theorem inc_4_2_1_i {o0 o3 : Option Value} {pv : Int32} {x : Int32} (hdg : decode cc pc = .ok (.iinc 2 1, 3)) (kk : R G l y cc 4 ret d mc ms Q (pc + 3) [o0, (some (.int pv)), (some (.int (x + 1))), o3] st w k n) : R G l y cc 4 ret d mc ms Q pc [o0, (some (.int pv)), (some (.int x)), o3] st w k n := by
  intro p e Rm s m args below meth c Qt C hret H locs ls hH hS hl
  have hm : ((2 : Nat), Value.int x) ∈ asL G [o0, (some (.int pv)), (some (.int x)), o3] := asL_mem (v := .int x) rfl
  obtain ⟨kq, hkq⟩ := List.getElem?_of_mem hm
  refine lv_iinc (v := x + 1) C.1 C.2.1 hdg (hasL_as hl) hkq (by rfl) (by decide) rfl (fun ls' h' => kk p e Rm s m args below meth c Qt C hret H locs ls' hH hS (hasL_set1 (x := .int (x + 1)) h' ?_))
  intro j v hj
  match j, hj with
    | 0, hj => exact Or.inr ⟨by decide, hj, fun h => absurd h (by decide)⟩
    | 1, hj => exact Or.inr ⟨by decide, hj, fun _ => by cases hj; simp [Value.category]⟩
    | 2, hj => exact Or.inl ⟨rfl, (Option.some.inj (Option.some.inj hj)).symm⟩
    | 3, hj => exact Or.inr ⟨by decide, hj, fun h => absurd h (by decide)⟩
    | q + 4, hj => simp at hj
set_option maxRecDepth 100000 in
theorem inc_4_3_1_i {o0 o1 : Option Value} {pv : Int32} {x : Int32} (hdg : decode cc pc = .ok (.iinc 3 1, 3)) (kk : R G l y cc 4 ret d mc ms Q (pc + 3) [o0, o1, (some (.int pv)), (some (.int (x + 1)))] st w k n) : R G l y cc 4 ret d mc ms Q pc [o0, o1, (some (.int pv)), (some (.int x))] st w k n := by
  intro p e Rm s m args below meth c Qt C hret H locs ls hH hS hl
  have hm : ((3 : Nat), Value.int x) ∈ asL G [o0, o1, (some (.int pv)), (some (.int x))] := asL_mem (v := .int x) rfl
  obtain ⟨kq, hkq⟩ := List.getElem?_of_mem hm
  refine lv_iinc (v := x + 1) C.1 C.2.1 hdg (hasL_as hl) hkq (by rfl) (by decide) rfl (fun ls' h' => kk p e Rm s m args below meth c Qt C hret H locs ls' hH hS (hasL_set1 (x := .int (x + 1)) h' ?_))
  intro j v hj
  match j, hj with
    | 0, hj => exact Or.inr ⟨by decide, hj, fun h => absurd h (by decide)⟩
    | 1, hj => exact Or.inr ⟨by decide, hj, fun h => absurd h (by decide)⟩
    | 2, hj => exact Or.inr ⟨by decide, hj, fun _ => by cases hj; simp [Value.category]⟩
    | 3, hj => exact Or.inl ⟨rfl, (Option.some.inj (Option.some.inj hj)).symm⟩
    | q + 4, hj => simp at hj
set_option maxRecDepth 100000 in
theorem inc_4_3_9_a {o0 o1 : Option Value} {pv : Nat} {x : Int32} (hdg : decode cc pc = .ok (.iinc 3 9, 3)) (kk : R G l y cc 4 ret d mc ms Q (pc + 3) [o0, o1, (some (.ref pv)), (some (.int (x + 9)))] st w k n) : R G l y cc 4 ret d mc ms Q pc [o0, o1, (some (.ref pv)), (some (.int x))] st w k n := by
  intro p e Rm s m args below meth c Qt C hret H locs ls hH hS hl
  have hm : ((3 : Nat), Value.int x) ∈ asL G [o0, o1, (some (.ref pv)), (some (.int x))] := asL_mem (v := .int x) rfl
  obtain ⟨kq, hkq⟩ := List.getElem?_of_mem hm
  refine lv_iinc (v := x + 9) C.1 C.2.1 hdg (hasL_as hl) hkq (by rfl) (by decide) rfl (fun ls' h' => kk p e Rm s m args below meth c Qt C hret H locs ls' hH hS (hasL_set1 (x := .int (x + 9)) h' ?_))
  intro j v hj
  match j, hj with
    | 0, hj => exact Or.inr ⟨by decide, hj, fun h => absurd h (by decide)⟩
    | 1, hj => exact Or.inr ⟨by decide, hj, fun h => absurd h (by decide)⟩
    | 2, hj => exact Or.inr ⟨by decide, hj, fun _ => by cases hj; simp [Value.category]⟩
    | 3, hj => exact Or.inl ⟨rfl, (Option.some.inj (Option.some.inj hj)).symm⟩
    | q + 4, hj => simp at hj
set_option maxRecDepth 100000 in
theorem inc_5_2_m1_i {o0 o3 o4 : Option Value} {pv : Int32} {x : Int32} (hdg : decode cc pc = .ok (.iinc 2 (-1), 3)) (kk : R G l y cc 5 ret d mc ms Q (pc + 3) [o0, (some (.int pv)), (some (.int (x + (-1)))), o3, o4] st w k n) : R G l y cc 5 ret d mc ms Q pc [o0, (some (.int pv)), (some (.int x)), o3, o4] st w k n := by
  intro p e Rm s m args below meth c Qt C hret H locs ls hH hS hl
  have hm : ((2 : Nat), Value.int x) ∈ asL G [o0, (some (.int pv)), (some (.int x)), o3, o4] := asL_mem (v := .int x) rfl
  obtain ⟨kq, hkq⟩ := List.getElem?_of_mem hm
  refine lv_iinc (v := x + (-1)) C.1 C.2.1 hdg (hasL_as hl) hkq (by rfl) (by decide) rfl (fun ls' h' => kk p e Rm s m args below meth c Qt C hret H locs ls' hH hS (hasL_set1 (x := .int (x + (-1))) h' ?_))
  intro j v hj
  match j, hj with
    | 0, hj => exact Or.inr ⟨by decide, (by simpa using hj), fun h => absurd h (by decide)⟩
    | 1, hj => exact Or.inr ⟨by decide, (by simpa using hj), fun _ => by cases hj; simp [Value.category]⟩
    | 2, hj => exact Or.inl ⟨rfl, (Option.some.inj (Option.some.inj hj)).symm⟩
    | 3, hj => exact Or.inr ⟨by decide, (by simpa using hj), fun h => absurd h (by decide)⟩
    | 4, hj => exact Or.inr ⟨by decide, (by simpa using hj), fun h => absurd h (by decide)⟩
    | q + 5, hj => simp at hj
set_option maxRecDepth 100000 in
theorem inc_5_2_1_i {o0 o3 o4 : Option Value} {pv : Int32} {x : Int32} (hdg : decode cc pc = .ok (.iinc 2 1, 3)) (kk : R G l y cc 5 ret d mc ms Q (pc + 3) [o0, (some (.int pv)), (some (.int (x + 1))), o3, o4] st w k n) : R G l y cc 5 ret d mc ms Q pc [o0, (some (.int pv)), (some (.int x)), o3, o4] st w k n := by
  intro p e Rm s m args below meth c Qt C hret H locs ls hH hS hl
  have hm : ((2 : Nat), Value.int x) ∈ asL G [o0, (some (.int pv)), (some (.int x)), o3, o4] := asL_mem (v := .int x) rfl
  obtain ⟨kq, hkq⟩ := List.getElem?_of_mem hm
  refine lv_iinc (v := x + 1) C.1 C.2.1 hdg (hasL_as hl) hkq (by rfl) (by decide) rfl (fun ls' h' => kk p e Rm s m args below meth c Qt C hret H locs ls' hH hS (hasL_set1 (x := .int (x + 1)) h' ?_))
  intro j v hj
  match j, hj with
    | 0, hj => exact Or.inr ⟨by decide, hj, fun h => absurd h (by decide)⟩
    | 1, hj => exact Or.inr ⟨by decide, hj, fun _ => by cases hj; simp [Value.category]⟩
    | 2, hj => exact Or.inl ⟨rfl, (Option.some.inj (Option.some.inj hj)).symm⟩
    | 3, hj => exact Or.inr ⟨by decide, hj, fun h => absurd h (by decide)⟩
    | 4, hj => exact Or.inr ⟨by decide, hj, fun h => absurd h (by decide)⟩
    | q + 5, hj => simp at hj
set_option maxRecDepth 100000 in
theorem inc_5_3_1_a {o0 o1 o4 : Option Value} {pv : Nat} {x : Int32} (hdg : decode cc pc = .ok (.iinc 3 1, 3)) (kk : R G l y cc 5 ret d mc ms Q (pc + 3) [o0, o1, (some (.ref pv)), (some (.int (x + 1))), o4] st w k n) : R G l y cc 5 ret d mc ms Q pc [o0, o1, (some (.ref pv)), (some (.int x)), o4] st w k n := by
  intro p e Rm s m args below meth c Qt C hret H locs ls hH hS hl
  have hm : ((3 : Nat), Value.int x) ∈ asL G [o0, o1, (some (.ref pv)), (some (.int x)), o4] := asL_mem (v := .int x) rfl
  obtain ⟨kq, hkq⟩ := List.getElem?_of_mem hm
  refine lv_iinc (v := x + 1) C.1 C.2.1 hdg (hasL_as hl) hkq (by rfl) (by decide) rfl (fun ls' h' => kk p e Rm s m args below meth c Qt C hret H locs ls' hH hS (hasL_set1 (x := .int (x + 1)) h' ?_))
  intro j v hj
  match j, hj with
    | 0, hj => exact Or.inr ⟨by decide, hj, fun h => absurd h (by decide)⟩
    | 1, hj => exact Or.inr ⟨by decide, hj, fun h => absurd h (by decide)⟩
    | 2, hj => exact Or.inr ⟨by decide, hj, fun _ => by cases hj; simp [Value.category]⟩
    | 3, hj => exact Or.inl ⟨rfl, (Option.some.inj (Option.some.inj hj)).symm⟩
    | 4, hj => exact Or.inr ⟨by decide, hj, fun h => absurd h (by decide)⟩
    | q + 5, hj => simp at hj
set_option maxRecDepth 100000 in
theorem inc_5_4_1_i {o0 o1 o2 : Option Value} {pv : Int32} {x : Int32} (hdg : decode cc pc = .ok (.iinc 4 1, 3)) (kk : R G l y cc 5 ret d mc ms Q (pc + 3) [o0, o1, o2, (some (.int pv)), (some (.int (x + 1)))] st w k n) : R G l y cc 5 ret d mc ms Q pc [o0, o1, o2, (some (.int pv)), (some (.int x))] st w k n := by
  intro p e Rm s m args below meth c Qt C hret H locs ls hH hS hl
  have hm : ((4 : Nat), Value.int x) ∈ asL G [o0, o1, o2, (some (.int pv)), (some (.int x))] := asL_mem (v := .int x) rfl
  obtain ⟨kq, hkq⟩ := List.getElem?_of_mem hm
  refine lv_iinc (v := x + 1) C.1 C.2.1 hdg (hasL_as hl) hkq (by rfl) (by decide) rfl (fun ls' h' => kk p e Rm s m args below meth c Qt C hret H locs ls' hH hS (hasL_set1 (x := .int (x + 1)) h' ?_))
  intro j v hj
  match j, hj with
    | 0, hj => exact Or.inr ⟨by decide, hj, fun h => absurd h (by decide)⟩
    | 1, hj => exact Or.inr ⟨by decide, hj, fun h => absurd h (by decide)⟩
    | 2, hj => exact Or.inr ⟨by decide, hj, fun h => absurd h (by decide)⟩
    | 3, hj => exact Or.inr ⟨by decide, hj, fun _ => by cases hj; simp [Value.category]⟩
    | 4, hj => exact Or.inl ⟨rfl, (Option.some.inj (Option.some.inj hj)).symm⟩
    | q + 5, hj => simp at hj
set_option maxRecDepth 100000 in
theorem inc_5_4_1_n {o0 o1 o2 : Option Value} {x : Int32} (hdg : decode cc pc = .ok (.iinc 4 1, 3)) (kk : R G l y cc 5 ret d mc ms Q (pc + 3) [o0, o1, o2, none, (some (.int (x + 1)))] st w k n) : R G l y cc 5 ret d mc ms Q pc [o0, o1, o2, none, (some (.int x))] st w k n := by
  intro p e Rm s m args below meth c Qt C hret H locs ls hH hS hl
  have hm : ((4 : Nat), Value.int x) ∈ asL G [o0, o1, o2, none, (some (.int x))] := asL_mem (v := .int x) rfl
  obtain ⟨kq, hkq⟩ := List.getElem?_of_mem hm
  refine lv_iinc (v := x + 1) C.1 C.2.1 hdg (hasL_as hl) hkq (by rfl) (by decide) rfl (fun ls' h' => kk p e Rm s m args below meth c Qt C hret H locs ls' hH hS (hasL_set1 (x := .int (x + 1)) h' ?_))
  intro j v hj
  match j, hj with
    | 0, hj => exact Or.inr ⟨by decide, hj, fun h => absurd h (by decide)⟩
    | 1, hj => exact Or.inr ⟨by decide, hj, fun h => absurd h (by decide)⟩
    | 2, hj => exact Or.inr ⟨by decide, hj, fun h => absurd h (by decide)⟩
    | 3, hj => cases hj
    | 4, hj => exact Or.inl ⟨rfl, (Option.some.inj (Option.some.inj hj)).symm⟩
    | q + 5, hj => simp at hj
set_option maxRecDepth 100000 in
theorem inc_6_3_m1_i {o0 o1 o4 o5 : Option Value} {pv : Int32} {x : Int32} (hdg : decode cc pc = .ok (.iinc 3 (-1), 3)) (kk : R G l y cc 6 ret d mc ms Q (pc + 3) [o0, o1, (some (.int pv)), (some (.int (x + (-1)))), o4, o5] st w k n) : R G l y cc 6 ret d mc ms Q pc [o0, o1, (some (.int pv)), (some (.int x)), o4, o5] st w k n := by
  intro p e Rm s m args below meth c Qt C hret H locs ls hH hS hl
  have hm : ((3 : Nat), Value.int x) ∈ asL G [o0, o1, (some (.int pv)), (some (.int x)), o4, o5] := asL_mem (v := .int x) rfl
  obtain ⟨kq, hkq⟩ := List.getElem?_of_mem hm
  refine lv_iinc (v := x + (-1)) C.1 C.2.1 hdg (hasL_as hl) hkq (by rfl) (by decide) rfl (fun ls' h' => kk p e Rm s m args below meth c Qt C hret H locs ls' hH hS (hasL_set1 (x := .int (x + (-1))) h' ?_))
  intro j v hj
  match j, hj with
    | 0, hj => exact Or.inr ⟨by decide, (by simpa using hj), fun h => absurd h (by decide)⟩
    | 1, hj => exact Or.inr ⟨by decide, (by simpa using hj), fun h => absurd h (by decide)⟩
    | 2, hj => exact Or.inr ⟨by decide, (by simpa using hj), fun _ => by cases hj; simp [Value.category]⟩
    | 3, hj => exact Or.inl ⟨rfl, (Option.some.inj (Option.some.inj hj)).symm⟩
    | 4, hj => exact Or.inr ⟨by decide, (by simpa using hj), fun h => absurd h (by decide)⟩
    | 5, hj => exact Or.inr ⟨by decide, (by simpa using hj), fun h => absurd h (by decide)⟩
    | q + 6, hj => simp at hj
set_option maxRecDepth 100000 in
theorem inc_6_3_1_i {o0 o1 o4 o5 : Option Value} {pv : Int32} {x : Int32} (hdg : decode cc pc = .ok (.iinc 3 1, 3)) (kk : R G l y cc 6 ret d mc ms Q (pc + 3) [o0, o1, (some (.int pv)), (some (.int (x + 1))), o4, o5] st w k n) : R G l y cc 6 ret d mc ms Q pc [o0, o1, (some (.int pv)), (some (.int x)), o4, o5] st w k n := by
  intro p e Rm s m args below meth c Qt C hret H locs ls hH hS hl
  have hm : ((3 : Nat), Value.int x) ∈ asL G [o0, o1, (some (.int pv)), (some (.int x)), o4, o5] := asL_mem (v := .int x) rfl
  obtain ⟨kq, hkq⟩ := List.getElem?_of_mem hm
  refine lv_iinc (v := x + 1) C.1 C.2.1 hdg (hasL_as hl) hkq (by rfl) (by decide) rfl (fun ls' h' => kk p e Rm s m args below meth c Qt C hret H locs ls' hH hS (hasL_set1 (x := .int (x + 1)) h' ?_))
  intro j v hj
  match j, hj with
    | 0, hj => exact Or.inr ⟨by decide, hj, fun h => absurd h (by decide)⟩
    | 1, hj => exact Or.inr ⟨by decide, hj, fun h => absurd h (by decide)⟩
    | 2, hj => exact Or.inr ⟨by decide, hj, fun _ => by cases hj; simp [Value.category]⟩
    | 3, hj => exact Or.inl ⟨rfl, (Option.some.inj (Option.some.inj hj)).symm⟩
    | 4, hj => exact Or.inr ⟨by decide, hj, fun h => absurd h (by decide)⟩
    | 5, hj => exact Or.inr ⟨by decide, hj, fun h => absurd h (by decide)⟩
    | q + 6, hj => simp at hj
set_option maxRecDepth 100000 in
theorem inc_6_4_1_i {o0 o1 o2 o5 : Option Value} {pv : Int32} {x : Int32} (hdg : decode cc pc = .ok (.iinc 4 1, 3)) (kk : R G l y cc 6 ret d mc ms Q (pc + 3) [o0, o1, o2, (some (.int pv)), (some (.int (x + 1))), o5] st w k n) : R G l y cc 6 ret d mc ms Q pc [o0, o1, o2, (some (.int pv)), (some (.int x)), o5] st w k n := by
  intro p e Rm s m args below meth c Qt C hret H locs ls hH hS hl
  have hm : ((4 : Nat), Value.int x) ∈ asL G [o0, o1, o2, (some (.int pv)), (some (.int x)), o5] := asL_mem (v := .int x) rfl
  obtain ⟨kq, hkq⟩ := List.getElem?_of_mem hm
  refine lv_iinc (v := x + 1) C.1 C.2.1 hdg (hasL_as hl) hkq (by rfl) (by decide) rfl (fun ls' h' => kk p e Rm s m args below meth c Qt C hret H locs ls' hH hS (hasL_set1 (x := .int (x + 1)) h' ?_))
  intro j v hj
  match j, hj with
    | 0, hj => exact Or.inr ⟨by decide, hj, fun h => absurd h (by decide)⟩
    | 1, hj => exact Or.inr ⟨by decide, hj, fun h => absurd h (by decide)⟩
    | 2, hj => exact Or.inr ⟨by decide, hj, fun h => absurd h (by decide)⟩
    | 3, hj => exact Or.inr ⟨by decide, hj, fun _ => by cases hj; simp [Value.category]⟩
    | 4, hj => exact Or.inl ⟨rfl, (Option.some.inj (Option.some.inj hj)).symm⟩
    | 5, hj => exact Or.inr ⟨by decide, hj, fun h => absurd h (by decide)⟩
    | q + 6, hj => simp at hj
set_option maxRecDepth 100000 in
theorem inc_6_4_1_n {o0 o1 o2 o5 : Option Value} {x : Int32} (hdg : decode cc pc = .ok (.iinc 4 1, 3)) (kk : R G l y cc 6 ret d mc ms Q (pc + 3) [o0, o1, o2, none, (some (.int (x + 1))), o5] st w k n) : R G l y cc 6 ret d mc ms Q pc [o0, o1, o2, none, (some (.int x)), o5] st w k n := by
  intro p e Rm s m args below meth c Qt C hret H locs ls hH hS hl
  have hm : ((4 : Nat), Value.int x) ∈ asL G [o0, o1, o2, none, (some (.int x)), o5] := asL_mem (v := .int x) rfl
  obtain ⟨kq, hkq⟩ := List.getElem?_of_mem hm
  refine lv_iinc (v := x + 1) C.1 C.2.1 hdg (hasL_as hl) hkq (by rfl) (by decide) rfl (fun ls' h' => kk p e Rm s m args below meth c Qt C hret H locs ls' hH hS (hasL_set1 (x := .int (x + 1)) h' ?_))
  intro j v hj
  match j, hj with
    | 0, hj => exact Or.inr ⟨by decide, hj, fun h => absurd h (by decide)⟩
    | 1, hj => exact Or.inr ⟨by decide, hj, fun h => absurd h (by decide)⟩
    | 2, hj => exact Or.inr ⟨by decide, hj, fun h => absurd h (by decide)⟩
    | 3, hj => cases hj
    | 4, hj => exact Or.inl ⟨rfl, (Option.some.inj (Option.some.inj hj)).symm⟩
    | 5, hj => exact Or.inr ⟨by decide, hj, fun h => absurd h (by decide)⟩
    | q + 6, hj => simp at hj
set_option maxRecDepth 100000 in
theorem inc_6_5_1_i {o0 o1 o2 o3 : Option Value} {pv : Int32} {x : Int32} (hdg : decode cc pc = .ok (.iinc 5 1, 3)) (kk : R G l y cc 6 ret d mc ms Q (pc + 3) [o0, o1, o2, o3, (some (.int pv)), (some (.int (x + 1)))] st w k n) : R G l y cc 6 ret d mc ms Q pc [o0, o1, o2, o3, (some (.int pv)), (some (.int x))] st w k n := by
  intro p e Rm s m args below meth c Qt C hret H locs ls hH hS hl
  have hm : ((5 : Nat), Value.int x) ∈ asL G [o0, o1, o2, o3, (some (.int pv)), (some (.int x))] := asL_mem (v := .int x) rfl
  obtain ⟨kq, hkq⟩ := List.getElem?_of_mem hm
  refine lv_iinc (v := x + 1) C.1 C.2.1 hdg (hasL_as hl) hkq (by rfl) (by decide) rfl (fun ls' h' => kk p e Rm s m args below meth c Qt C hret H locs ls' hH hS (hasL_set1 (x := .int (x + 1)) h' ?_))
  intro j v hj
  match j, hj with
    | 0, hj => exact Or.inr ⟨by decide, hj, fun h => absurd h (by decide)⟩
    | 1, hj => exact Or.inr ⟨by decide, hj, fun h => absurd h (by decide)⟩
    | 2, hj => exact Or.inr ⟨by decide, hj, fun h => absurd h (by decide)⟩
    | 3, hj => exact Or.inr ⟨by decide, hj, fun h => absurd h (by decide)⟩
    | 4, hj => exact Or.inr ⟨by decide, hj, fun _ => by cases hj; simp [Value.category]⟩
    | 5, hj => exact Or.inl ⟨rfl, (Option.some.inj (Option.some.inj hj)).symm⟩
    | q + 6, hj => simp at hj
set_option maxRecDepth 100000 in
theorem inc_6_5_1_n {o0 o1 o2 o3 : Option Value} {x : Int32} (hdg : decode cc pc = .ok (.iinc 5 1, 3)) (kk : R G l y cc 6 ret d mc ms Q (pc + 3) [o0, o1, o2, o3, none, (some (.int (x + 1)))] st w k n) : R G l y cc 6 ret d mc ms Q pc [o0, o1, o2, o3, none, (some (.int x))] st w k n := by
  intro p e Rm s m args below meth c Qt C hret H locs ls hH hS hl
  have hm : ((5 : Nat), Value.int x) ∈ asL G [o0, o1, o2, o3, none, (some (.int x))] := asL_mem (v := .int x) rfl
  obtain ⟨kq, hkq⟩ := List.getElem?_of_mem hm
  refine lv_iinc (v := x + 1) C.1 C.2.1 hdg (hasL_as hl) hkq (by rfl) (by decide) rfl (fun ls' h' => kk p e Rm s m args below meth c Qt C hret H locs ls' hH hS (hasL_set1 (x := .int (x + 1)) h' ?_))
  intro j v hj
  match j, hj with
    | 0, hj => exact Or.inr ⟨by decide, hj, fun h => absurd h (by decide)⟩
    | 1, hj => exact Or.inr ⟨by decide, hj, fun h => absurd h (by decide)⟩
    | 2, hj => exact Or.inr ⟨by decide, hj, fun h => absurd h (by decide)⟩
    | 3, hj => exact Or.inr ⟨by decide, hj, fun h => absurd h (by decide)⟩
    | 4, hj => cases hj
    | 5, hj => exact Or.inl ⟨rfl, (Option.some.inj (Option.some.inj hj)).symm⟩
    | q + 6, hj => simp at hj
set_option maxRecDepth 100000 in
theorem inc_7_3_1_i {o0 o1 o4 o5 o6 : Option Value} {pv : Int32} {x : Int32} (hdg : decode cc pc = .ok (.iinc 3 1, 3)) (kk : R G l y cc 7 ret d mc ms Q (pc + 3) [o0, o1, (some (.int pv)), (some (.int (x + 1))), o4, o5, o6] st w k n) : R G l y cc 7 ret d mc ms Q pc [o0, o1, (some (.int pv)), (some (.int x)), o4, o5, o6] st w k n := by
  intro p e Rm s m args below meth c Qt C hret H locs ls hH hS hl
  have hm : ((3 : Nat), Value.int x) ∈ asL G [o0, o1, (some (.int pv)), (some (.int x)), o4, o5, o6] := asL_mem (v := .int x) rfl
  obtain ⟨kq, hkq⟩ := List.getElem?_of_mem hm
  refine lv_iinc (v := x + 1) C.1 C.2.1 hdg (hasL_as hl) hkq (by rfl) (by decide) rfl (fun ls' h' => kk p e Rm s m args below meth c Qt C hret H locs ls' hH hS (hasL_set1 (x := .int (x + 1)) h' ?_))
  intro j v hj
  match j, hj with
    | 0, hj => exact Or.inr ⟨by decide, hj, fun h => absurd h (by decide)⟩
    | 1, hj => exact Or.inr ⟨by decide, hj, fun h => absurd h (by decide)⟩
    | 2, hj => exact Or.inr ⟨by decide, hj, fun _ => by cases hj; simp [Value.category]⟩
    | 3, hj => exact Or.inl ⟨rfl, (Option.some.inj (Option.some.inj hj)).symm⟩
    | 4, hj => exact Or.inr ⟨by decide, hj, fun h => absurd h (by decide)⟩
    | 5, hj => exact Or.inr ⟨by decide, hj, fun h => absurd h (by decide)⟩
    | 6, hj => exact Or.inr ⟨by decide, hj, fun h => absurd h (by decide)⟩
    | q + 7, hj => simp at hj
set_option maxRecDepth 100000 in
theorem inc_7_4_1_n {o0 o1 o2 o5 o6 : Option Value} {x : Int32} (hdg : decode cc pc = .ok (.iinc 4 1, 3)) (kk : R G l y cc 7 ret d mc ms Q (pc + 3) [o0, o1, o2, none, (some (.int (x + 1))), o5, o6] st w k n) : R G l y cc 7 ret d mc ms Q pc [o0, o1, o2, none, (some (.int x)), o5, o6] st w k n := by
  intro p e Rm s m args below meth c Qt C hret H locs ls hH hS hl
  have hm : ((4 : Nat), Value.int x) ∈ asL G [o0, o1, o2, none, (some (.int x)), o5, o6] := asL_mem (v := .int x) rfl
  obtain ⟨kq, hkq⟩ := List.getElem?_of_mem hm
  refine lv_iinc (v := x + 1) C.1 C.2.1 hdg (hasL_as hl) hkq (by rfl) (by decide) rfl (fun ls' h' => kk p e Rm s m args below meth c Qt C hret H locs ls' hH hS (hasL_set1 (x := .int (x + 1)) h' ?_))
  intro j v hj
  match j, hj with
    | 0, hj => exact Or.inr ⟨by decide, hj, fun h => absurd h (by decide)⟩
    | 1, hj => exact Or.inr ⟨by decide, hj, fun h => absurd h (by decide)⟩
    | 2, hj => exact Or.inr ⟨by decide, hj, fun h => absurd h (by decide)⟩
    | 3, hj => cases hj
    | 4, hj => exact Or.inl ⟨rfl, (Option.some.inj (Option.some.inj hj)).symm⟩
    | 5, hj => exact Or.inr ⟨by decide, hj, fun h => absurd h (by decide)⟩
    | 6, hj => exact Or.inr ⟨by decide, hj, fun h => absurd h (by decide)⟩
    | q + 7, hj => simp at hj
set_option maxRecDepth 100000 in
theorem inc_7_5_1_i {o0 o1 o2 o3 o6 : Option Value} {pv : Int32} {x : Int32} (hdg : decode cc pc = .ok (.iinc 5 1, 3)) (kk : R G l y cc 7 ret d mc ms Q (pc + 3) [o0, o1, o2, o3, (some (.int pv)), (some (.int (x + 1))), o6] st w k n) : R G l y cc 7 ret d mc ms Q pc [o0, o1, o2, o3, (some (.int pv)), (some (.int x)), o6] st w k n := by
  intro p e Rm s m args below meth c Qt C hret H locs ls hH hS hl
  have hm : ((5 : Nat), Value.int x) ∈ asL G [o0, o1, o2, o3, (some (.int pv)), (some (.int x)), o6] := asL_mem (v := .int x) rfl
  obtain ⟨kq, hkq⟩ := List.getElem?_of_mem hm
  refine lv_iinc (v := x + 1) C.1 C.2.1 hdg (hasL_as hl) hkq (by rfl) (by decide) rfl (fun ls' h' => kk p e Rm s m args below meth c Qt C hret H locs ls' hH hS (hasL_set1 (x := .int (x + 1)) h' ?_))
  intro j v hj
  match j, hj with
    | 0, hj => exact Or.inr ⟨by decide, hj, fun h => absurd h (by decide)⟩
    | 1, hj => exact Or.inr ⟨by decide, hj, fun h => absurd h (by decide)⟩
    | 2, hj => exact Or.inr ⟨by decide, hj, fun h => absurd h (by decide)⟩
    | 3, hj => exact Or.inr ⟨by decide, hj, fun h => absurd h (by decide)⟩
    | 4, hj => exact Or.inr ⟨by decide, hj, fun _ => by cases hj; simp [Value.category]⟩
    | 5, hj => exact Or.inl ⟨rfl, (Option.some.inj (Option.some.inj hj)).symm⟩
    | 6, hj => exact Or.inr ⟨by decide, hj, fun h => absurd h (by decide)⟩
    | q + 7, hj => simp at hj
set_option maxRecDepth 100000 in
theorem inc_7_6_1_n {o0 o1 o2 o3 o4 : Option Value} {x : Int32} (hdg : decode cc pc = .ok (.iinc 6 1, 3)) (kk : R G l y cc 7 ret d mc ms Q (pc + 3) [o0, o1, o2, o3, o4, none, (some (.int (x + 1)))] st w k n) : R G l y cc 7 ret d mc ms Q pc [o0, o1, o2, o3, o4, none, (some (.int x))] st w k n := by
  intro p e Rm s m args below meth c Qt C hret H locs ls hH hS hl
  have hm : ((6 : Nat), Value.int x) ∈ asL G [o0, o1, o2, o3, o4, none, (some (.int x))] := asL_mem (v := .int x) rfl
  obtain ⟨kq, hkq⟩ := List.getElem?_of_mem hm
  refine lv_iinc (v := x + 1) C.1 C.2.1 hdg (hasL_as hl) hkq (by rfl) (by decide) rfl (fun ls' h' => kk p e Rm s m args below meth c Qt C hret H locs ls' hH hS (hasL_set1 (x := .int (x + 1)) h' ?_))
  intro j v hj
  match j, hj with
    | 0, hj => exact Or.inr ⟨by decide, hj, fun h => absurd h (by decide)⟩
    | 1, hj => exact Or.inr ⟨by decide, hj, fun h => absurd h (by decide)⟩
    | 2, hj => exact Or.inr ⟨by decide, hj, fun h => absurd h (by decide)⟩
    | 3, hj => exact Or.inr ⟨by decide, hj, fun h => absurd h (by decide)⟩
    | 4, hj => exact Or.inr ⟨by decide, hj, fun h => absurd h (by decide)⟩
    | 5, hj => cases hj
    | 6, hj => exact Or.inl ⟨rfl, (Option.some.inj (Option.some.inj hj)).symm⟩
    | q + 7, hj => simp at hj
set_option maxRecDepth 100000 in
theorem inc_8_5_1_i {o0 o1 o2 o3 o6 o7 : Option Value} {pv : Int32} {x : Int32} (hdg : decode cc pc = .ok (.iinc 5 1, 3)) (kk : R G l y cc 8 ret d mc ms Q (pc + 3) [o0, o1, o2, o3, (some (.int pv)), (some (.int (x + 1))), o6, o7] st w k n) : R G l y cc 8 ret d mc ms Q pc [o0, o1, o2, o3, (some (.int pv)), (some (.int x)), o6, o7] st w k n := by
  intro p e Rm s m args below meth c Qt C hret H locs ls hH hS hl
  have hm : ((5 : Nat), Value.int x) ∈ asL G [o0, o1, o2, o3, (some (.int pv)), (some (.int x)), o6, o7] := asL_mem (v := .int x) rfl
  obtain ⟨kq, hkq⟩ := List.getElem?_of_mem hm
  refine lv_iinc (v := x + 1) C.1 C.2.1 hdg (hasL_as hl) hkq (by rfl) (by decide) rfl (fun ls' h' => kk p e Rm s m args below meth c Qt C hret H locs ls' hH hS (hasL_set1 (x := .int (x + 1)) h' ?_))
  intro j v hj
  match j, hj with
    | 0, hj => exact Or.inr ⟨by decide, hj, fun h => absurd h (by decide)⟩
    | 1, hj => exact Or.inr ⟨by decide, hj, fun h => absurd h (by decide)⟩
    | 2, hj => exact Or.inr ⟨by decide, hj, fun h => absurd h (by decide)⟩
    | 3, hj => exact Or.inr ⟨by decide, hj, fun h => absurd h (by decide)⟩
    | 4, hj => exact Or.inr ⟨by decide, hj, fun _ => by cases hj; simp [Value.category]⟩
    | 5, hj => exact Or.inl ⟨rfl, (Option.some.inj (Option.some.inj hj)).symm⟩
    | 6, hj => exact Or.inr ⟨by decide, hj, fun h => absurd h (by decide)⟩
    | 7, hj => exact Or.inr ⟨by decide, hj, fun h => absurd h (by decide)⟩
    | q + 8, hj => simp at hj
set_option maxRecDepth 100000 in
theorem inc_8_7_1_i {o0 o1 o2 o3 o4 o5 : Option Value} {pv : Int32} {x : Int32} (hdg : decode cc pc = .ok (.iinc 7 1, 3)) (kk : R G l y cc 8 ret d mc ms Q (pc + 3) [o0, o1, o2, o3, o4, o5, (some (.int pv)), (some (.int (x + 1)))] st w k n) : R G l y cc 8 ret d mc ms Q pc [o0, o1, o2, o3, o4, o5, (some (.int pv)), (some (.int x))] st w k n := by
  intro p e Rm s m args below meth c Qt C hret H locs ls hH hS hl
  have hm : ((7 : Nat), Value.int x) ∈ asL G [o0, o1, o2, o3, o4, o5, (some (.int pv)), (some (.int x))] := asL_mem (v := .int x) rfl
  obtain ⟨kq, hkq⟩ := List.getElem?_of_mem hm
  refine lv_iinc (v := x + 1) C.1 C.2.1 hdg (hasL_as hl) hkq (by rfl) (by decide) rfl (fun ls' h' => kk p e Rm s m args below meth c Qt C hret H locs ls' hH hS (hasL_set1 (x := .int (x + 1)) h' ?_))
  intro j v hj
  match j, hj with
    | 0, hj => exact Or.inr ⟨by decide, hj, fun h => absurd h (by decide)⟩
    | 1, hj => exact Or.inr ⟨by decide, hj, fun h => absurd h (by decide)⟩
    | 2, hj => exact Or.inr ⟨by decide, hj, fun h => absurd h (by decide)⟩
    | 3, hj => exact Or.inr ⟨by decide, hj, fun h => absurd h (by decide)⟩
    | 4, hj => exact Or.inr ⟨by decide, hj, fun h => absurd h (by decide)⟩
    | 5, hj => exact Or.inr ⟨by decide, hj, fun h => absurd h (by decide)⟩
    | 6, hj => exact Or.inr ⟨by decide, hj, fun _ => by cases hj; simp [Value.category]⟩
    | 7, hj => exact Or.inl ⟨rfl, (Option.some.inj (Option.some.inj hj)).symm⟩
    | q + 8, hj => simp at hj
set_option maxRecDepth 100000 in
theorem inc_9_5_1_i {o0 o1 o2 o3 o6 o7 o8 : Option Value} {pv : Int32} {x : Int32} (hdg : decode cc pc = .ok (.iinc 5 1, 3)) (kk : R G l y cc 9 ret d mc ms Q (pc + 3) [o0, o1, o2, o3, (some (.int pv)), (some (.int (x + 1))), o6, o7, o8] st w k n) : R G l y cc 9 ret d mc ms Q pc [o0, o1, o2, o3, (some (.int pv)), (some (.int x)), o6, o7, o8] st w k n := by
  intro p e Rm s m args below meth c Qt C hret H locs ls hH hS hl
  have hm : ((5 : Nat), Value.int x) ∈ asL G [o0, o1, o2, o3, (some (.int pv)), (some (.int x)), o6, o7, o8] := asL_mem (v := .int x) rfl
  obtain ⟨kq, hkq⟩ := List.getElem?_of_mem hm
  refine lv_iinc (v := x + 1) C.1 C.2.1 hdg (hasL_as hl) hkq (by rfl) (by decide) rfl (fun ls' h' => kk p e Rm s m args below meth c Qt C hret H locs ls' hH hS (hasL_set1 (x := .int (x + 1)) h' ?_))
  intro j v hj
  match j, hj with
    | 0, hj => exact Or.inr ⟨by decide, hj, fun h => absurd h (by decide)⟩
    | 1, hj => exact Or.inr ⟨by decide, hj, fun h => absurd h (by decide)⟩
    | 2, hj => exact Or.inr ⟨by decide, hj, fun h => absurd h (by decide)⟩
    | 3, hj => exact Or.inr ⟨by decide, hj, fun h => absurd h (by decide)⟩
    | 4, hj => exact Or.inr ⟨by decide, hj, fun _ => by cases hj; simp [Value.category]⟩
    | 5, hj => exact Or.inl ⟨rfl, (Option.some.inj (Option.some.inj hj)).symm⟩
    | 6, hj => exact Or.inr ⟨by decide, hj, fun h => absurd h (by decide)⟩
    | 7, hj => exact Or.inr ⟨by decide, hj, fun h => absurd h (by decide)⟩
    | 8, hj => exact Or.inr ⟨by decide, hj, fun h => absurd h (by decide)⟩
    | q + 9, hj => simp at hj
set_option maxRecDepth 100000 in
theorem inc_9_7_1_i {o0 o1 o2 o3 o4 o5 o8 : Option Value} {pv : Int32} {x : Int32} (hdg : decode cc pc = .ok (.iinc 7 1, 3)) (kk : R G l y cc 9 ret d mc ms Q (pc + 3) [o0, o1, o2, o3, o4, o5, (some (.int pv)), (some (.int (x + 1))), o8] st w k n) : R G l y cc 9 ret d mc ms Q pc [o0, o1, o2, o3, o4, o5, (some (.int pv)), (some (.int x)), o8] st w k n := by
  intro p e Rm s m args below meth c Qt C hret H locs ls hH hS hl
  have hm : ((7 : Nat), Value.int x) ∈ asL G [o0, o1, o2, o3, o4, o5, (some (.int pv)), (some (.int x)), o8] := asL_mem (v := .int x) rfl
  obtain ⟨kq, hkq⟩ := List.getElem?_of_mem hm
  refine lv_iinc (v := x + 1) C.1 C.2.1 hdg (hasL_as hl) hkq (by rfl) (by decide) rfl (fun ls' h' => kk p e Rm s m args below meth c Qt C hret H locs ls' hH hS (hasL_set1 (x := .int (x + 1)) h' ?_))
  intro j v hj
  match j, hj with
    | 0, hj => exact Or.inr ⟨by decide, hj, fun h => absurd h (by decide)⟩
    | 1, hj => exact Or.inr ⟨by decide, hj, fun h => absurd h (by decide)⟩
    | 2, hj => exact Or.inr ⟨by decide, hj, fun h => absurd h (by decide)⟩
    | 3, hj => exact Or.inr ⟨by decide, hj, fun h => absurd h (by decide)⟩
    | 4, hj => exact Or.inr ⟨by decide, hj, fun h => absurd h (by decide)⟩
    | 5, hj => exact Or.inr ⟨by decide, hj, fun h => absurd h (by decide)⟩
    | 6, hj => exact Or.inr ⟨by decide, hj, fun _ => by cases hj; simp [Value.category]⟩
    | 7, hj => exact Or.inl ⟨rfl, (Option.some.inj (Option.some.inj hj)).symm⟩
    | 8, hj => exact Or.inr ⟨by decide, hj, fun h => absurd h (by decide)⟩
    | q + 9, hj => simp at hj
set_option maxRecDepth 100000 in
theorem inc_9_8_1_i {o0 o1 o2 o3 o4 o5 o6 : Option Value} {pv : Int32} {x : Int32} (hdg : decode cc pc = .ok (.iinc 8 1, 3)) (kk : R G l y cc 9 ret d mc ms Q (pc + 3) [o0, o1, o2, o3, o4, o5, o6, (some (.int pv)), (some (.int (x + 1)))] st w k n) : R G l y cc 9 ret d mc ms Q pc [o0, o1, o2, o3, o4, o5, o6, (some (.int pv)), (some (.int x))] st w k n := by
  intro p e Rm s m args below meth c Qt C hret H locs ls hH hS hl
  have hm : ((8 : Nat), Value.int x) ∈ asL G [o0, o1, o2, o3, o4, o5, o6, (some (.int pv)), (some (.int x))] := asL_mem (v := .int x) rfl
  obtain ⟨kq, hkq⟩ := List.getElem?_of_mem hm
  refine lv_iinc (v := x + 1) C.1 C.2.1 hdg (hasL_as hl) hkq (by rfl) (by decide) rfl (fun ls' h' => kk p e Rm s m args below meth c Qt C hret H locs ls' hH hS (hasL_set1 (x := .int (x + 1)) h' ?_))
  intro j v hj
  match j, hj with
    | 0, hj => exact Or.inr ⟨by decide, hj, fun h => absurd h (by decide)⟩
    | 1, hj => exact Or.inr ⟨by decide, hj, fun h => absurd h (by decide)⟩
    | 2, hj => exact Or.inr ⟨by decide, hj, fun h => absurd h (by decide)⟩
    | 3, hj => exact Or.inr ⟨by decide, hj, fun h => absurd h (by decide)⟩
    | 4, hj => exact Or.inr ⟨by decide, hj, fun h => absurd h (by decide)⟩
    | 5, hj => exact Or.inr ⟨by decide, hj, fun h => absurd h (by decide)⟩
    | 6, hj => exact Or.inr ⟨by decide, hj, fun h => absurd h (by decide)⟩
    | 7, hj => exact Or.inr ⟨by decide, hj, fun _ => by cases hj; simp [Value.category]⟩
    | 8, hj => exact Or.inl ⟨rfl, (Option.some.inj (Option.some.inj hj)).symm⟩
    | q + 9, hj => simp at hj
set_option maxRecDepth 100000 in
theorem st_1_0_i_x {o0 : Option Value} {x : Int32} (hdg : decode cc pc = .ok (.istore_n 0, 1)) (kk : R G l y cc 1 ret d mc ms Q (pc + 1) [(some (.int x))] st w k n) : R G l y cc 1 ret d mc ms Q pc [o0] (.int x :: st) w k n := by
  intro p e Rm s m args below meth c Qt C hret H locs ls hH hS hl
  refine lv_istore_n C.1 C.2.1 (x := x) hdg rfl (hasL_as hl) (by decide) rfl (fun ls' h' => kk p e Rm s m args below meth c Qt C hret H locs ls' hH hS (hasL_set1 (x := .int x) h' ?_))
  intro j v hj
  match j, hj with
    | 0, hj => exact Or.inl ⟨rfl, (Option.some.inj (Option.some.inj hj)).symm⟩
    | q + 1, hj => simp at hj
set_option maxRecDepth 100000 in
theorem st_10_3_i_i {o0 o1 o3 o4 o5 o6 o7 o8 o9 : Option Value} {pv : Int32} {x : Int32} (hdg : decode cc pc = .ok (.istore_n 3, 1)) (kk : R G l y cc 10 ret d mc ms Q (pc + 1) [o0, o1, (some (.int pv)), (some (.int x)), o4, o5, o6, o7, o8, o9] st w k n) : R G l y cc 10 ret d mc ms Q pc [o0, o1, (some (.int pv)), o3, o4, o5, o6, o7, o8, o9] (.int x :: st) w k n := by
  intro p e Rm s m args below meth c Qt C hret H locs ls hH hS hl
  refine lv_istore_n C.1 C.2.1 (x := x) hdg rfl (hasL_as hl) (by decide) rfl (fun ls' h' => kk p e Rm s m args below meth c Qt C hret H locs ls' hH hS (hasL_set1 (x := .int x) h' ?_))
  intro j v hj
  match j, hj with
    | 0, hj => exact Or.inr ⟨by decide, hj, fun h => absurd h (by decide)⟩
    | 1, hj => exact Or.inr ⟨by decide, hj, fun h => absurd h (by decide)⟩
    | 2, hj => exact Or.inr ⟨by decide, hj, fun _ => by cases hj; simp [Value.category]⟩
    | 3, hj => exact Or.inl ⟨rfl, (Option.some.inj (Option.some.inj hj)).symm⟩
    | 4, hj => exact Or.inr ⟨by decide, hj, fun h => absurd h (by decide)⟩
    | 5, hj => exact Or.inr ⟨by decide, hj, fun h => absurd h (by decide)⟩
    | 6, hj => exact Or.inr ⟨by decide, hj, fun h => absurd h (by decide)⟩
    | 7, hj => exact Or.inr ⟨by decide, hj, fun h => absurd h (by decide)⟩
    | 8, hj => exact Or.inr ⟨by decide, hj, fun h => absurd h (by decide)⟩
    | 9, hj => exact Or.inr ⟨by decide, hj, fun h => absurd h (by decide)⟩
    | q + 10, hj => simp at hj
set_option maxRecDepth 100000 in
theorem st_10_4_i_i {o0 o1 o2 o4 o5 o6 o7 o8 o9 : Option Value} {pv : Int32} {x : Int32} (hdg : decode cc pc = .ok (.istore 4, 2)) (kk : R G l y cc 10 ret d mc ms Q (pc + 2) [o0, o1, o2, (some (.int pv)), (some (.int x)), o5, o6, o7, o8, o9] st w k n) : R G l y cc 10 ret d mc ms Q pc [o0, o1, o2, (some (.int pv)), o4, o5, o6, o7, o8, o9] (.int x :: st) w k n := by
  intro p e Rm s m args below meth c Qt C hret H locs ls hH hS hl
  refine lv_istore C.1 C.2.1 (x := x) hdg (hasL_as hl) (by decide) rfl (fun ls' h' => kk p e Rm s m args below meth c Qt C hret H locs ls' hH hS (hasL_set1 (x := .int x) h' ?_))
  intro j v hj
  match j, hj with
    | 0, hj => exact Or.inr ⟨by decide, hj, fun h => absurd h (by decide)⟩
    | 1, hj => exact Or.inr ⟨by decide, hj, fun h => absurd h (by decide)⟩
    | 2, hj => exact Or.inr ⟨by decide, hj, fun h => absurd h (by decide)⟩
    | 3, hj => exact Or.inr ⟨by decide, hj, fun _ => by cases hj; simp [Value.category]⟩
    | 4, hj => exact Or.inl ⟨rfl, (Option.some.inj (Option.some.inj hj)).symm⟩
    | 5, hj => exact Or.inr ⟨by decide, hj, fun h => absurd h (by decide)⟩
    | 6, hj => exact Or.inr ⟨by decide, hj, fun h => absurd h (by decide)⟩
    | 7, hj => exact Or.inr ⟨by decide, hj, fun h => absurd h (by decide)⟩
    | 8, hj => exact Or.inr ⟨by decide, hj, fun h => absurd h (by decide)⟩
    | 9, hj => exact Or.inr ⟨by decide, hj, fun h => absurd h (by decide)⟩
    | q + 10, hj => simp at hj
set_option maxRecDepth 100000 in
theorem st_10_5_i_i {o0 o1 o2 o3 o5 o6 o7 o8 o9 : Option Value} {pv : Int32} {x : Int32} (hdg : decode cc pc = .ok (.istore 5, 2)) (kk : R G l y cc 10 ret d mc ms Q (pc + 2) [o0, o1, o2, o3, (some (.int pv)), (some (.int x)), o6, o7, o8, o9] st w k n) : R G l y cc 10 ret d mc ms Q pc [o0, o1, o2, o3, (some (.int pv)), o5, o6, o7, o8, o9] (.int x :: st) w k n := by
  intro p e Rm s m args below meth c Qt C hret H locs ls hH hS hl
  refine lv_istore C.1 C.2.1 (x := x) hdg (hasL_as hl) (by decide) rfl (fun ls' h' => kk p e Rm s m args below meth c Qt C hret H locs ls' hH hS (hasL_set1 (x := .int x) h' ?_))
  intro j v hj
  match j, hj with
    | 0, hj => exact Or.inr ⟨by decide, hj, fun h => absurd h (by decide)⟩
    | 1, hj => exact Or.inr ⟨by decide, hj, fun h => absurd h (by decide)⟩
    | 2, hj => exact Or.inr ⟨by decide, hj, fun h => absurd h (by decide)⟩
    | 3, hj => exact Or.inr ⟨by decide, hj, fun h => absurd h (by decide)⟩
    | 4, hj => exact Or.inr ⟨by decide, hj, fun _ => by cases hj; simp [Value.category]⟩
    | 5, hj => exact Or.inl ⟨rfl, (Option.some.inj (Option.some.inj hj)).symm⟩
    | 6, hj => exact Or.inr ⟨by decide, hj, fun h => absurd h (by decide)⟩
    | 7, hj => exact Or.inr ⟨by decide, hj, fun h => absurd h (by decide)⟩
    | 8, hj => exact Or.inr ⟨by decide, hj, fun h => absurd h (by decide)⟩
    | 9, hj => exact Or.inr ⟨by decide, hj, fun h => absurd h (by decide)⟩
    | q + 10, hj => simp at hj
set_option maxRecDepth 100000 in
theorem st_10_6_i_i {o0 o1 o2 o3 o4 o6 o7 o8 o9 : Option Value} {pv : Int32} {x : Int32} (hdg : decode cc pc = .ok (.istore 6, 2)) (kk : R G l y cc 10 ret d mc ms Q (pc + 2) [o0, o1, o2, o3, o4, (some (.int pv)), (some (.int x)), o7, o8, o9] st w k n) : R G l y cc 10 ret d mc ms Q pc [o0, o1, o2, o3, o4, (some (.int pv)), o6, o7, o8, o9] (.int x :: st) w k n := by
  intro p e Rm s m args below meth c Qt C hret H locs ls hH hS hl
  refine lv_istore C.1 C.2.1 (x := x) hdg (hasL_as hl) (by decide) rfl (fun ls' h' => kk p e Rm s m args below meth c Qt C hret H locs ls' hH hS (hasL_set1 (x := .int x) h' ?_))
  intro j v hj
  match j, hj with
    | 0, hj => exact Or.inr ⟨by decide, hj, fun h => absurd h (by decide)⟩
    | 1, hj => exact Or.inr ⟨by decide, hj, fun h => absurd h (by decide)⟩
    | 2, hj => exact Or.inr ⟨by decide, hj, fun h => absurd h (by decide)⟩
    | 3, hj => exact Or.inr ⟨by decide, hj, fun h => absurd h (by decide)⟩
    | 4, hj => exact Or.inr ⟨by decide, hj, fun h => absurd h (by decide)⟩
    | 5, hj => exact Or.inr ⟨by decide, hj, fun _ => by cases hj; simp [Value.category]⟩
    | 6, hj => exact Or.inl ⟨rfl, (Option.some.inj (Option.some.inj hj)).symm⟩
    | 7, hj => exact Or.inr ⟨by decide, hj, fun h => absurd h (by decide)⟩
    | 8, hj => exact Or.inr ⟨by decide, hj, fun h => absurd h (by decide)⟩
    | 9, hj => exact Or.inr ⟨by decide, hj, fun h => absurd h (by decide)⟩
    | q + 10, hj => simp at hj
set_option maxRecDepth 100000 in
theorem st_10_7_i_i {o0 o1 o2 o3 o4 o5 o7 o8 o9 : Option Value} {pv : Int32} {x : Int32} (hdg : decode cc pc = .ok (.istore 7, 2)) (kk : R G l y cc 10 ret d mc ms Q (pc + 2) [o0, o1, o2, o3, o4, o5, (some (.int pv)), (some (.int x)), o8, o9] st w k n) : R G l y cc 10 ret d mc ms Q pc [o0, o1, o2, o3, o4, o5, (some (.int pv)), o7, o8, o9] (.int x :: st) w k n := by
  intro p e Rm s m args below meth c Qt C hret H locs ls hH hS hl
  refine lv_istore C.1 C.2.1 (x := x) hdg (hasL_as hl) (by decide) rfl (fun ls' h' => kk p e Rm s m args below meth c Qt C hret H locs ls' hH hS (hasL_set1 (x := .int x) h' ?_))
  intro j v hj
  match j, hj with
    | 0, hj => exact Or.inr ⟨by decide, hj, fun h => absurd h (by decide)⟩
    | 1, hj => exact Or.inr ⟨by decide, hj, fun h => absurd h (by decide)⟩
    | 2, hj => exact Or.inr ⟨by decide, hj, fun h => absurd h (by decide)⟩
    | 3, hj => exact Or.inr ⟨by decide, hj, fun h => absurd h (by decide)⟩
    | 4, hj => exact Or.inr ⟨by decide, hj, fun h => absurd h (by decide)⟩
    | 5, hj => exact Or.inr ⟨by decide, hj, fun h => absurd h (by decide)⟩
    | 6, hj => exact Or.inr ⟨by decide, hj, fun _ => by cases hj; simp [Value.category]⟩
    | 7, hj => exact Or.inl ⟨rfl, (Option.some.inj (Option.some.inj hj)).symm⟩
    | 8, hj => exact Or.inr ⟨by decide, hj, fun h => absurd h (by decide)⟩
    | 9, hj => exact Or.inr ⟨by decide, hj, fun h => absurd h (by decide)⟩
    | q + 10, hj => simp at hj
set_option maxRecDepth 100000 in
theorem st_10_8_i_i {o0 o1 o2 o3 o4 o5 o6 o8 o9 : Option Value} {pv : Int32} {x : Int32} (hdg : decode cc pc = .ok (.istore 8, 2)) (kk : R G l y cc 10 ret d mc ms Q (pc + 2) [o0, o1, o2, o3, o4, o5, o6, (some (.int pv)), (some (.int x)), o9] st w k n) : R G l y cc 10 ret d mc ms Q pc [o0, o1, o2, o3, o4, o5, o6, (some (.int pv)), o8, o9] (.int x :: st) w k n := by
  intro p e Rm s m args below meth c Qt C hret H locs ls hH hS hl
  refine lv_istore C.1 C.2.1 (x := x) hdg (hasL_as hl) (by decide) rfl (fun ls' h' => kk p e Rm s m args below meth c Qt C hret H locs ls' hH hS (hasL_set1 (x := .int x) h' ?_))
  intro j v hj
  match j, hj with
    | 0, hj => exact Or.inr ⟨by decide, hj, fun h => absurd h (by decide)⟩
    | 1, hj => exact Or.inr ⟨by decide, hj, fun h => absurd h (by decide)⟩
    | 2, hj => exact Or.inr ⟨by decide, hj, fun h => absurd h (by decide)⟩
    | 3, hj => exact Or.inr ⟨by decide, hj, fun h => absurd h (by decide)⟩
    | 4, hj => exact Or.inr ⟨by decide, hj, fun h => absurd h (by decide)⟩
    | 5, hj => exact Or.inr ⟨by decide, hj, fun h => absurd h (by decide)⟩
    | 6, hj => exact Or.inr ⟨by decide, hj, fun h => absurd h (by decide)⟩
    | 7, hj => exact Or.inr ⟨by decide, hj, fun _ => by cases hj; simp [Value.category]⟩
    | 8, hj => exact Or.inl ⟨rfl, (Option.some.inj (Option.some.inj hj)).symm⟩
    | 9, hj => exact Or.inr ⟨by decide, hj, fun h => absurd h (by decide)⟩
    | q + 10, hj => simp at hj
set_option maxRecDepth 100000 in
theorem st_10_9_i_i {o0 o1 o2 o3 o4 o5 o6 o7 o9 : Option Value} {pv : Int32} {x : Int32} (hdg : decode cc pc = .ok (.istore 9, 2)) (kk : R G l y cc 10 ret d mc ms Q (pc + 2) [o0, o1, o2, o3, o4, o5, o6, o7, (some (.int pv)), (some (.int x))] st w k n) : R G l y cc 10 ret d mc ms Q pc [o0, o1, o2, o3, o4, o5, o6, o7, (some (.int pv)), o9] (.int x :: st) w k n := by
  intro p e Rm s m args below meth c Qt C hret H locs ls hH hS hl
  refine lv_istore C.1 C.2.1 (x := x) hdg (hasL_as hl) (by decide) rfl (fun ls' h' => kk p e Rm s m args below meth c Qt C hret H locs ls' hH hS (hasL_set1 (x := .int x) h' ?_))
  intro j v hj
  match j, hj with
    | 0, hj => exact Or.inr ⟨by decide, hj, fun h => absurd h (by decide)⟩
    | 1, hj => exact Or.inr ⟨by decide, hj, fun h => absurd h (by decide)⟩
    | 2, hj => exact Or.inr ⟨by decide, hj, fun h => absurd h (by decide)⟩
    | 3, hj => exact Or.inr ⟨by decide, hj, fun h => absurd h (by decide)⟩
    | 4, hj => exact Or.inr ⟨by decide, hj, fun h => absurd h (by decide)⟩
    | 5, hj => exact Or.inr ⟨by decide, hj, fun h => absurd h (by decide)⟩
    | 6, hj => exact Or.inr ⟨by decide, hj, fun h => absurd h (by decide)⟩
    | 7, hj => exact Or.inr ⟨by decide, hj, fun h => absurd h (by decide)⟩
    | 8, hj => exact Or.inr ⟨by decide, hj, fun _ => by cases hj; simp [Value.category]⟩
    | 9, hj => exact Or.inl ⟨rfl, (Option.some.inj (Option.some.inj hj)).symm⟩
    | q + 10, hj => simp at hj
set_option maxRecDepth 100000 in
theorem st_11_10_i_i {o0 o1 o2 o3 o4 o5 o6 o7 o8 o10 : Option Value} {pv : Int32} {x : Int32} (hdg : decode cc pc = .ok (.istore 10, 2)) (kk : R G l y cc 11 ret d mc ms Q (pc + 2) [o0, o1, o2, o3, o4, o5, o6, o7, o8, (some (.int pv)), (some (.int x))] st w k n) : R G l y cc 11 ret d mc ms Q pc [o0, o1, o2, o3, o4, o5, o6, o7, o8, (some (.int pv)), o10] (.int x :: st) w k n := by
  intro p e Rm s m args below meth c Qt C hret H locs ls hH hS hl
  refine lv_istore C.1 C.2.1 (x := x) hdg (hasL_as hl) (by decide) rfl (fun ls' h' => kk p e Rm s m args below meth c Qt C hret H locs ls' hH hS (hasL_set1 (x := .int x) h' ?_))
  intro j v hj
  match j, hj with
    | 0, hj => exact Or.inr ⟨by decide, hj, fun h => absurd h (by decide)⟩
    | 1, hj => exact Or.inr ⟨by decide, hj, fun h => absurd h (by decide)⟩
    | 2, hj => exact Or.inr ⟨by decide, hj, fun h => absurd h (by decide)⟩
    | 3, hj => exact Or.inr ⟨by decide, hj, fun h => absurd h (by decide)⟩
    | 4, hj => exact Or.inr ⟨by decide, hj, fun h => absurd h (by decide)⟩
    | 5, hj => exact Or.inr ⟨by decide, hj, fun h => absurd h (by decide)⟩
    | 6, hj => exact Or.inr ⟨by decide, hj, fun h => absurd h (by decide)⟩
    | 7, hj => exact Or.inr ⟨by decide, hj, fun h => absurd h (by decide)⟩
    | 8, hj => exact Or.inr ⟨by decide, hj, fun h => absurd h (by decide)⟩
    | 9, hj => exact Or.inr ⟨by decide, hj, fun _ => by cases hj; simp [Value.category]⟩
    | 10, hj => exact Or.inl ⟨rfl, (Option.some.inj (Option.some.inj hj)).symm⟩
    | q + 11, hj => simp at hj
set_option maxRecDepth 100000 in
theorem st_11_10_i_n {o0 o1 o2 o3 o4 o5 o6 o7 o8 o10 : Option Value} {x : Int32} (hdg : decode cc pc = .ok (.istore 10, 2)) (kk : R G l y cc 11 ret d mc ms Q (pc + 2) [o0, o1, o2, o3, o4, o5, o6, o7, o8, none, (some (.int x))] st w k n) : R G l y cc 11 ret d mc ms Q pc [o0, o1, o2, o3, o4, o5, o6, o7, o8, none, o10] (.int x :: st) w k n := by
  intro p e Rm s m args below meth c Qt C hret H locs ls hH hS hl
  refine lv_istore C.1 C.2.1 (x := x) hdg (hasL_as hl) (by decide) rfl (fun ls' h' => kk p e Rm s m args below meth c Qt C hret H locs ls' hH hS (hasL_set1 (x := .int x) h' ?_))
  intro j v hj
  match j, hj with
    | 0, hj => exact Or.inr ⟨by decide, hj, fun h => absurd h (by decide)⟩
    | 1, hj => exact Or.inr ⟨by decide, hj, fun h => absurd h (by decide)⟩
    | 2, hj => exact Or.inr ⟨by decide, hj, fun h => absurd h (by decide)⟩
    | 3, hj => exact Or.inr ⟨by decide, hj, fun h => absurd h (by decide)⟩
    | 4, hj => exact Or.inr ⟨by decide, hj, fun h => absurd h (by decide)⟩
    | 5, hj => exact Or.inr ⟨by decide, hj, fun h => absurd h (by decide)⟩
    | 6, hj => exact Or.inr ⟨by decide, hj, fun h => absurd h (by decide)⟩
    | 7, hj => exact Or.inr ⟨by decide, hj, fun h => absurd h (by decide)⟩
    | 8, hj => exact Or.inr ⟨by decide, hj, fun h => absurd h (by decide)⟩
    | 9, hj => cases hj
    | 10, hj => exact Or.inl ⟨rfl, (Option.some.inj (Option.some.inj hj)).symm⟩
    | q + 11, hj => simp at hj
set_option maxRecDepth 100000 in
theorem st_11_3_i_i {o0 o1 o3 o4 o5 o6 o7 o8 o9 o10 : Option Value} {pv : Int32} {x : Int32} (hdg : decode cc pc = .ok (.istore_n 3, 1)) (kk : R G l y cc 11 ret d mc ms Q (pc + 1) [o0, o1, (some (.int pv)), (some (.int x)), o4, o5, o6, o7, o8, o9, o10] st w k n) : R G l y cc 11 ret d mc ms Q pc [o0, o1, (some (.int pv)), o3, o4, o5, o6, o7, o8, o9, o10] (.int x :: st) w k n := by
  intro p e Rm s m args below meth c Qt C hret H locs ls hH hS hl
  refine lv_istore_n C.1 C.2.1 (x := x) hdg rfl (hasL_as hl) (by decide) rfl (fun ls' h' => kk p e Rm s m args below meth c Qt C hret H locs ls' hH hS (hasL_set1 (x := .int x) h' ?_))
  intro j v hj
  match j, hj with
    | 0, hj => exact Or.inr ⟨by decide, hj, fun h => absurd h (by decide)⟩
    | 1, hj => exact Or.inr ⟨by decide, hj, fun h => absurd h (by decide)⟩
    | 2, hj => exact Or.inr ⟨by decide, hj, fun _ => by cases hj; simp [Value.category]⟩
    | 3, hj => exact Or.inl ⟨rfl, (Option.some.inj (Option.some.inj hj)).symm⟩
    | 4, hj => exact Or.inr ⟨by decide, hj, fun h => absurd h (by decide)⟩
    | 5, hj => exact Or.inr ⟨by decide, hj, fun h => absurd h (by decide)⟩
    | 6, hj => exact Or.inr ⟨by decide, hj, fun h => absurd h (by decide)⟩
    | 7, hj => exact Or.inr ⟨by decide, hj, fun h => absurd h (by decide)⟩
    | 8, hj => exact Or.inr ⟨by decide, hj, fun h => absurd h (by decide)⟩
    | 9, hj => exact Or.inr ⟨by decide, hj, fun h => absurd h (by decide)⟩
    | 10, hj => exact Or.inr ⟨by decide, hj, fun h => absurd h (by decide)⟩
    | q + 11, hj => simp at hj
set_option maxRecDepth 100000 in
theorem st_11_4_i_i {o0 o1 o2 o4 o5 o6 o7 o8 o9 o10 : Option Value} {pv : Int32} {x : Int32} (hdg : decode cc pc = .ok (.istore 4, 2)) (kk : R G l y cc 11 ret d mc ms Q (pc + 2) [o0, o1, o2, (some (.int pv)), (some (.int x)), o5, o6, o7, o8, o9, o10] st w k n) : R G l y cc 11 ret d mc ms Q pc [o0, o1, o2, (some (.int pv)), o4, o5, o6, o7, o8, o9, o10] (.int x :: st) w k n := by
  intro p e Rm s m args below meth c Qt C hret H locs ls hH hS hl
  refine lv_istore C.1 C.2.1 (x := x) hdg (hasL_as hl) (by decide) rfl (fun ls' h' => kk p e Rm s m args below meth c Qt C hret H locs ls' hH hS (hasL_set1 (x := .int x) h' ?_))
  intro j v hj
  match j, hj with
    | 0, hj => exact Or.inr ⟨by decide, hj, fun h => absurd h (by decide)⟩
    | 1, hj => exact Or.inr ⟨by decide, hj, fun h => absurd h (by decide)⟩
    | 2, hj => exact Or.inr ⟨by decide, hj, fun h => absurd h (by decide)⟩
    | 3, hj => exact Or.inr ⟨by decide, hj, fun _ => by cases hj; simp [Value.category]⟩
    | 4, hj => exact Or.inl ⟨rfl, (Option.some.inj (Option.some.inj hj)).symm⟩
    | 5, hj => exact Or.inr ⟨by decide, hj, fun h => absurd h (by decide)⟩
    | 6, hj => exact Or.inr ⟨by decide, hj, fun h => absurd h (by decide)⟩
    | 7, hj => exact Or.inr ⟨by decide, hj, fun h => absurd h (by decide)⟩
    | 8, hj => exact Or.inr ⟨by decide, hj, fun h => absurd h (by decide)⟩
    | 9, hj => exact Or.inr ⟨by decide, hj, fun h => absurd h (by decide)⟩
    | 10, hj => exact Or.inr ⟨by decide, hj, fun h => absurd h (by decide)⟩
    | q + 11, hj => simp at hj
set_option maxRecDepth 100000 in
theorem st_11_4_l_i {o0 o1 o2 o4 o5 o6 o7 o8 o9 o10 : Option Value} {pv : Int32} {x : Int64} (hdg : decode cc pc = .ok (.lstore 4, 2)) (kk : R G l y cc 11 ret d mc ms Q (pc + 2) [o0, o1, o2, (some (.int pv)), (some (.long x)), none, o6, o7, o8, o9, o10] st w k n) : R G l y cc 11 ret d mc ms Q pc [o0, o1, o2, (some (.int pv)), o4, o5, o6, o7, o8, o9, o10] (.long x :: st) w k n := by
  intro p e Rm s m args below meth c Qt C hret H locs ls hH hS hl
  refine lv_lstore C.1 C.2.1 (x := x) hdg (hasL_as hl) (by decide) rfl (fun ls' h' => kk p e Rm s m args below meth c Qt C hret H locs ls' hH hS (hasL_set2 (x := .long x) h' ?_))
  intro j v hj
  match j, hj with
    | 0, hj => exact Or.inr ⟨by decide, by decide, hj, fun h => absurd h (by decide)⟩
    | 1, hj => exact Or.inr ⟨by decide, by decide, hj, fun h => absurd h (by decide)⟩
    | 2, hj => exact Or.inr ⟨by decide, by decide, hj, fun h => absurd h (by decide)⟩
    | 3, hj => exact Or.inr ⟨by decide, by decide, hj, fun _ => by cases hj; simp [Value.category]⟩
    | 4, hj => exact Or.inl ⟨rfl, (Option.some.inj (Option.some.inj hj)).symm⟩
    | 5, hj => cases hj
    | 6, hj => exact Or.inr ⟨by decide, by decide, hj, fun h => absurd h (by decide)⟩
    | 7, hj => exact Or.inr ⟨by decide, by decide, hj, fun h => absurd h (by decide)⟩
    | 8, hj => exact Or.inr ⟨by decide, by decide, hj, fun h => absurd h (by decide)⟩
    | 9, hj => exact Or.inr ⟨by decide, by decide, hj, fun h => absurd h (by decide)⟩
    | 10, hj => exact Or.inr ⟨by decide, by decide, hj, fun h => absurd h (by decide)⟩
    | q + 11, hj => simp at hj
set_option maxRecDepth 100000 in
theorem st_11_5_i_i {o0 o1 o2 o3 o5 o6 o7 o8 o9 o10 : Option Value} {pv : Int32} {x : Int32} (hdg : decode cc pc = .ok (.istore 5, 2)) (kk : R G l y cc 11 ret d mc ms Q (pc + 2) [o0, o1, o2, o3, (some (.int pv)), (some (.int x)), o6, o7, o8, o9, o10] st w k n) : R G l y cc 11 ret d mc ms Q pc [o0, o1, o2, o3, (some (.int pv)), o5, o6, o7, o8, o9, o10] (.int x :: st) w k n := by
  intro p e Rm s m args below meth c Qt C hret H locs ls hH hS hl
  refine lv_istore C.1 C.2.1 (x := x) hdg (hasL_as hl) (by decide) rfl (fun ls' h' => kk p e Rm s m args below meth c Qt C hret H locs ls' hH hS (hasL_set1 (x := .int x) h' ?_))
  intro j v hj
  match j, hj with
    | 0, hj => exact Or.inr ⟨by decide, hj, fun h => absurd h (by decide)⟩
    | 1, hj => exact Or.inr ⟨by decide, hj, fun h => absurd h (by decide)⟩
    | 2, hj => exact Or.inr ⟨by decide, hj, fun h => absurd h (by decide)⟩
    | 3, hj => exact Or.inr ⟨by decide, hj, fun h => absurd h (by decide)⟩
    | 4, hj => exact Or.inr ⟨by decide, hj, fun _ => by cases hj; simp [Value.category]⟩
    | 5, hj => exact Or.inl ⟨rfl, (Option.some.inj (Option.some.inj hj)).symm⟩
    | 6, hj => exact Or.inr ⟨by decide, hj, fun h => absurd h (by decide)⟩
    | 7, hj => exact Or.inr ⟨by decide, hj, fun h => absurd h (by decide)⟩
    | 8, hj => exact Or.inr ⟨by decide, hj, fun h => absurd h (by decide)⟩
    | 9, hj => exact Or.inr ⟨by decide, hj, fun h => absurd h (by decide)⟩
    | 10, hj => exact Or.inr ⟨by decide, hj, fun h => absurd h (by decide)⟩
    | q + 11, hj => simp at hj
set_option maxRecDepth 100000 in
theorem st_11_6_i_i {o0 o1 o2 o3 o4 o6 o7 o8 o9 o10 : Option Value} {pv : Int32} {x : Int32} (hdg : decode cc pc = .ok (.istore 6, 2)) (kk : R G l y cc 11 ret d mc ms Q (pc + 2) [o0, o1, o2, o3, o4, (some (.int pv)), (some (.int x)), o7, o8, o9, o10] st w k n) : R G l y cc 11 ret d mc ms Q pc [o0, o1, o2, o3, o4, (some (.int pv)), o6, o7, o8, o9, o10] (.int x :: st) w k n := by
  intro p e Rm s m args below meth c Qt C hret H locs ls hH hS hl
  refine lv_istore C.1 C.2.1 (x := x) hdg (hasL_as hl) (by decide) rfl (fun ls' h' => kk p e Rm s m args below meth c Qt C hret H locs ls' hH hS (hasL_set1 (x := .int x) h' ?_))
  intro j v hj
  match j, hj with
    | 0, hj => exact Or.inr ⟨by decide, hj, fun h => absurd h (by decide)⟩
    | 1, hj => exact Or.inr ⟨by decide, hj, fun h => absurd h (by decide)⟩
    | 2, hj => exact Or.inr ⟨by decide, hj, fun h => absurd h (by decide)⟩
    | 3, hj => exact Or.inr ⟨by decide, hj, fun h => absurd h (by decide)⟩
    | 4, hj => exact Or.inr ⟨by decide, hj, fun h => absurd h (by decide)⟩
    | 5, hj => exact Or.inr ⟨by decide, hj, fun _ => by cases hj; simp [Value.category]⟩
    | 6, hj => exact Or.inl ⟨rfl, (Option.some.inj (Option.some.inj hj)).symm⟩
    | 7, hj => exact Or.inr ⟨by decide, hj, fun h => absurd h (by decide)⟩
    | 8, hj => exact Or.inr ⟨by decide, hj, fun h => absurd h (by decide)⟩
    | 9, hj => exact Or.inr ⟨by decide, hj, fun h => absurd h (by decide)⟩
    | 10, hj => exact Or.inr ⟨by decide, hj, fun h => absurd h (by decide)⟩
    | q + 11, hj => simp at hj
set_option maxRecDepth 100000 in
theorem st_11_6_i_n {o0 o1 o2 o3 o4 o6 o7 o8 o9 o10 : Option Value} {x : Int32} (hdg : decode cc pc = .ok (.istore 6, 2)) (kk : R G l y cc 11 ret d mc ms Q (pc + 2) [o0, o1, o2, o3, o4, none, (some (.int x)), o7, o8, o9, o10] st w k n) : R G l y cc 11 ret d mc ms Q pc [o0, o1, o2, o3, o4, none, o6, o7, o8, o9, o10] (.int x :: st) w k n := by
  intro p e Rm s m args below meth c Qt C hret H locs ls hH hS hl
  refine lv_istore C.1 C.2.1 (x := x) hdg (hasL_as hl) (by decide) rfl (fun ls' h' => kk p e Rm s m args below meth c Qt C hret H locs ls' hH hS (hasL_set1 (x := .int x) h' ?_))
  intro j v hj
  match j, hj with
    | 0, hj => exact Or.inr ⟨by decide, hj, fun h => absurd h (by decide)⟩
    | 1, hj => exact Or.inr ⟨by decide, hj, fun h => absurd h (by decide)⟩
    | 2, hj => exact Or.inr ⟨by decide, hj, fun h => absurd h (by decide)⟩
    | 3, hj => exact Or.inr ⟨by decide, hj, fun h => absurd h (by decide)⟩
    | 4, hj => exact Or.inr ⟨by decide, hj, fun h => absurd h (by decide)⟩
    | 5, hj => cases hj
    | 6, hj => exact Or.inl ⟨rfl, (Option.some.inj (Option.some.inj hj)).symm⟩
    | 7, hj => exact Or.inr ⟨by decide, hj, fun h => absurd h (by decide)⟩
    | 8, hj => exact Or.inr ⟨by decide, hj, fun h => absurd h (by decide)⟩
    | 9, hj => exact Or.inr ⟨by decide, hj, fun h => absurd h (by decide)⟩
    | 10, hj => exact Or.inr ⟨by decide, hj, fun h => absurd h (by decide)⟩
    | q + 11, hj => simp at hj
set_option maxRecDepth 100000 in
theorem st_11_6_l_i {o0 o1 o2 o3 o4 o6 o7 o8 o9 o10 : Option Value} {pv : Int32} {x : Int64} (hdg : decode cc pc = .ok (.lstore 6, 2)) (kk : R G l y cc 11 ret d mc ms Q (pc + 2) [o0, o1, o2, o3, o4, (some (.int pv)), (some (.long x)), none, o8, o9, o10] st w k n) : R G l y cc 11 ret d mc ms Q pc [o0, o1, o2, o3, o4, (some (.int pv)), o6, o7, o8, o9, o10] (.long x :: st) w k n := by
  intro p e Rm s m args below meth c Qt C hret H locs ls hH hS hl
  refine lv_lstore C.1 C.2.1 (x := x) hdg (hasL_as hl) (by decide) rfl (fun ls' h' => kk p e Rm s m args below meth c Qt C hret H locs ls' hH hS (hasL_set2 (x := .long x) h' ?_))
  intro j v hj
  match j, hj with
    | 0, hj => exact Or.inr ⟨by decide, by decide, hj, fun h => absurd h (by decide)⟩
    | 1, hj => exact Or.inr ⟨by decide, by decide, hj, fun h => absurd h (by decide)⟩
    | 2, hj => exact Or.inr ⟨by decide, by decide, hj, fun h => absurd h (by decide)⟩
    | 3, hj => exact Or.inr ⟨by decide, by decide, hj, fun h => absurd h (by decide)⟩
    | 4, hj => exact Or.inr ⟨by decide, by decide, hj, fun h => absurd h (by decide)⟩
    | 5, hj => exact Or.inr ⟨by decide, by decide, hj, fun _ => by cases hj; simp [Value.category]⟩
    | 6, hj => exact Or.inl ⟨rfl, (Option.some.inj (Option.some.inj hj)).symm⟩
    | 7, hj => cases hj
    | 8, hj => exact Or.inr ⟨by decide, by decide, hj, fun h => absurd h (by decide)⟩
    | 9, hj => exact Or.inr ⟨by decide, by decide, hj, fun h => absurd h (by decide)⟩
    | 10, hj => exact Or.inr ⟨by decide, by decide, hj, fun h => absurd h (by decide)⟩
    | q + 11, hj => simp at hj
set_option maxRecDepth 100000 in
theorem st_11_7_i_i {o0 o1 o2 o3 o4 o5 o7 o8 o9 o10 : Option Value} {pv : Int32} {x : Int32} (hdg : decode cc pc = .ok (.istore 7, 2)) (kk : R G l y cc 11 ret d mc ms Q (pc + 2) [o0, o1, o2, o3, o4, o5, (some (.int pv)), (some (.int x)), o8, o9, o10] st w k n) : R G l y cc 11 ret d mc ms Q pc [o0, o1, o2, o3, o4, o5, (some (.int pv)), o7, o8, o9, o10] (.int x :: st) w k n := by
  intro p e Rm s m args below meth c Qt C hret H locs ls hH hS hl
  refine lv_istore C.1 C.2.1 (x := x) hdg (hasL_as hl) (by decide) rfl (fun ls' h' => kk p e Rm s m args below meth c Qt C hret H locs ls' hH hS (hasL_set1 (x := .int x) h' ?_))
  intro j v hj
  match j, hj with
    | 0, hj => exact Or.inr ⟨by decide, hj, fun h => absurd h (by decide)⟩
    | 1, hj => exact Or.inr ⟨by decide, hj, fun h => absurd h (by decide)⟩
    | 2, hj => exact Or.inr ⟨by decide, hj, fun h => absurd h (by decide)⟩
    | 3, hj => exact Or.inr ⟨by decide, hj, fun h => absurd h (by decide)⟩
    | 4, hj => exact Or.inr ⟨by decide, hj, fun h => absurd h (by decide)⟩
    | 5, hj => exact Or.inr ⟨by decide, hj, fun h => absurd h (by decide)⟩
    | 6, hj => exact Or.inr ⟨by decide, hj, fun _ => by cases hj; simp [Value.category]⟩
    | 7, hj => exact Or.inl ⟨rfl, (Option.some.inj (Option.some.inj hj)).symm⟩
    | 8, hj => exact Or.inr ⟨by decide, hj, fun h => absurd h (by decide)⟩
    | 9, hj => exact Or.inr ⟨by decide, hj, fun h => absurd h (by decide)⟩
    | 10, hj => exact Or.inr ⟨by decide, hj, fun h => absurd h (by decide)⟩
    | q + 11, hj => simp at hj
set_option maxRecDepth 100000 in
theorem st_11_8_i_i {o0 o1 o2 o3 o4 o5 o6 o8 o9 o10 : Option Value} {pv : Int32} {x : Int32} (hdg : decode cc pc = .ok (.istore 8, 2)) (kk : R G l y cc 11 ret d mc ms Q (pc + 2) [o0, o1, o2, o3, o4, o5, o6, (some (.int pv)), (some (.int x)), o9, o10] st w k n) : R G l y cc 11 ret d mc ms Q pc [o0, o1, o2, o3, o4, o5, o6, (some (.int pv)), o8, o9, o10] (.int x :: st) w k n := by
  intro p e Rm s m args below meth c Qt C hret H locs ls hH hS hl
  refine lv_istore C.1 C.2.1 (x := x) hdg (hasL_as hl) (by decide) rfl (fun ls' h' => kk p e Rm s m args below meth c Qt C hret H locs ls' hH hS (hasL_set1 (x := .int x) h' ?_))
  intro j v hj
  match j, hj with
    | 0, hj => exact Or.inr ⟨by decide, hj, fun h => absurd h (by decide)⟩
    | 1, hj => exact Or.inr ⟨by decide, hj, fun h => absurd h (by decide)⟩
    | 2, hj => exact Or.inr ⟨by decide, hj, fun h => absurd h (by decide)⟩
    | 3, hj => exact Or.inr ⟨by decide, hj, fun h => absurd h (by decide)⟩
    | 4, hj => exact Or.inr ⟨by decide, hj, fun h => absurd h (by decide)⟩
    | 5, hj => exact Or.inr ⟨by decide, hj, fun h => absurd h (by decide)⟩
    | 6, hj => exact Or.inr ⟨by decide, hj, fun h => absurd h (by decide)⟩
    | 7, hj => exact Or.inr ⟨by decide, hj, fun _ => by cases hj; simp [Value.category]⟩
    | 8, hj => exact Or.inl ⟨rfl, (Option.some.inj (Option.some.inj hj)).symm⟩
    | 9, hj => exact Or.inr ⟨by decide, hj, fun h => absurd h (by decide)⟩
    | 10, hj => exact Or.inr ⟨by decide, hj, fun h => absurd h (by decide)⟩
    | q + 11, hj => simp at hj
set_option maxRecDepth 100000 in
theorem st_11_8_l_i {o0 o1 o2 o3 o4 o5 o6 o8 o9 o10 : Option Value} {pv : Int32} {x : Int64} (hdg : decode cc pc = .ok (.lstore 8, 2)) (kk : R G l y cc 11 ret d mc ms Q (pc + 2) [o0, o1, o2, o3, o4, o5, o6, (some (.int pv)), (some (.long x)), none, o10] st w k n) : R G l y cc 11 ret d mc ms Q pc [o0, o1, o2, o3, o4, o5, o6, (some (.int pv)), o8, o9, o10] (.long x :: st) w k n := by
  intro p e Rm s m args below meth c Qt C hret H locs ls hH hS hl
  refine lv_lstore C.1 C.2.1 (x := x) hdg (hasL_as hl) (by decide) rfl (fun ls' h' => kk p e Rm s m args below meth c Qt C hret H locs ls' hH hS (hasL_set2 (x := .long x) h' ?_))
  intro j v hj
  match j, hj with
    | 0, hj => exact Or.inr ⟨by decide, by decide, hj, fun h => absurd h (by decide)⟩
    | 1, hj => exact Or.inr ⟨by decide, by decide, hj, fun h => absurd h (by decide)⟩
    | 2, hj => exact Or.inr ⟨by decide, by decide, hj, fun h => absurd h (by decide)⟩
    | 3, hj => exact Or.inr ⟨by decide, by decide, hj, fun h => absurd h (by decide)⟩
    | 4, hj => exact Or.inr ⟨by decide, by decide, hj, fun h => absurd h (by decide)⟩
    | 5, hj => exact Or.inr ⟨by decide, by decide, hj, fun h => absurd h (by decide)⟩
    | 6, hj => exact Or.inr ⟨by decide, by decide, hj, fun h => absurd h (by decide)⟩
    | 7, hj => exact Or.inr ⟨by decide, by decide, hj, fun _ => by cases hj; simp [Value.category]⟩
    | 8, hj => exact Or.inl ⟨rfl, (Option.some.inj (Option.some.inj hj)).symm⟩
    | 9, hj => cases hj
    | 10, hj => exact Or.inr ⟨by decide, by decide, hj, fun h => absurd h (by decide)⟩
    | q + 11, hj => simp at hj
set_option maxRecDepth 100000 in
theorem st_11_8_l_n {o0 o1 o2 o3 o4 o5 o6 o8 o9 o10 : Option Value} {x : Int64} (hdg : decode cc pc = .ok (.lstore 8, 2)) (kk : R G l y cc 11 ret d mc ms Q (pc + 2) [o0, o1, o2, o3, o4, o5, o6, none, (some (.long x)), none, o10] st w k n) : R G l y cc 11 ret d mc ms Q pc [o0, o1, o2, o3, o4, o5, o6, none, o8, o9, o10] (.long x :: st) w k n := by
  intro p e Rm s m args below meth c Qt C hret H locs ls hH hS hl
  refine lv_lstore C.1 C.2.1 (x := x) hdg (hasL_as hl) (by decide) rfl (fun ls' h' => kk p e Rm s m args below meth c Qt C hret H locs ls' hH hS (hasL_set2 (x := .long x) h' ?_))
  intro j v hj
  match j, hj with
    | 0, hj => exact Or.inr ⟨by decide, by decide, hj, fun h => absurd h (by decide)⟩
    | 1, hj => exact Or.inr ⟨by decide, by decide, hj, fun h => absurd h (by decide)⟩
    | 2, hj => exact Or.inr ⟨by decide, by decide, hj, fun h => absurd h (by decide)⟩
    | 3, hj => exact Or.inr ⟨by decide, by decide, hj, fun h => absurd h (by decide)⟩
    | 4, hj => exact Or.inr ⟨by decide, by decide, hj, fun h => absurd h (by decide)⟩
    | 5, hj => exact Or.inr ⟨by decide, by decide, hj, fun h => absurd h (by decide)⟩
    | 6, hj => exact Or.inr ⟨by decide, by decide, hj, fun h => absurd h (by decide)⟩
    | 7, hj => cases hj
    | 8, hj => exact Or.inl ⟨rfl, (Option.some.inj (Option.some.inj hj)).symm⟩
    | 9, hj => cases hj
    | 10, hj => exact Or.inr ⟨by decide, by decide, hj, fun h => absurd h (by decide)⟩
    | q + 11, hj => simp at hj
set_option maxRecDepth 100000 in
theorem st_11_9_i_i {o0 o1 o2 o3 o4 o5 o6 o7 o9 o10 : Option Value} {pv : Int32} {x : Int32} (hdg : decode cc pc = .ok (.istore 9, 2)) (kk : R G l y cc 11 ret d mc ms Q (pc + 2) [o0, o1, o2, o3, o4, o5, o6, o7, (some (.int pv)), (some (.int x)), o10] st w k n) : R G l y cc 11 ret d mc ms Q pc [o0, o1, o2, o3, o4, o5, o6, o7, (some (.int pv)), o9, o10] (.int x :: st) w k n := by
  intro p e Rm s m args below meth c Qt C hret H locs ls hH hS hl
  refine lv_istore C.1 C.2.1 (x := x) hdg (hasL_as hl) (by decide) rfl (fun ls' h' => kk p e Rm s m args below meth c Qt C hret H locs ls' hH hS (hasL_set1 (x := .int x) h' ?_))
  intro j v hj
  match j, hj with
    | 0, hj => exact Or.inr ⟨by decide, hj, fun h => absurd h (by decide)⟩
    | 1, hj => exact Or.inr ⟨by decide, hj, fun h => absurd h (by decide)⟩
    | 2, hj => exact Or.inr ⟨by decide, hj, fun h => absurd h (by decide)⟩
    | 3, hj => exact Or.inr ⟨by decide, hj, fun h => absurd h (by decide)⟩
    | 4, hj => exact Or.inr ⟨by decide, hj, fun h => absurd h (by decide)⟩
    | 5, hj => exact Or.inr ⟨by decide, hj, fun h => absurd h (by decide)⟩
    | 6, hj => exact Or.inr ⟨by decide, hj, fun h => absurd h (by decide)⟩
    | 7, hj => exact Or.inr ⟨by decide, hj, fun h => absurd h (by decide)⟩
    | 8, hj => exact Or.inr ⟨by decide, hj, fun _ => by cases hj; simp [Value.category]⟩
    | 9, hj => exact Or.inl ⟨rfl, (Option.some.inj (Option.some.inj hj)).symm⟩
    | 10, hj => exact Or.inr ⟨by decide, hj, fun h => absurd h (by decide)⟩
    | q + 11, hj => simp at hj
set_option maxRecDepth 100000 in
theorem st_2_0_l_x {o0 o1 : Option Value} {x : Int64} (hdg : decode cc pc = .ok (.lstore_n 0, 1)) (kk : R G l y cc 2 ret d mc ms Q (pc + 1) [(some (.long x)), none] st w k n) : R G l y cc 2 ret d mc ms Q pc [o0, o1] (.long x :: st) w k n := by
  intro p e Rm s m args below meth c Qt C hret H locs ls hH hS hl
  refine lv_lstore_n C.1 C.2.1 (x := x) hdg rfl (hasL_as hl) (by decide) rfl (fun ls' h' => kk p e Rm s m args below meth c Qt C hret H locs ls' hH hS (hasL_set2 (x := .long x) h' ?_))
  intro j v hj
  match j, hj with
    | 0, hj => exact Or.inl ⟨rfl, (Option.some.inj (Option.some.inj hj)).symm⟩
    | 1, hj => cases hj
    | q + 2, hj => simp at hj
set_option maxRecDepth 100000 in
theorem st_2_1_a_a {o1 : Option Value} {pv : Nat} {x : Nat} (hdg : decode cc pc = .ok (.astore_n 1, 1)) (kk : R G l y cc 2 ret d mc ms Q (pc + 1) [(some (.ref pv)), (some (.ref x))] st w k n) : R G l y cc 2 ret d mc ms Q pc [(some (.ref pv)), o1] (.ref x :: st) w k n := by
  intro p e Rm s m args below meth c Qt C hret H locs ls hH hS hl
  refine lv_astore_n C.1 C.2.1 (x := ad G x) hdg rfl (hasL_as hl) (by decide) rfl (fun ls' h' => kk p e Rm s m args below meth c Qt C hret H locs ls' hH hS (hasL_set1 (x := .ref x) h' ?_))
  intro j v hj
  match j, hj with
    | 0, hj => exact Or.inr ⟨by decide, hj, fun _ => by cases hj; simp [Value.category]⟩
    | 1, hj => exact Or.inl ⟨rfl, (Option.some.inj (Option.some.inj hj)).symm⟩
    | q + 2, hj => simp at hj
set_option maxRecDepth 100000 in
theorem st_2_1_i_a {o1 : Option Value} {pv : Nat} {x : Int32} (hdg : decode cc pc = .ok (.istore_n 1, 1)) (kk : R G l y cc 2 ret d mc ms Q (pc + 1) [(some (.ref pv)), (some (.int x))] st w k n) : R G l y cc 2 ret d mc ms Q pc [(some (.ref pv)), o1] (.int x :: st) w k n := by
  intro p e Rm s m args below meth c Qt C hret H locs ls hH hS hl
  refine lv_istore_n C.1 C.2.1 (x := x) hdg rfl (hasL_as hl) (by decide) rfl (fun ls' h' => kk p e Rm s m args below meth c Qt C hret H locs ls' hH hS (hasL_set1 (x := .int x) h' ?_))
  intro j v hj
  match j, hj with
    | 0, hj => exact Or.inr ⟨by decide, hj, fun _ => by cases hj; simp [Value.category]⟩
    | 1, hj => exact Or.inl ⟨rfl, (Option.some.inj (Option.some.inj hj)).symm⟩
    | q + 2, hj => simp at hj
set_option maxRecDepth 100000 in
theorem st_3_1_i_a {o1 o2 : Option Value} {pv : Nat} {x : Int32} (hdg : decode cc pc = .ok (.istore_n 1, 1)) (kk : R G l y cc 3 ret d mc ms Q (pc + 1) [(some (.ref pv)), (some (.int x)), o2] st w k n) : R G l y cc 3 ret d mc ms Q pc [(some (.ref pv)), o1, o2] (.int x :: st) w k n := by
  intro p e Rm s m args below meth c Qt C hret H locs ls hH hS hl
  refine lv_istore_n C.1 C.2.1 (x := x) hdg rfl (hasL_as hl) (by decide) rfl (fun ls' h' => kk p e Rm s m args below meth c Qt C hret H locs ls' hH hS (hasL_set1 (x := .int x) h' ?_))
  intro j v hj
  match j, hj with
    | 0, hj => exact Or.inr ⟨by decide, hj, fun _ => by cases hj; simp [Value.category]⟩
    | 1, hj => exact Or.inl ⟨rfl, (Option.some.inj (Option.some.inj hj)).symm⟩
    | 2, hj => exact Or.inr ⟨by decide, hj, fun h => absurd h (by decide)⟩
    | q + 3, hj => simp at hj
set_option maxRecDepth 100000 in
theorem st_3_1_i_i {o1 o2 : Option Value} {pv : Int32} {x : Int32} (hdg : decode cc pc = .ok (.istore_n 1, 1)) (kk : R G l y cc 3 ret d mc ms Q (pc + 1) [(some (.int pv)), (some (.int x)), o2] st w k n) : R G l y cc 3 ret d mc ms Q pc [(some (.int pv)), o1, o2] (.int x :: st) w k n := by
  intro p e Rm s m args below meth c Qt C hret H locs ls hH hS hl
  refine lv_istore_n C.1 C.2.1 (x := x) hdg rfl (hasL_as hl) (by decide) rfl (fun ls' h' => kk p e Rm s m args below meth c Qt C hret H locs ls' hH hS (hasL_set1 (x := .int x) h' ?_))
  intro j v hj
  match j, hj with
    | 0, hj => exact Or.inr ⟨by decide, hj, fun _ => by cases hj; simp [Value.category]⟩
    | 1, hj => exact Or.inl ⟨rfl, (Option.some.inj (Option.some.inj hj)).symm⟩
    | 2, hj => exact Or.inr ⟨by decide, hj, fun h => absurd h (by decide)⟩
    | q + 3, hj => simp at hj
set_option maxRecDepth 100000 in
theorem st_3_2_i_a {o0 o2 : Option Value} {pv : Nat} {x : Int32} (hdg : decode cc pc = .ok (.istore_n 2, 1)) (kk : R G l y cc 3 ret d mc ms Q (pc + 1) [o0, (some (.ref pv)), (some (.int x))] st w k n) : R G l y cc 3 ret d mc ms Q pc [o0, (some (.ref pv)), o2] (.int x :: st) w k n := by
  intro p e Rm s m args below meth c Qt C hret H locs ls hH hS hl
  refine lv_istore_n C.1 C.2.1 (x := x) hdg rfl (hasL_as hl) (by decide) rfl (fun ls' h' => kk p e Rm s m args below meth c Qt C hret H locs ls' hH hS (hasL_set1 (x := .int x) h' ?_))
  intro j v hj
  match j, hj with
    | 0, hj => exact Or.inr ⟨by decide, hj, fun h => absurd h (by decide)⟩
    | 1, hj => exact Or.inr ⟨by decide, hj, fun _ => by cases hj; simp [Value.category]⟩
    | 2, hj => exact Or.inl ⟨rfl, (Option.some.inj (Option.some.inj hj)).symm⟩
    | q + 3, hj => simp at hj
set_option maxRecDepth 100000 in
theorem st_3_2_i_i {o0 o2 : Option Value} {pv : Int32} {x : Int32} (hdg : decode cc pc = .ok (.istore_n 2, 1)) (kk : R G l y cc 3 ret d mc ms Q (pc + 1) [o0, (some (.int pv)), (some (.int x))] st w k n) : R G l y cc 3 ret d mc ms Q pc [o0, (some (.int pv)), o2] (.int x :: st) w k n := by
  intro p e Rm s m args below meth c Qt C hret H locs ls hH hS hl
  refine lv_istore_n C.1 C.2.1 (x := x) hdg rfl (hasL_as hl) (by decide) rfl (fun ls' h' => kk p e Rm s m args below meth c Qt C hret H locs ls' hH hS (hasL_set1 (x := .int x) h' ?_))
  intro j v hj
  match j, hj with
    | 0, hj => exact Or.inr ⟨by decide, hj, fun h => absurd h (by decide)⟩
    | 1, hj => exact Or.inr ⟨by decide, hj, fun _ => by cases hj; simp [Value.category]⟩
    | 2, hj => exact Or.inl ⟨rfl, (Option.some.inj (Option.some.inj hj)).symm⟩
    | q + 3, hj => simp at hj
set_option maxRecDepth 100000 in
theorem st_4_1_a_a {o1 o2 o3 : Option Value} {pv : Nat} {x : Nat} (hdg : decode cc pc = .ok (.astore_n 1, 1)) (kk : R G l y cc 4 ret d mc ms Q (pc + 1) [(some (.ref pv)), (some (.ref x)), o2, o3] st w k n) : R G l y cc 4 ret d mc ms Q pc [(some (.ref pv)), o1, o2, o3] (.ref x :: st) w k n := by
  intro p e Rm s m args below meth c Qt C hret H locs ls hH hS hl
  refine lv_astore_n C.1 C.2.1 (x := ad G x) hdg rfl (hasL_as hl) (by decide) rfl (fun ls' h' => kk p e Rm s m args below meth c Qt C hret H locs ls' hH hS (hasL_set1 (x := .ref x) h' ?_))
  intro j v hj
  match j, hj with
    | 0, hj => exact Or.inr ⟨by decide, hj, fun _ => by cases hj; simp [Value.category]⟩
    | 1, hj => exact Or.inl ⟨rfl, (Option.some.inj (Option.some.inj hj)).symm⟩
    | 2, hj => exact Or.inr ⟨by decide, hj, fun h => absurd h (by decide)⟩
    | 3, hj => exact Or.inr ⟨by decide, hj, fun h => absurd h (by decide)⟩
    | q + 4, hj => simp at hj
set_option maxRecDepth 100000 in
theorem st_4_1_i_a {o1 o2 o3 : Option Value} {pv : Nat} {x : Int32} (hdg : decode cc pc = .ok (.istore_n 1, 1)) (kk : R G l y cc 4 ret d mc ms Q (pc + 1) [(some (.ref pv)), (some (.int x)), o2, o3] st w k n) : R G l y cc 4 ret d mc ms Q pc [(some (.ref pv)), o1, o2, o3] (.int x :: st) w k n := by
  intro p e Rm s m args below meth c Qt C hret H locs ls hH hS hl
  refine lv_istore_n C.1 C.2.1 (x := x) hdg rfl (hasL_as hl) (by decide) rfl (fun ls' h' => kk p e Rm s m args below meth c Qt C hret H locs ls' hH hS (hasL_set1 (x := .int x) h' ?_))
  intro j v hj
  match j, hj with
    | 0, hj => exact Or.inr ⟨by decide, hj, fun _ => by cases hj; simp [Value.category]⟩
    | 1, hj => exact Or.inl ⟨rfl, (Option.some.inj (Option.some.inj hj)).symm⟩
    | 2, hj => exact Or.inr ⟨by decide, hj, fun h => absurd h (by decide)⟩
    | 3, hj => exact Or.inr ⟨by decide, hj, fun h => absurd h (by decide)⟩
    | q + 4, hj => simp at hj
set_option maxRecDepth 100000 in
theorem st_4_2_a_a {o0 o2 o3 : Option Value} {pv : Nat} {x : Nat} (hdg : decode cc pc = .ok (.astore_n 2, 1)) (kk : R G l y cc 4 ret d mc ms Q (pc + 1) [o0, (some (.ref pv)), (some (.ref x)), o3] st w k n) : R G l y cc 4 ret d mc ms Q pc [o0, (some (.ref pv)), o2, o3] (.ref x :: st) w k n := by
  intro p e Rm s m args below meth c Qt C hret H locs ls hH hS hl
  refine lv_astore_n C.1 C.2.1 (x := ad G x) hdg rfl (hasL_as hl) (by decide) rfl (fun ls' h' => kk p e Rm s m args below meth c Qt C hret H locs ls' hH hS (hasL_set1 (x := .ref x) h' ?_))
  intro j v hj
  match j, hj with
    | 0, hj => exact Or.inr ⟨by decide, hj, fun h => absurd h (by decide)⟩
    | 1, hj => exact Or.inr ⟨by decide, hj, fun _ => by cases hj; simp [Value.category]⟩
    | 2, hj => exact Or.inl ⟨rfl, (Option.some.inj (Option.some.inj hj)).symm⟩
    | 3, hj => exact Or.inr ⟨by decide, hj, fun h => absurd h (by decide)⟩
    | q + 4, hj => simp at hj
set_option maxRecDepth 100000 in
theorem st_4_2_i_a {o0 o2 o3 : Option Value} {pv : Nat} {x : Int32} (hdg : decode cc pc = .ok (.istore_n 2, 1)) (kk : R G l y cc 4 ret d mc ms Q (pc + 1) [o0, (some (.ref pv)), (some (.int x)), o3] st w k n) : R G l y cc 4 ret d mc ms Q pc [o0, (some (.ref pv)), o2, o3] (.int x :: st) w k n := by
  intro p e Rm s m args below meth c Qt C hret H locs ls hH hS hl
  refine lv_istore_n C.1 C.2.1 (x := x) hdg rfl (hasL_as hl) (by decide) rfl (fun ls' h' => kk p e Rm s m args below meth c Qt C hret H locs ls' hH hS (hasL_set1 (x := .int x) h' ?_))
  intro j v hj
  match j, hj with
    | 0, hj => exact Or.inr ⟨by decide, hj, fun h => absurd h (by decide)⟩
    | 1, hj => exact Or.inr ⟨by decide, hj, fun _ => by cases hj; simp [Value.category]⟩
    | 2, hj => exact Or.inl ⟨rfl, (Option.some.inj (Option.some.inj hj)).symm⟩
    | 3, hj => exact Or.inr ⟨by decide, hj, fun h => absurd h (by decide)⟩
    | q + 4, hj => simp at hj
set_option maxRecDepth 100000 in
theorem st_4_2_i_i {o0 o2 o3 : Option Value} {pv : Int32} {x : Int32} (hdg : decode cc pc = .ok (.istore_n 2, 1)) (kk : R G l y cc 4 ret d mc ms Q (pc + 1) [o0, (some (.int pv)), (some (.int x)), o3] st w k n) : R G l y cc 4 ret d mc ms Q pc [o0, (some (.int pv)), o2, o3] (.int x :: st) w k n := by
  intro p e Rm s m args below meth c Qt C hret H locs ls hH hS hl
  refine lv_istore_n C.1 C.2.1 (x := x) hdg rfl (hasL_as hl) (by decide) rfl (fun ls' h' => kk p e Rm s m args below meth c Qt C hret H locs ls' hH hS (hasL_set1 (x := .int x) h' ?_))
  intro j v hj
  match j, hj with
    | 0, hj => exact Or.inr ⟨by decide, hj, fun h => absurd h (by decide)⟩
    | 1, hj => exact Or.inr ⟨by decide, hj, fun _ => by cases hj; simp [Value.category]⟩
    | 2, hj => exact Or.inl ⟨rfl, (Option.some.inj (Option.some.inj hj)).symm⟩
    | 3, hj => exact Or.inr ⟨by decide, hj, fun h => absurd h (by decide)⟩
    | q + 4, hj => simp at hj
set_option maxRecDepth 100000 in
theorem st_4_3_i_a {o0 o1 o3 : Option Value} {pv : Nat} {x : Int32} (hdg : decode cc pc = .ok (.istore_n 3, 1)) (kk : R G l y cc 4 ret d mc ms Q (pc + 1) [o0, o1, (some (.ref pv)), (some (.int x))] st w k n) : R G l y cc 4 ret d mc ms Q pc [o0, o1, (some (.ref pv)), o3] (.int x :: st) w k n := by
  intro p e Rm s m args below meth c Qt C hret H locs ls hH hS hl
  refine lv_istore_n C.1 C.2.1 (x := x) hdg rfl (hasL_as hl) (by decide) rfl (fun ls' h' => kk p e Rm s m args below meth c Qt C hret H locs ls' hH hS (hasL_set1 (x := .int x) h' ?_))
  intro j v hj
  match j, hj with
    | 0, hj => exact Or.inr ⟨by decide, hj, fun h => absurd h (by decide)⟩
    | 1, hj => exact Or.inr ⟨by decide, hj, fun h => absurd h (by decide)⟩
    | 2, hj => exact Or.inr ⟨by decide, hj, fun _ => by cases hj; simp [Value.category]⟩
    | 3, hj => exact Or.inl ⟨rfl, (Option.some.inj (Option.some.inj hj)).symm⟩
    | q + 4, hj => simp at hj
set_option maxRecDepth 100000 in
theorem st_4_3_i_i {o0 o1 o3 : Option Value} {pv : Int32} {x : Int32} (hdg : decode cc pc = .ok (.istore_n 3, 1)) (kk : R G l y cc 4 ret d mc ms Q (pc + 1) [o0, o1, (some (.int pv)), (some (.int x))] st w k n) : R G l y cc 4 ret d mc ms Q pc [o0, o1, (some (.int pv)), o3] (.int x :: st) w k n := by
  intro p e Rm s m args below meth c Qt C hret H locs ls hH hS hl
  refine lv_istore_n C.1 C.2.1 (x := x) hdg rfl (hasL_as hl) (by decide) rfl (fun ls' h' => kk p e Rm s m args below meth c Qt C hret H locs ls' hH hS (hasL_set1 (x := .int x) h' ?_))
  intro j v hj
  match j, hj with
    | 0, hj => exact Or.inr ⟨by decide, hj, fun h => absurd h (by decide)⟩
    | 1, hj => exact Or.inr ⟨by decide, hj, fun h => absurd h (by decide)⟩
    | 2, hj => exact Or.inr ⟨by decide, hj, fun _ => by cases hj; simp [Value.category]⟩
    | 3, hj => exact Or.inl ⟨rfl, (Option.some.inj (Option.some.inj hj)).symm⟩
    | q + 4, hj => simp at hj
set_option maxRecDepth 100000 in
theorem st_5_2_i_i {o0 o2 o3 o4 : Option Value} {pv : Int32} {x : Int32} (hdg : decode cc pc = .ok (.istore_n 2, 1)) (kk : R G l y cc 5 ret d mc ms Q (pc + 1) [o0, (some (.int pv)), (some (.int x)), o3, o4] st w k n) : R G l y cc 5 ret d mc ms Q pc [o0, (some (.int pv)), o2, o3, o4] (.int x :: st) w k n := by
  intro p e Rm s m args below meth c Qt C hret H locs ls hH hS hl
  refine lv_istore_n C.1 C.2.1 (x := x) hdg rfl (hasL_as hl) (by decide) rfl (fun ls' h' => kk p e Rm s m args below meth c Qt C hret H locs ls' hH hS (hasL_set1 (x := .int x) h' ?_))
  intro j v hj
  match j, hj with
    | 0, hj => exact Or.inr ⟨by decide, hj, fun h => absurd h (by decide)⟩
    | 1, hj => exact Or.inr ⟨by decide, hj, fun _ => by cases hj; simp [Value.category]⟩
    | 2, hj => exact Or.inl ⟨rfl, (Option.some.inj (Option.some.inj hj)).symm⟩
    | 3, hj => exact Or.inr ⟨by decide, hj, fun h => absurd h (by decide)⟩
    | 4, hj => exact Or.inr ⟨by decide, hj, fun h => absurd h (by decide)⟩
    | q + 5, hj => simp at hj
set_option maxRecDepth 100000 in
theorem st_5_2_l_i {o0 o2 o3 o4 : Option Value} {pv : Int32} {x : Int64} (hdg : decode cc pc = .ok (.lstore_n 2, 1)) (kk : R G l y cc 5 ret d mc ms Q (pc + 1) [o0, (some (.int pv)), (some (.long x)), none, o4] st w k n) : R G l y cc 5 ret d mc ms Q pc [o0, (some (.int pv)), o2, o3, o4] (.long x :: st) w k n := by
  intro p e Rm s m args below meth c Qt C hret H locs ls hH hS hl
  refine lv_lstore_n C.1 C.2.1 (x := x) hdg rfl (hasL_as hl) (by decide) rfl (fun ls' h' => kk p e Rm s m args below meth c Qt C hret H locs ls' hH hS (hasL_set2 (x := .long x) h' ?_))
  intro j v hj
  match j, hj with
    | 0, hj => exact Or.inr ⟨by decide, by decide, hj, fun h => absurd h (by decide)⟩
    | 1, hj => exact Or.inr ⟨by decide, by decide, hj, fun _ => by cases hj; simp [Value.category]⟩
    | 2, hj => exact Or.inl ⟨rfl, (Option.some.inj (Option.some.inj hj)).symm⟩
    | 3, hj => cases hj
    | 4, hj => exact Or.inr ⟨by decide, by decide, hj, fun h => absurd h (by decide)⟩
    | q + 5, hj => simp at hj
set_option maxRecDepth 100000 in
theorem st_5_3_i_a {o0 o1 o3 o4 : Option Value} {pv : Nat} {x : Int32} (hdg : decode cc pc = .ok (.istore_n 3, 1)) (kk : R G l y cc 5 ret d mc ms Q (pc + 1) [o0, o1, (some (.ref pv)), (some (.int x)), o4] st w k n) : R G l y cc 5 ret d mc ms Q pc [o0, o1, (some (.ref pv)), o3, o4] (.int x :: st) w k n := by
  intro p e Rm s m args below meth c Qt C hret H locs ls hH hS hl
  refine lv_istore_n C.1 C.2.1 (x := x) hdg rfl (hasL_as hl) (by decide) rfl (fun ls' h' => kk p e Rm s m args below meth c Qt C hret H locs ls' hH hS (hasL_set1 (x := .int x) h' ?_))
  intro j v hj
  match j, hj with
    | 0, hj => exact Or.inr ⟨by decide, hj, fun h => absurd h (by decide)⟩
    | 1, hj => exact Or.inr ⟨by decide, hj, fun h => absurd h (by decide)⟩
    | 2, hj => exact Or.inr ⟨by decide, hj, fun _ => by cases hj; simp [Value.category]⟩
    | 3, hj => exact Or.inl ⟨rfl, (Option.some.inj (Option.some.inj hj)).symm⟩
    | 4, hj => exact Or.inr ⟨by decide, hj, fun h => absurd h (by decide)⟩
    | q + 5, hj => simp at hj
set_option maxRecDepth 100000 in
theorem st_5_3_i_i {o0 o1 o3 o4 : Option Value} {pv : Int32} {x : Int32} (hdg : decode cc pc = .ok (.istore_n 3, 1)) (kk : R G l y cc 5 ret d mc ms Q (pc + 1) [o0, o1, (some (.int pv)), (some (.int x)), o4] st w k n) : R G l y cc 5 ret d mc ms Q pc [o0, o1, (some (.int pv)), o3, o4] (.int x :: st) w k n := by
  intro p e Rm s m args below meth c Qt C hret H locs ls hH hS hl
  refine lv_istore_n C.1 C.2.1 (x := x) hdg rfl (hasL_as hl) (by decide) rfl (fun ls' h' => kk p e Rm s m args below meth c Qt C hret H locs ls' hH hS (hasL_set1 (x := .int x) h' ?_))
  intro j v hj
  match j, hj with
    | 0, hj => exact Or.inr ⟨by decide, hj, fun h => absurd h (by decide)⟩
    | 1, hj => exact Or.inr ⟨by decide, hj, fun h => absurd h (by decide)⟩
    | 2, hj => exact Or.inr ⟨by decide, hj, fun _ => by cases hj; simp [Value.category]⟩
    | 3, hj => exact Or.inl ⟨rfl, (Option.some.inj (Option.some.inj hj)).symm⟩
    | 4, hj => exact Or.inr ⟨by decide, hj, fun h => absurd h (by decide)⟩
    | q + 5, hj => simp at hj
set_option maxRecDepth 100000 in
theorem st_5_4_i_i {o0 o1 o2 o4 : Option Value} {pv : Int32} {x : Int32} (hdg : decode cc pc = .ok (.istore 4, 2)) (kk : R G l y cc 5 ret d mc ms Q (pc + 2) [o0, o1, o2, (some (.int pv)), (some (.int x))] st w k n) : R G l y cc 5 ret d mc ms Q pc [o0, o1, o2, (some (.int pv)), o4] (.int x :: st) w k n := by
  intro p e Rm s m args below meth c Qt C hret H locs ls hH hS hl
  refine lv_istore C.1 C.2.1 (x := x) hdg (hasL_as hl) (by decide) rfl (fun ls' h' => kk p e Rm s m args below meth c Qt C hret H locs ls' hH hS (hasL_set1 (x := .int x) h' ?_))
  intro j v hj
  match j, hj with
    | 0, hj => exact Or.inr ⟨by decide, hj, fun h => absurd h (by decide)⟩
    | 1, hj => exact Or.inr ⟨by decide, hj, fun h => absurd h (by decide)⟩
    | 2, hj => exact Or.inr ⟨by decide, hj, fun h => absurd h (by decide)⟩
    | 3, hj => exact Or.inr ⟨by decide, hj, fun _ => by cases hj; simp [Value.category]⟩
    | 4, hj => exact Or.inl ⟨rfl, (Option.some.inj (Option.some.inj hj)).symm⟩
    | q + 5, hj => simp at hj
set_option maxRecDepth 100000 in
theorem st_5_4_i_n {o0 o1 o2 o4 : Option Value} {x : Int32} (hdg : decode cc pc = .ok (.istore 4, 2)) (kk : R G l y cc 5 ret d mc ms Q (pc + 2) [o0, o1, o2, none, (some (.int x))] st w k n) : R G l y cc 5 ret d mc ms Q pc [o0, o1, o2, none, o4] (.int x :: st) w k n := by
  intro p e Rm s m args below meth c Qt C hret H locs ls hH hS hl
  refine lv_istore C.1 C.2.1 (x := x) hdg (hasL_as hl) (by decide) rfl (fun ls' h' => kk p e Rm s m args below meth c Qt C hret H locs ls' hH hS (hasL_set1 (x := .int x) h' ?_))
  intro j v hj
  match j, hj with
    | 0, hj => exact Or.inr ⟨by decide, hj, fun h => absurd h (by decide)⟩
    | 1, hj => exact Or.inr ⟨by decide, hj, fun h => absurd h (by decide)⟩
    | 2, hj => exact Or.inr ⟨by decide, hj, fun h => absurd h (by decide)⟩
    | 3, hj => cases hj
    | 4, hj => exact Or.inl ⟨rfl, (Option.some.inj (Option.some.inj hj)).symm⟩
    | q + 5, hj => simp at hj
set_option maxRecDepth 100000 in
theorem st_6_2_i_i {o0 o2 o3 o4 o5 : Option Value} {pv : Int32} {x : Int32} (hdg : decode cc pc = .ok (.istore_n 2, 1)) (kk : R G l y cc 6 ret d mc ms Q (pc + 1) [o0, (some (.int pv)), (some (.int x)), o3, o4, o5] st w k n) : R G l y cc 6 ret d mc ms Q pc [o0, (some (.int pv)), o2, o3, o4, o5] (.int x :: st) w k n := by
  intro p e Rm s m args below meth c Qt C hret H locs ls hH hS hl
  refine lv_istore_n C.1 C.2.1 (x := x) hdg rfl (hasL_as hl) (by decide) rfl (fun ls' h' => kk p e Rm s m args below meth c Qt C hret H locs ls' hH hS (hasL_set1 (x := .int x) h' ?_))
  intro j v hj
  match j, hj with
    | 0, hj => exact Or.inr ⟨by decide, hj, fun h => absurd h (by decide)⟩
    | 1, hj => exact Or.inr ⟨by decide, hj, fun _ => by cases hj; simp [Value.category]⟩
    | 2, hj => exact Or.inl ⟨rfl, (Option.some.inj (Option.some.inj hj)).symm⟩
    | 3, hj => exact Or.inr ⟨by decide, hj, fun h => absurd h (by decide)⟩
    | 4, hj => exact Or.inr ⟨by decide, hj, fun h => absurd h (by decide)⟩
    | 5, hj => exact Or.inr ⟨by decide, hj, fun h => absurd h (by decide)⟩
    | q + 6, hj => simp at hj
set_option maxRecDepth 100000 in
theorem st_6_2_l_i {o0 o2 o3 o4 o5 : Option Value} {pv : Int32} {x : Int64} (hdg : decode cc pc = .ok (.lstore_n 2, 1)) (kk : R G l y cc 6 ret d mc ms Q (pc + 1) [o0, (some (.int pv)), (some (.long x)), none, o4, o5] st w k n) : R G l y cc 6 ret d mc ms Q pc [o0, (some (.int pv)), o2, o3, o4, o5] (.long x :: st) w k n := by
  intro p e Rm s m args below meth c Qt C hret H locs ls hH hS hl
  refine lv_lstore_n C.1 C.2.1 (x := x) hdg rfl (hasL_as hl) (by decide) rfl (fun ls' h' => kk p e Rm s m args below meth c Qt C hret H locs ls' hH hS (hasL_set2 (x := .long x) h' ?_))
  intro j v hj
  match j, hj with
    | 0, hj => exact Or.inr ⟨by decide, by decide, hj, fun h => absurd h (by decide)⟩
    | 1, hj => exact Or.inr ⟨by decide, by decide, hj, fun _ => by cases hj; simp [Value.category]⟩
    | 2, hj => exact Or.inl ⟨rfl, (Option.some.inj (Option.some.inj hj)).symm⟩
    | 3, hj => cases hj
    | 4, hj => exact Or.inr ⟨by decide, by decide, hj, fun h => absurd h (by decide)⟩
    | 5, hj => exact Or.inr ⟨by decide, by decide, hj, fun h => absurd h (by decide)⟩
    | q + 6, hj => simp at hj
set_option maxRecDepth 100000 in
theorem st_6_3_i_i {o0 o1 o3 o4 o5 : Option Value} {pv : Int32} {x : Int32} (hdg : decode cc pc = .ok (.istore_n 3, 1)) (kk : R G l y cc 6 ret d mc ms Q (pc + 1) [o0, o1, (some (.int pv)), (some (.int x)), o4, o5] st w k n) : R G l y cc 6 ret d mc ms Q pc [o0, o1, (some (.int pv)), o3, o4, o5] (.int x :: st) w k n := by
  intro p e Rm s m args below meth c Qt C hret H locs ls hH hS hl
  refine lv_istore_n C.1 C.2.1 (x := x) hdg rfl (hasL_as hl) (by decide) rfl (fun ls' h' => kk p e Rm s m args below meth c Qt C hret H locs ls' hH hS (hasL_set1 (x := .int x) h' ?_))
  intro j v hj
  match j, hj with
    | 0, hj => exact Or.inr ⟨by decide, hj, fun h => absurd h (by decide)⟩
    | 1, hj => exact Or.inr ⟨by decide, hj, fun h => absurd h (by decide)⟩
    | 2, hj => exact Or.inr ⟨by decide, hj, fun _ => by cases hj; simp [Value.category]⟩
    | 3, hj => exact Or.inl ⟨rfl, (Option.some.inj (Option.some.inj hj)).symm⟩
    | 4, hj => exact Or.inr ⟨by decide, hj, fun h => absurd h (by decide)⟩
    | 5, hj => exact Or.inr ⟨by decide, hj, fun h => absurd h (by decide)⟩
    | q + 6, hj => simp at hj
set_option maxRecDepth 100000 in
theorem st_6_3_l_i {o0 o1 o3 o4 o5 : Option Value} {pv : Int32} {x : Int64} (hdg : decode cc pc = .ok (.lstore_n 3, 1)) (kk : R G l y cc 6 ret d mc ms Q (pc + 1) [o0, o1, (some (.int pv)), (some (.long x)), none, o5] st w k n) : R G l y cc 6 ret d mc ms Q pc [o0, o1, (some (.int pv)), o3, o4, o5] (.long x :: st) w k n := by
  intro p e Rm s m args below meth c Qt C hret H locs ls hH hS hl
  refine lv_lstore_n C.1 C.2.1 (x := x) hdg rfl (hasL_as hl) (by decide) rfl (fun ls' h' => kk p e Rm s m args below meth c Qt C hret H locs ls' hH hS (hasL_set2 (x := .long x) h' ?_))
  intro j v hj
  match j, hj with
    | 0, hj => exact Or.inr ⟨by decide, by decide, hj, fun h => absurd h (by decide)⟩
    | 1, hj => exact Or.inr ⟨by decide, by decide, hj, fun h => absurd h (by decide)⟩
    | 2, hj => exact Or.inr ⟨by decide, by decide, hj, fun _ => by cases hj; simp [Value.category]⟩
    | 3, hj => exact Or.inl ⟨rfl, (Option.some.inj (Option.some.inj hj)).symm⟩
    | 4, hj => cases hj
    | 5, hj => exact Or.inr ⟨by decide, by decide, hj, fun h => absurd h (by decide)⟩
    | q + 6, hj => simp at hj
set_option maxRecDepth 100000 in
theorem st_6_4_i_i {o0 o1 o2 o4 o5 : Option Value} {pv : Int32} {x : Int32} (hdg : decode cc pc = .ok (.istore 4, 2)) (kk : R G l y cc 6 ret d mc ms Q (pc + 2) [o0, o1, o2, (some (.int pv)), (some (.int x)), o5] st w k n) : R G l y cc 6 ret d mc ms Q pc [o0, o1, o2, (some (.int pv)), o4, o5] (.int x :: st) w k n := by
  intro p e Rm s m args below meth c Qt C hret H locs ls hH hS hl
  refine lv_istore C.1 C.2.1 (x := x) hdg (hasL_as hl) (by decide) rfl (fun ls' h' => kk p e Rm s m args below meth c Qt C hret H locs ls' hH hS (hasL_set1 (x := .int x) h' ?_))
  intro j v hj
  match j, hj with
    | 0, hj => exact Or.inr ⟨by decide, hj, fun h => absurd h (by decide)⟩
    | 1, hj => exact Or.inr ⟨by decide, hj, fun h => absurd h (by decide)⟩
    | 2, hj => exact Or.inr ⟨by decide, hj, fun h => absurd h (by decide)⟩
    | 3, hj => exact Or.inr ⟨by decide, hj, fun _ => by cases hj; simp [Value.category]⟩
    | 4, hj => exact Or.inl ⟨rfl, (Option.some.inj (Option.some.inj hj)).symm⟩
    | 5, hj => exact Or.inr ⟨by decide, hj, fun h => absurd h (by decide)⟩
    | q + 6, hj => simp at hj
set_option maxRecDepth 100000 in
theorem st_6_4_i_n {o0 o1 o2 o4 o5 : Option Value} {x : Int32} (hdg : decode cc pc = .ok (.istore 4, 2)) (kk : R G l y cc 6 ret d mc ms Q (pc + 2) [o0, o1, o2, none, (some (.int x)), o5] st w k n) : R G l y cc 6 ret d mc ms Q pc [o0, o1, o2, none, o4, o5] (.int x :: st) w k n := by
  intro p e Rm s m args below meth c Qt C hret H locs ls hH hS hl
  refine lv_istore C.1 C.2.1 (x := x) hdg (hasL_as hl) (by decide) rfl (fun ls' h' => kk p e Rm s m args below meth c Qt C hret H locs ls' hH hS (hasL_set1 (x := .int x) h' ?_))
  intro j v hj
  match j, hj with
    | 0, hj => exact Or.inr ⟨by decide, hj, fun h => absurd h (by decide)⟩
    | 1, hj => exact Or.inr ⟨by decide, hj, fun h => absurd h (by decide)⟩
    | 2, hj => exact Or.inr ⟨by decide, hj, fun h => absurd h (by decide)⟩
    | 3, hj => cases hj
    | 4, hj => exact Or.inl ⟨rfl, (Option.some.inj (Option.some.inj hj)).symm⟩
    | 5, hj => exact Or.inr ⟨by decide, hj, fun h => absurd h (by decide)⟩
    | q + 6, hj => simp at hj
set_option maxRecDepth 100000 in
theorem st_6_5_i_i {o0 o1 o2 o3 o5 : Option Value} {pv : Int32} {x : Int32} (hdg : decode cc pc = .ok (.istore 5, 2)) (kk : R G l y cc 6 ret d mc ms Q (pc + 2) [o0, o1, o2, o3, (some (.int pv)), (some (.int x))] st w k n) : R G l y cc 6 ret d mc ms Q pc [o0, o1, o2, o3, (some (.int pv)), o5] (.int x :: st) w k n := by
  intro p e Rm s m args below meth c Qt C hret H locs ls hH hS hl
  refine lv_istore C.1 C.2.1 (x := x) hdg (hasL_as hl) (by decide) rfl (fun ls' h' => kk p e Rm s m args below meth c Qt C hret H locs ls' hH hS (hasL_set1 (x := .int x) h' ?_))
  intro j v hj
  match j, hj with
    | 0, hj => exact Or.inr ⟨by decide, hj, fun h => absurd h (by decide)⟩
    | 1, hj => exact Or.inr ⟨by decide, hj, fun h => absurd h (by decide)⟩
    | 2, hj => exact Or.inr ⟨by decide, hj, fun h => absurd h (by decide)⟩
    | 3, hj => exact Or.inr ⟨by decide, hj, fun h => absurd h (by decide)⟩
    | 4, hj => exact Or.inr ⟨by decide, hj, fun _ => by cases hj; simp [Value.category]⟩
    | 5, hj => exact Or.inl ⟨rfl, (Option.some.inj (Option.some.inj hj)).symm⟩
    | q + 6, hj => simp at hj
set_option maxRecDepth 100000 in
theorem st_6_5_i_n {o0 o1 o2 o3 o5 : Option Value} {x : Int32} (hdg : decode cc pc = .ok (.istore 5, 2)) (kk : R G l y cc 6 ret d mc ms Q (pc + 2) [o0, o1, o2, o3, none, (some (.int x))] st w k n) : R G l y cc 6 ret d mc ms Q pc [o0, o1, o2, o3, none, o5] (.int x :: st) w k n := by
  intro p e Rm s m args below meth c Qt C hret H locs ls hH hS hl
  refine lv_istore C.1 C.2.1 (x := x) hdg (hasL_as hl) (by decide) rfl (fun ls' h' => kk p e Rm s m args below meth c Qt C hret H locs ls' hH hS (hasL_set1 (x := .int x) h' ?_))
  intro j v hj
  match j, hj with
    | 0, hj => exact Or.inr ⟨by decide, hj, fun h => absurd h (by decide)⟩
    | 1, hj => exact Or.inr ⟨by decide, hj, fun h => absurd h (by decide)⟩
    | 2, hj => exact Or.inr ⟨by decide, hj, fun h => absurd h (by decide)⟩
    | 3, hj => exact Or.inr ⟨by decide, hj, fun h => absurd h (by decide)⟩
    | 4, hj => cases hj
    | 5, hj => exact Or.inl ⟨rfl, (Option.some.inj (Option.some.inj hj)).symm⟩
    | q + 6, hj => simp at hj
set_option maxRecDepth 100000 in
theorem st_7_2_i_i {o0 o2 o3 o4 o5 o6 : Option Value} {pv : Int32} {x : Int32} (hdg : decode cc pc = .ok (.istore_n 2, 1)) (kk : R G l y cc 7 ret d mc ms Q (pc + 1) [o0, (some (.int pv)), (some (.int x)), o3, o4, o5, o6] st w k n) : R G l y cc 7 ret d mc ms Q pc [o0, (some (.int pv)), o2, o3, o4, o5, o6] (.int x :: st) w k n := by
  intro p e Rm s m args below meth c Qt C hret H locs ls hH hS hl
  refine lv_istore_n C.1 C.2.1 (x := x) hdg rfl (hasL_as hl) (by decide) rfl (fun ls' h' => kk p e Rm s m args below meth c Qt C hret H locs ls' hH hS (hasL_set1 (x := .int x) h' ?_))
  intro j v hj
  match j, hj with
    | 0, hj => exact Or.inr ⟨by decide, hj, fun h => absurd h (by decide)⟩
    | 1, hj => exact Or.inr ⟨by decide, hj, fun _ => by cases hj; simp [Value.category]⟩
    | 2, hj => exact Or.inl ⟨rfl, (Option.some.inj (Option.some.inj hj)).symm⟩
    | 3, hj => exact Or.inr ⟨by decide, hj, fun h => absurd h (by decide)⟩
    | 4, hj => exact Or.inr ⟨by decide, hj, fun h => absurd h (by decide)⟩
    | 5, hj => exact Or.inr ⟨by decide, hj, fun h => absurd h (by decide)⟩
    | 6, hj => exact Or.inr ⟨by decide, hj, fun h => absurd h (by decide)⟩
    | q + 7, hj => simp at hj
set_option maxRecDepth 100000 in
theorem st_7_2_l_i {o0 o2 o3 o4 o5 o6 : Option Value} {pv : Int32} {x : Int64} (hdg : decode cc pc = .ok (.lstore_n 2, 1)) (kk : R G l y cc 7 ret d mc ms Q (pc + 1) [o0, (some (.int pv)), (some (.long x)), none, o4, o5, o6] st w k n) : R G l y cc 7 ret d mc ms Q pc [o0, (some (.int pv)), o2, o3, o4, o5, o6] (.long x :: st) w k n := by
  intro p e Rm s m args below meth c Qt C hret H locs ls hH hS hl
  refine lv_lstore_n C.1 C.2.1 (x := x) hdg rfl (hasL_as hl) (by decide) rfl (fun ls' h' => kk p e Rm s m args below meth c Qt C hret H locs ls' hH hS (hasL_set2 (x := .long x) h' ?_))
  intro j v hj
  match j, hj with
    | 0, hj => exact Or.inr ⟨by decide, by decide, hj, fun h => absurd h (by decide)⟩
    | 1, hj => exact Or.inr ⟨by decide, by decide, hj, fun _ => by cases hj; simp [Value.category]⟩
    | 2, hj => exact Or.inl ⟨rfl, (Option.some.inj (Option.some.inj hj)).symm⟩
    | 3, hj => cases hj
    | 4, hj => exact Or.inr ⟨by decide, by decide, hj, fun h => absurd h (by decide)⟩
    | 5, hj => exact Or.inr ⟨by decide, by decide, hj, fun h => absurd h (by decide)⟩
    | 6, hj => exact Or.inr ⟨by decide, by decide, hj, fun h => absurd h (by decide)⟩
    | q + 7, hj => simp at hj
set_option maxRecDepth 100000 in
theorem st_7_3_i_i {o0 o1 o3 o4 o5 o6 : Option Value} {pv : Int32} {x : Int32} (hdg : decode cc pc = .ok (.istore_n 3, 1)) (kk : R G l y cc 7 ret d mc ms Q (pc + 1) [o0, o1, (some (.int pv)), (some (.int x)), o4, o5, o6] st w k n) : R G l y cc 7 ret d mc ms Q pc [o0, o1, (some (.int pv)), o3, o4, o5, o6] (.int x :: st) w k n := by
  intro p e Rm s m args below meth c Qt C hret H locs ls hH hS hl
  refine lv_istore_n C.1 C.2.1 (x := x) hdg rfl (hasL_as hl) (by decide) rfl (fun ls' h' => kk p e Rm s m args below meth c Qt C hret H locs ls' hH hS (hasL_set1 (x := .int x) h' ?_))
  intro j v hj
  match j, hj with
    | 0, hj => exact Or.inr ⟨by decide, hj, fun h => absurd h (by decide)⟩
    | 1, hj => exact Or.inr ⟨by decide, hj, fun h => absurd h (by decide)⟩
    | 2, hj => exact Or.inr ⟨by decide, hj, fun _ => by cases hj; simp [Value.category]⟩
    | 3, hj => exact Or.inl ⟨rfl, (Option.some.inj (Option.some.inj hj)).symm⟩
    | 4, hj => exact Or.inr ⟨by decide, hj, fun h => absurd h (by decide)⟩
    | 5, hj => exact Or.inr ⟨by decide, hj, fun h => absurd h (by decide)⟩
    | 6, hj => exact Or.inr ⟨by decide, hj, fun h => absurd h (by decide)⟩
    | q + 7, hj => simp at hj
set_option maxRecDepth 100000 in
theorem st_7_4_i_i {o0 o1 o2 o4 o5 o6 : Option Value} {pv : Int32} {x : Int32} (hdg : decode cc pc = .ok (.istore 4, 2)) (kk : R G l y cc 7 ret d mc ms Q (pc + 2) [o0, o1, o2, (some (.int pv)), (some (.int x)), o5, o6] st w k n) : R G l y cc 7 ret d mc ms Q pc [o0, o1, o2, (some (.int pv)), o4, o5, o6] (.int x :: st) w k n := by
  intro p e Rm s m args below meth c Qt C hret H locs ls hH hS hl
  refine lv_istore C.1 C.2.1 (x := x) hdg (hasL_as hl) (by decide) rfl (fun ls' h' => kk p e Rm s m args below meth c Qt C hret H locs ls' hH hS (hasL_set1 (x := .int x) h' ?_))
  intro j v hj
  match j, hj with
    | 0, hj => exact Or.inr ⟨by decide, hj, fun h => absurd h (by decide)⟩
    | 1, hj => exact Or.inr ⟨by decide, hj, fun h => absurd h (by decide)⟩
    | 2, hj => exact Or.inr ⟨by decide, hj, fun h => absurd h (by decide)⟩
    | 3, hj => exact Or.inr ⟨by decide, hj, fun _ => by cases hj; simp [Value.category]⟩
    | 4, hj => exact Or.inl ⟨rfl, (Option.some.inj (Option.some.inj hj)).symm⟩
    | 5, hj => exact Or.inr ⟨by decide, hj, fun h => absurd h (by decide)⟩
    | 6, hj => exact Or.inr ⟨by decide, hj, fun h => absurd h (by decide)⟩
    | q + 7, hj => simp at hj
set_option maxRecDepth 100000 in
theorem st_7_4_i_n {o0 o1 o2 o4 o5 o6 : Option Value} {x : Int32} (hdg : decode cc pc = .ok (.istore 4, 2)) (kk : R G l y cc 7 ret d mc ms Q (pc + 2) [o0, o1, o2, none, (some (.int x)), o5, o6] st w k n) : R G l y cc 7 ret d mc ms Q pc [o0, o1, o2, none, o4, o5, o6] (.int x :: st) w k n := by
  intro p e Rm s m args below meth c Qt C hret H locs ls hH hS hl
  refine lv_istore C.1 C.2.1 (x := x) hdg (hasL_as hl) (by decide) rfl (fun ls' h' => kk p e Rm s m args below meth c Qt C hret H locs ls' hH hS (hasL_set1 (x := .int x) h' ?_))
  intro j v hj
  match j, hj with
    | 0, hj => exact Or.inr ⟨by decide, hj, fun h => absurd h (by decide)⟩
    | 1, hj => exact Or.inr ⟨by decide, hj, fun h => absurd h (by decide)⟩
    | 2, hj => exact Or.inr ⟨by decide, hj, fun h => absurd h (by decide)⟩
    | 3, hj => cases hj
    | 4, hj => exact Or.inl ⟨rfl, (Option.some.inj (Option.some.inj hj)).symm⟩
    | 5, hj => exact Or.inr ⟨by decide, hj, fun h => absurd h (by decide)⟩
    | 6, hj => exact Or.inr ⟨by decide, hj, fun h => absurd h (by decide)⟩
    | q + 7, hj => simp at hj
set_option maxRecDepth 100000 in
theorem st_7_4_l_n {o0 o1 o2 o4 o5 o6 : Option Value} {x : Int64} (hdg : decode cc pc = .ok (.lstore 4, 2)) (kk : R G l y cc 7 ret d mc ms Q (pc + 2) [o0, o1, o2, none, (some (.long x)), none, o6] st w k n) : R G l y cc 7 ret d mc ms Q pc [o0, o1, o2, none, o4, o5, o6] (.long x :: st) w k n := by
  intro p e Rm s m args below meth c Qt C hret H locs ls hH hS hl
  refine lv_lstore C.1 C.2.1 (x := x) hdg (hasL_as hl) (by decide) rfl (fun ls' h' => kk p e Rm s m args below meth c Qt C hret H locs ls' hH hS (hasL_set2 (x := .long x) h' ?_))
  intro j v hj
  match j, hj with
    | 0, hj => exact Or.inr ⟨by decide, by decide, hj, fun h => absurd h (by decide)⟩
    | 1, hj => exact Or.inr ⟨by decide, by decide, hj, fun h => absurd h (by decide)⟩
    | 2, hj => exact Or.inr ⟨by decide, by decide, hj, fun h => absurd h (by decide)⟩
    | 3, hj => cases hj
    | 4, hj => exact Or.inl ⟨rfl, (Option.some.inj (Option.some.inj hj)).symm⟩
    | 5, hj => cases hj
    | 6, hj => exact Or.inr ⟨by decide, by decide, hj, fun h => absurd h (by decide)⟩
    | q + 7, hj => simp at hj
set_option maxRecDepth 100000 in
theorem st_7_5_i_i {o0 o1 o2 o3 o5 o6 : Option Value} {pv : Int32} {x : Int32} (hdg : decode cc pc = .ok (.istore 5, 2)) (kk : R G l y cc 7 ret d mc ms Q (pc + 2) [o0, o1, o2, o3, (some (.int pv)), (some (.int x)), o6] st w k n) : R G l y cc 7 ret d mc ms Q pc [o0, o1, o2, o3, (some (.int pv)), o5, o6] (.int x :: st) w k n := by
  intro p e Rm s m args below meth c Qt C hret H locs ls hH hS hl
  refine lv_istore C.1 C.2.1 (x := x) hdg (hasL_as hl) (by decide) rfl (fun ls' h' => kk p e Rm s m args below meth c Qt C hret H locs ls' hH hS (hasL_set1 (x := .int x) h' ?_))
  intro j v hj
  match j, hj with
    | 0, hj => exact Or.inr ⟨by decide, hj, fun h => absurd h (by decide)⟩
    | 1, hj => exact Or.inr ⟨by decide, hj, fun h => absurd h (by decide)⟩
    | 2, hj => exact Or.inr ⟨by decide, hj, fun h => absurd h (by decide)⟩
    | 3, hj => exact Or.inr ⟨by decide, hj, fun h => absurd h (by decide)⟩
    | 4, hj => exact Or.inr ⟨by decide, hj, fun _ => by cases hj; simp [Value.category]⟩
    | 5, hj => exact Or.inl ⟨rfl, (Option.some.inj (Option.some.inj hj)).symm⟩
    | 6, hj => exact Or.inr ⟨by decide, hj, fun h => absurd h (by decide)⟩
    | q + 7, hj => simp at hj
set_option maxRecDepth 100000 in
theorem st_7_6_i_i {o0 o1 o2 o3 o4 o6 : Option Value} {pv : Int32} {x : Int32} (hdg : decode cc pc = .ok (.istore 6, 2)) (kk : R G l y cc 7 ret d mc ms Q (pc + 2) [o0, o1, o2, o3, o4, (some (.int pv)), (some (.int x))] st w k n) : R G l y cc 7 ret d mc ms Q pc [o0, o1, o2, o3, o4, (some (.int pv)), o6] (.int x :: st) w k n := by
  intro p e Rm s m args below meth c Qt C hret H locs ls hH hS hl
  refine lv_istore C.1 C.2.1 (x := x) hdg (hasL_as hl) (by decide) rfl (fun ls' h' => kk p e Rm s m args below meth c Qt C hret H locs ls' hH hS (hasL_set1 (x := .int x) h' ?_))
  intro j v hj
  match j, hj with
    | 0, hj => exact Or.inr ⟨by decide, hj, fun h => absurd h (by decide)⟩
    | 1, hj => exact Or.inr ⟨by decide, hj, fun h => absurd h (by decide)⟩
    | 2, hj => exact Or.inr ⟨by decide, hj, fun h => absurd h (by decide)⟩
    | 3, hj => exact Or.inr ⟨by decide, hj, fun h => absurd h (by decide)⟩
    | 4, hj => exact Or.inr ⟨by decide, hj, fun h => absurd h (by decide)⟩
    | 5, hj => exact Or.inr ⟨by decide, hj, fun _ => by cases hj; simp [Value.category]⟩
    | 6, hj => exact Or.inl ⟨rfl, (Option.some.inj (Option.some.inj hj)).symm⟩
    | q + 7, hj => simp at hj
set_option maxRecDepth 100000 in
theorem st_7_6_i_n {o0 o1 o2 o3 o4 o6 : Option Value} {x : Int32} (hdg : decode cc pc = .ok (.istore 6, 2)) (kk : R G l y cc 7 ret d mc ms Q (pc + 2) [o0, o1, o2, o3, o4, none, (some (.int x))] st w k n) : R G l y cc 7 ret d mc ms Q pc [o0, o1, o2, o3, o4, none, o6] (.int x :: st) w k n := by
  intro p e Rm s m args below meth c Qt C hret H locs ls hH hS hl
  refine lv_istore C.1 C.2.1 (x := x) hdg (hasL_as hl) (by decide) rfl (fun ls' h' => kk p e Rm s m args below meth c Qt C hret H locs ls' hH hS (hasL_set1 (x := .int x) h' ?_))
  intro j v hj
  match j, hj with
    | 0, hj => exact Or.inr ⟨by decide, hj, fun h => absurd h (by decide)⟩
    | 1, hj => exact Or.inr ⟨by decide, hj, fun h => absurd h (by decide)⟩
    | 2, hj => exact Or.inr ⟨by decide, hj, fun h => absurd h (by decide)⟩
    | 3, hj => exact Or.inr ⟨by decide, hj, fun h => absurd h (by decide)⟩
    | 4, hj => exact Or.inr ⟨by decide, hj, fun h => absurd h (by decide)⟩
    | 5, hj => cases hj
    | 6, hj => exact Or.inl ⟨rfl, (Option.some.inj (Option.some.inj hj)).symm⟩
    | q + 7, hj => simp at hj
set_option maxRecDepth 100000 in
theorem st_8_2_i_a {o0 o2 o3 o4 o5 o6 o7 : Option Value} {pv : Nat} {x : Int32} (hdg : decode cc pc = .ok (.istore_n 2, 1)) (kk : R G l y cc 8 ret d mc ms Q (pc + 1) [o0, (some (.ref pv)), (some (.int x)), o3, o4, o5, o6, o7] st w k n) : R G l y cc 8 ret d mc ms Q pc [o0, (some (.ref pv)), o2, o3, o4, o5, o6, o7] (.int x :: st) w k n := by
  intro p e Rm s m args below meth c Qt C hret H locs ls hH hS hl
  refine lv_istore_n C.1 C.2.1 (x := x) hdg rfl (hasL_as hl) (by decide) rfl (fun ls' h' => kk p e Rm s m args below meth c Qt C hret H locs ls' hH hS (hasL_set1 (x := .int x) h' ?_))
  intro j v hj
  match j, hj with
    | 0, hj => exact Or.inr ⟨by decide, hj, fun h => absurd h (by decide)⟩
    | 1, hj => exact Or.inr ⟨by decide, hj, fun _ => by cases hj; simp [Value.category]⟩
    | 2, hj => exact Or.inl ⟨rfl, (Option.some.inj (Option.some.inj hj)).symm⟩
    | 3, hj => exact Or.inr ⟨by decide, hj, fun h => absurd h (by decide)⟩
    | 4, hj => exact Or.inr ⟨by decide, hj, fun h => absurd h (by decide)⟩
    | 5, hj => exact Or.inr ⟨by decide, hj, fun h => absurd h (by decide)⟩
    | 6, hj => exact Or.inr ⟨by decide, hj, fun h => absurd h (by decide)⟩
    | 7, hj => exact Or.inr ⟨by decide, hj, fun h => absurd h (by decide)⟩
    | q + 8, hj => simp at hj
set_option maxRecDepth 100000 in
theorem st_8_3_i_i {o0 o1 o3 o4 o5 o6 o7 : Option Value} {pv : Int32} {x : Int32} (hdg : decode cc pc = .ok (.istore_n 3, 1)) (kk : R G l y cc 8 ret d mc ms Q (pc + 1) [o0, o1, (some (.int pv)), (some (.int x)), o4, o5, o6, o7] st w k n) : R G l y cc 8 ret d mc ms Q pc [o0, o1, (some (.int pv)), o3, o4, o5, o6, o7] (.int x :: st) w k n := by
  intro p e Rm s m args below meth c Qt C hret H locs ls hH hS hl
  refine lv_istore_n C.1 C.2.1 (x := x) hdg rfl (hasL_as hl) (by decide) rfl (fun ls' h' => kk p e Rm s m args below meth c Qt C hret H locs ls' hH hS (hasL_set1 (x := .int x) h' ?_))
  intro j v hj
  match j, hj with
    | 0, hj => exact Or.inr ⟨by decide, hj, fun h => absurd h (by decide)⟩
    | 1, hj => exact Or.inr ⟨by decide, hj, fun h => absurd h (by decide)⟩
    | 2, hj => exact Or.inr ⟨by decide, hj, fun _ => by cases hj; simp [Value.category]⟩
    | 3, hj => exact Or.inl ⟨rfl, (Option.some.inj (Option.some.inj hj)).symm⟩
    | 4, hj => exact Or.inr ⟨by decide, hj, fun h => absurd h (by decide)⟩
    | 5, hj => exact Or.inr ⟨by decide, hj, fun h => absurd h (by decide)⟩
    | 6, hj => exact Or.inr ⟨by decide, hj, fun h => absurd h (by decide)⟩
    | 7, hj => exact Or.inr ⟨by decide, hj, fun h => absurd h (by decide)⟩
    | q + 8, hj => simp at hj
set_option maxRecDepth 100000 in
theorem st_8_4_i_i {o0 o1 o2 o4 o5 o6 o7 : Option Value} {pv : Int32} {x : Int32} (hdg : decode cc pc = .ok (.istore 4, 2)) (kk : R G l y cc 8 ret d mc ms Q (pc + 2) [o0, o1, o2, (some (.int pv)), (some (.int x)), o5, o6, o7] st w k n) : R G l y cc 8 ret d mc ms Q pc [o0, o1, o2, (some (.int pv)), o4, o5, o6, o7] (.int x :: st) w k n := by
  intro p e Rm s m args below meth c Qt C hret H locs ls hH hS hl
  refine lv_istore C.1 C.2.1 (x := x) hdg (hasL_as hl) (by decide) rfl (fun ls' h' => kk p e Rm s m args below meth c Qt C hret H locs ls' hH hS (hasL_set1 (x := .int x) h' ?_))
  intro j v hj
  match j, hj with
    | 0, hj => exact Or.inr ⟨by decide, hj, fun h => absurd h (by decide)⟩
    | 1, hj => exact Or.inr ⟨by decide, hj, fun h => absurd h (by decide)⟩
    | 2, hj => exact Or.inr ⟨by decide, hj, fun h => absurd h (by decide)⟩
    | 3, hj => exact Or.inr ⟨by decide, hj, fun _ => by cases hj; simp [Value.category]⟩
    | 4, hj => exact Or.inl ⟨rfl, (Option.some.inj (Option.some.inj hj)).symm⟩
    | 5, hj => exact Or.inr ⟨by decide, hj, fun h => absurd h (by decide)⟩
    | 6, hj => exact Or.inr ⟨by decide, hj, fun h => absurd h (by decide)⟩
    | 7, hj => exact Or.inr ⟨by decide, hj, fun h => absurd h (by decide)⟩
    | q + 8, hj => simp at hj
set_option maxRecDepth 100000 in
theorem st_8_5_i_i {o0 o1 o2 o3 o5 o6 o7 : Option Value} {pv : Int32} {x : Int32} (hdg : decode cc pc = .ok (.istore 5, 2)) (kk : R G l y cc 8 ret d mc ms Q (pc + 2) [o0, o1, o2, o3, (some (.int pv)), (some (.int x)), o6, o7] st w k n) : R G l y cc 8 ret d mc ms Q pc [o0, o1, o2, o3, (some (.int pv)), o5, o6, o7] (.int x :: st) w k n := by
  intro p e Rm s m args below meth c Qt C hret H locs ls hH hS hl
  refine lv_istore C.1 C.2.1 (x := x) hdg (hasL_as hl) (by decide) rfl (fun ls' h' => kk p e Rm s m args below meth c Qt C hret H locs ls' hH hS (hasL_set1 (x := .int x) h' ?_))
  intro j v hj
  match j, hj with
    | 0, hj => exact Or.inr ⟨by decide, hj, fun h => absurd h (by decide)⟩
    | 1, hj => exact Or.inr ⟨by decide, hj, fun h => absurd h (by decide)⟩
    | 2, hj => exact Or.inr ⟨by decide, hj, fun h => absurd h (by decide)⟩
    | 3, hj => exact Or.inr ⟨by decide, hj, fun h => absurd h (by decide)⟩
    | 4, hj => exact Or.inr ⟨by decide, hj, fun _ => by cases hj; simp [Value.category]⟩
    | 5, hj => exact Or.inl ⟨rfl, (Option.some.inj (Option.some.inj hj)).symm⟩
    | 6, hj => exact Or.inr ⟨by decide, hj, fun h => absurd h (by decide)⟩
    | 7, hj => exact Or.inr ⟨by decide, hj, fun h => absurd h (by decide)⟩
    | q + 8, hj => simp at hj
set_option maxRecDepth 100000 in
theorem st_8_6_i_i {o0 o1 o2 o3 o4 o6 o7 : Option Value} {pv : Int32} {x : Int32} (hdg : decode cc pc = .ok (.istore 6, 2)) (kk : R G l y cc 8 ret d mc ms Q (pc + 2) [o0, o1, o2, o3, o4, (some (.int pv)), (some (.int x)), o7] st w k n) : R G l y cc 8 ret d mc ms Q pc [o0, o1, o2, o3, o4, (some (.int pv)), o6, o7] (.int x :: st) w k n := by
  intro p e Rm s m args below meth c Qt C hret H locs ls hH hS hl
  refine lv_istore C.1 C.2.1 (x := x) hdg (hasL_as hl) (by decide) rfl (fun ls' h' => kk p e Rm s m args below meth c Qt C hret H locs ls' hH hS (hasL_set1 (x := .int x) h' ?_))
  intro j v hj
  match j, hj with
    | 0, hj => exact Or.inr ⟨by decide, hj, fun h => absurd h (by decide)⟩
    | 1, hj => exact Or.inr ⟨by decide, hj, fun h => absurd h (by decide)⟩
    | 2, hj => exact Or.inr ⟨by decide, hj, fun h => absurd h (by decide)⟩
    | 3, hj => exact Or.inr ⟨by decide, hj, fun h => absurd h (by decide)⟩
    | 4, hj => exact Or.inr ⟨by decide, hj, fun h => absurd h (by decide)⟩
    | 5, hj => exact Or.inr ⟨by decide, hj, fun _ => by cases hj; simp [Value.category]⟩
    | 6, hj => exact Or.inl ⟨rfl, (Option.some.inj (Option.some.inj hj)).symm⟩
    | 7, hj => exact Or.inr ⟨by decide, hj, fun h => absurd h (by decide)⟩
    | q + 8, hj => simp at hj
set_option maxRecDepth 100000 in
theorem st_8_7_i_i {o0 o1 o2 o3 o4 o5 o7 : Option Value} {pv : Int32} {x : Int32} (hdg : decode cc pc = .ok (.istore 7, 2)) (kk : R G l y cc 8 ret d mc ms Q (pc + 2) [o0, o1, o2, o3, o4, o5, (some (.int pv)), (some (.int x))] st w k n) : R G l y cc 8 ret d mc ms Q pc [o0, o1, o2, o3, o4, o5, (some (.int pv)), o7] (.int x :: st) w k n := by
  intro p e Rm s m args below meth c Qt C hret H locs ls hH hS hl
  refine lv_istore C.1 C.2.1 (x := x) hdg (hasL_as hl) (by decide) rfl (fun ls' h' => kk p e Rm s m args below meth c Qt C hret H locs ls' hH hS (hasL_set1 (x := .int x) h' ?_))
  intro j v hj
  match j, hj with
    | 0, hj => exact Or.inr ⟨by decide, hj, fun h => absurd h (by decide)⟩
    | 1, hj => exact Or.inr ⟨by decide, hj, fun h => absurd h (by decide)⟩
    | 2, hj => exact Or.inr ⟨by decide, hj, fun h => absurd h (by decide)⟩
    | 3, hj => exact Or.inr ⟨by decide, hj, fun h => absurd h (by decide)⟩
    | 4, hj => exact Or.inr ⟨by decide, hj, fun h => absurd h (by decide)⟩
    | 5, hj => exact Or.inr ⟨by decide, hj, fun h => absurd h (by decide)⟩
    | 6, hj => exact Or.inr ⟨by decide, hj, fun _ => by cases hj; simp [Value.category]⟩
    | 7, hj => exact Or.inl ⟨rfl, (Option.some.inj (Option.some.inj hj)).symm⟩
    | q + 8, hj => simp at hj
set_option maxRecDepth 100000 in
theorem st_9_3_i_i {o0 o1 o3 o4 o5 o6 o7 o8 : Option Value} {pv : Int32} {x : Int32} (hdg : decode cc pc = .ok (.istore_n 3, 1)) (kk : R G l y cc 9 ret d mc ms Q (pc + 1) [o0, o1, (some (.int pv)), (some (.int x)), o4, o5, o6, o7, o8] st w k n) : R G l y cc 9 ret d mc ms Q pc [o0, o1, (some (.int pv)), o3, o4, o5, o6, o7, o8] (.int x :: st) w k n := by
  intro p e Rm s m args below meth c Qt C hret H locs ls hH hS hl
  refine lv_istore_n C.1 C.2.1 (x := x) hdg rfl (hasL_as hl) (by decide) rfl (fun ls' h' => kk p e Rm s m args below meth c Qt C hret H locs ls' hH hS (hasL_set1 (x := .int x) h' ?_))
  intro j v hj
  match j, hj with
    | 0, hj => exact Or.inr ⟨by decide, hj, fun h => absurd h (by decide)⟩
    | 1, hj => exact Or.inr ⟨by decide, hj, fun h => absurd h (by decide)⟩
    | 2, hj => exact Or.inr ⟨by decide, hj, fun _ => by cases hj; simp [Value.category]⟩
    | 3, hj => exact Or.inl ⟨rfl, (Option.some.inj (Option.some.inj hj)).symm⟩
    | 4, hj => exact Or.inr ⟨by decide, hj, fun h => absurd h (by decide)⟩
    | 5, hj => exact Or.inr ⟨by decide, hj, fun h => absurd h (by decide)⟩
    | 6, hj => exact Or.inr ⟨by decide, hj, fun h => absurd h (by decide)⟩
    | 7, hj => exact Or.inr ⟨by decide, hj, fun h => absurd h (by decide)⟩
    | 8, hj => exact Or.inr ⟨by decide, hj, fun h => absurd h (by decide)⟩
    | q + 9, hj => simp at hj
set_option maxRecDepth 100000 in
theorem st_9_4_i_i {o0 o1 o2 o4 o5 o6 o7 o8 : Option Value} {pv : Int32} {x : Int32} (hdg : decode cc pc = .ok (.istore 4, 2)) (kk : R G l y cc 9 ret d mc ms Q (pc + 2) [o0, o1, o2, (some (.int pv)), (some (.int x)), o5, o6, o7, o8] st w k n) : R G l y cc 9 ret d mc ms Q pc [o0, o1, o2, (some (.int pv)), o4, o5, o6, o7, o8] (.int x :: st) w k n := by
  intro p e Rm s m args below meth c Qt C hret H locs ls hH hS hl
  refine lv_istore C.1 C.2.1 (x := x) hdg (hasL_as hl) (by decide) rfl (fun ls' h' => kk p e Rm s m args below meth c Qt C hret H locs ls' hH hS (hasL_set1 (x := .int x) h' ?_))
  intro j v hj
  match j, hj with
    | 0, hj => exact Or.inr ⟨by decide, hj, fun h => absurd h (by decide)⟩
    | 1, hj => exact Or.inr ⟨by decide, hj, fun h => absurd h (by decide)⟩
    | 2, hj => exact Or.inr ⟨by decide, hj, fun h => absurd h (by decide)⟩
    | 3, hj => exact Or.inr ⟨by decide, hj, fun _ => by cases hj; simp [Value.category]⟩
    | 4, hj => exact Or.inl ⟨rfl, (Option.some.inj (Option.some.inj hj)).symm⟩
    | 5, hj => exact Or.inr ⟨by decide, hj, fun h => absurd h (by decide)⟩
    | 6, hj => exact Or.inr ⟨by decide, hj, fun h => absurd h (by decide)⟩
    | 7, hj => exact Or.inr ⟨by decide, hj, fun h => absurd h (by decide)⟩
    | 8, hj => exact Or.inr ⟨by decide, hj, fun h => absurd h (by decide)⟩
    | q + 9, hj => simp at hj
set_option maxRecDepth 100000 in
theorem st_9_5_i_i {o0 o1 o2 o3 o5 o6 o7 o8 : Option Value} {pv : Int32} {x : Int32} (hdg : decode cc pc = .ok (.istore 5, 2)) (kk : R G l y cc 9 ret d mc ms Q (pc + 2) [o0, o1, o2, o3, (some (.int pv)), (some (.int x)), o6, o7, o8] st w k n) : R G l y cc 9 ret d mc ms Q pc [o0, o1, o2, o3, (some (.int pv)), o5, o6, o7, o8] (.int x :: st) w k n := by
  intro p e Rm s m args below meth c Qt C hret H locs ls hH hS hl
  refine lv_istore C.1 C.2.1 (x := x) hdg (hasL_as hl) (by decide) rfl (fun ls' h' => kk p e Rm s m args below meth c Qt C hret H locs ls' hH hS (hasL_set1 (x := .int x) h' ?_))
  intro j v hj
  match j, hj with
    | 0, hj => exact Or.inr ⟨by decide, hj, fun h => absurd h (by decide)⟩
    | 1, hj => exact Or.inr ⟨by decide, hj, fun h => absurd h (by decide)⟩
    | 2, hj => exact Or.inr ⟨by decide, hj, fun h => absurd h (by decide)⟩
    | 3, hj => exact Or.inr ⟨by decide, hj, fun h => absurd h (by decide)⟩
    | 4, hj => exact Or.inr ⟨by decide, hj, fun _ => by cases hj; simp [Value.category]⟩
    | 5, hj => exact Or.inl ⟨rfl, (Option.some.inj (Option.some.inj hj)).symm⟩
    | 6, hj => exact Or.inr ⟨by decide, hj, fun h => absurd h (by decide)⟩
    | 7, hj => exact Or.inr ⟨by decide, hj, fun h => absurd h (by decide)⟩
    | 8, hj => exact Or.inr ⟨by decide, hj, fun h => absurd h (by decide)⟩
    | q + 9, hj => simp at hj
set_option maxRecDepth 100000 in
theorem st_9_6_i_i {o0 o1 o2 o3 o4 o6 o7 o8 : Option Value} {pv : Int32} {x : Int32} (hdg : decode cc pc = .ok (.istore 6, 2)) (kk : R G l y cc 9 ret d mc ms Q (pc + 2) [o0, o1, o2, o3, o4, (some (.int pv)), (some (.int x)), o7, o8] st w k n) : R G l y cc 9 ret d mc ms Q pc [o0, o1, o2, o3, o4, (some (.int pv)), o6, o7, o8] (.int x :: st) w k n := by
  intro p e Rm s m args below meth c Qt C hret H locs ls hH hS hl
  refine lv_istore C.1 C.2.1 (x := x) hdg (hasL_as hl) (by decide) rfl (fun ls' h' => kk p e Rm s m args below meth c Qt C hret H locs ls' hH hS (hasL_set1 (x := .int x) h' ?_))
  intro j v hj
  match j, hj with
    | 0, hj => exact Or.inr ⟨by decide, hj, fun h => absurd h (by decide)⟩
    | 1, hj => exact Or.inr ⟨by decide, hj, fun h => absurd h (by decide)⟩
    | 2, hj => exact Or.inr ⟨by decide, hj, fun h => absurd h (by decide)⟩
    | 3, hj => exact Or.inr ⟨by decide, hj, fun h => absurd h (by decide)⟩
    | 4, hj => exact Or.inr ⟨by decide, hj, fun h => absurd h (by decide)⟩
    | 5, hj => exact Or.inr ⟨by decide, hj, fun _ => by cases hj; simp [Value.category]⟩
    | 6, hj => exact Or.inl ⟨rfl, (Option.some.inj (Option.some.inj hj)).symm⟩
    | 7, hj => exact Or.inr ⟨by decide, hj, fun h => absurd h (by decide)⟩
    | 8, hj => exact Or.inr ⟨by decide, hj, fun h => absurd h (by decide)⟩
    | q + 9, hj => simp at hj
set_option maxRecDepth 100000 in
theorem st_9_7_i_i {o0 o1 o2 o3 o4 o5 o7 o8 : Option Value} {pv : Int32} {x : Int32} (hdg : decode cc pc = .ok (.istore 7, 2)) (kk : R G l y cc 9 ret d mc ms Q (pc + 2) [o0, o1, o2, o3, o4, o5, (some (.int pv)), (some (.int x)), o8] st w k n) : R G l y cc 9 ret d mc ms Q pc [o0, o1, o2, o3, o4, o5, (some (.int pv)), o7, o8] (.int x :: st) w k n := by
  intro p e Rm s m args below meth c Qt C hret H locs ls hH hS hl
  refine lv_istore C.1 C.2.1 (x := x) hdg (hasL_as hl) (by decide) rfl (fun ls' h' => kk p e Rm s m args below meth c Qt C hret H locs ls' hH hS (hasL_set1 (x := .int x) h' ?_))
  intro j v hj
  match j, hj with
    | 0, hj => exact Or.inr ⟨by decide, hj, fun h => absurd h (by decide)⟩
    | 1, hj => exact Or.inr ⟨by decide, hj, fun h => absurd h (by decide)⟩
    | 2, hj => exact Or.inr ⟨by decide, hj, fun h => absurd h (by decide)⟩
    | 3, hj => exact Or.inr ⟨by decide, hj, fun h => absurd h (by decide)⟩
    | 4, hj => exact Or.inr ⟨by decide, hj, fun h => absurd h (by decide)⟩
    | 5, hj => exact Or.inr ⟨by decide, hj, fun h => absurd h (by decide)⟩
    | 6, hj => exact Or.inr ⟨by decide, hj, fun _ => by cases hj; simp [Value.category]⟩
    | 7, hj => exact Or.inl ⟨rfl, (Option.some.inj (Option.some.inj hj)).symm⟩
    | 8, hj => exact Or.inr ⟨by decide, hj, fun h => absurd h (by decide)⟩
    | q + 9, hj => simp at hj
set_option maxRecDepth 100000 in
theorem st_9_8_i_i {o0 o1 o2 o3 o4 o5 o6 o8 : Option Value} {pv : Int32} {x : Int32} (hdg : decode cc pc = .ok (.istore 8, 2)) (kk : R G l y cc 9 ret d mc ms Q (pc + 2) [o0, o1, o2, o3, o4, o5, o6, (some (.int pv)), (some (.int x))] st w k n) : R G l y cc 9 ret d mc ms Q pc [o0, o1, o2, o3, o4, o5, o6, (some (.int pv)), o8] (.int x :: st) w k n := by
  intro p e Rm s m args below meth c Qt C hret H locs ls hH hS hl
  refine lv_istore C.1 C.2.1 (x := x) hdg (hasL_as hl) (by decide) rfl (fun ls' h' => kk p e Rm s m args below meth c Qt C hret H locs ls' hH hS (hasL_set1 (x := .int x) h' ?_))
  intro j v hj
  match j, hj with
    | 0, hj => exact Or.inr ⟨by decide, hj, fun h => absurd h (by decide)⟩
    | 1, hj => exact Or.inr ⟨by decide, hj, fun h => absurd h (by decide)⟩
    | 2, hj => exact Or.inr ⟨by decide, hj, fun h => absurd h (by decide)⟩
    | 3, hj => exact Or.inr ⟨by decide, hj, fun h => absurd h (by decide)⟩
    | 4, hj => exact Or.inr ⟨by decide, hj, fun h => absurd h (by decide)⟩
    | 5, hj => exact Or.inr ⟨by decide, hj, fun h => absurd h (by decide)⟩
    | 6, hj => exact Or.inr ⟨by decide, hj, fun h => absurd h (by decide)⟩
    | 7, hj => exact Or.inr ⟨by decide, hj, fun _ => by cases hj; simp [Value.category]⟩
    | 8, hj => exact Or.inl ⟨rfl, (Option.some.inj (Option.some.inj hj)).symm⟩
    | q + 9, hj => simp at hj
end STORES
set_option maxRecDepth 100000 in
theorem wo_X8 : Cond.methodLink RX8 1 objectInit ∈ TW := TW_t1 23 rfl rfl
set_option maxRecDepth 100000 in
theorem wo_X0 : Cond.methodLink RX0 3 objectInit ∈ TW := TW_t1 31 rfl rfl
set_option maxRecDepth 100000 in
theorem wo_X3 : Cond.methodLink RX3 3 objectInit ∈ TW := TW_t1 103 rfl rfl
set_option maxRecDepth 100000 in
theorem wo_X5 : Cond.methodLink RX5 3 objectInit ∈ TW := TW_t1 130 rfl rfl
set_option maxRecDepth 100000 in
theorem wo_X1 : Cond.methodLink RX1 3 objectInit ∈ TW := TW_t1 156 rfl rfl
set_option maxRecDepth 100000 in
theorem wo_X7 : Cond.methodLink RX7 3 objectInit ∈ TW := TW_t1 163 rfl rfl
set_option maxRecDepth 100000 in
theorem wo_X2 : Cond.methodLink RX2 3 objectInit ∈ TW := TW_t1 235 rfl rfl
set_option maxRecDepth 100000 in
theorem wo_X6 : Cond.methodLink RX6 3 objectInit ∈ TW := TW_t2 19 rfl rfl
set_option maxRecDepth 100000 in
theorem wo_X4 : Cond.methodLink RX4 3 objectInit ∈ TW := TW_t2 43 rfl rfl
set_option maxRecDepth 100000 in
theorem wm_373 : Cond.methodLink RX3 66 Lib.Math.max.name ∈ TW := TW_t2 133 rfl rfl
set_option maxRecDepth 100000 in
theorem wm_376 : Cond.methodLink RX3 61 Lib.Math.min.name ∈ TW := TW_t2 136 rfl rfl
set_option maxRecDepth 100000 in
theorem w_382c : Cond.constantLong RJ13 314 (6148914691236517205 : Int64) ∈ TW := TW_t2 142 rfl rfl
set_option maxRecDepth 100000 in
theorem w_383c : Cond.constantLong RJ13 316 (3689348814741910323 : Int64) ∈ TW := TW_t2 143 rfl rfl
set_option maxRecDepth 100000 in
theorem w_384c : Cond.constantLong RJ13 318 (1085102592571150095 : Int64) ∈ TW := TW_t2 144 rfl rfl
set_option maxRecDepth 100000 in
theorem w_399c : Cond.constantLong RX8 322 (255 : Int64) ∈ TW := TW_t2 159 rfl rfl
set_option maxRecDepth 100000 in
theorem w_451c : Cond.constant RJ6 265 (1431655765 : Int32) ∈ TW := TW_t2 211 rfl rfl
set_option maxRecDepth 100000 in
theorem w_452c : Cond.constant RJ6 266 (858993459 : Int32) ∈ TW := TW_t2 212 rfl rfl
set_option maxRecDepth 100000 in
theorem w_453c : Cond.constant RJ6 267 (252645135 : Int32) ∈ TW := TW_t2 213 rfl rfl
set_option maxRecDepth 100000 in
theorem wm_504 : Cond.methodLink RX8 167 Lib.Math.max.name ∈ TW := TW_t3 24 rfl rfl
set_option maxRecDepth 100000 in
theorem w_673c : Cond.constantLong RX2 27 (-1 : Int64) ∈ TW := TW_t3 193 rfl rfl
set_option maxRecDepth 100000 in
theorem wm_689 : Cond.methodLink RX2 43 Lib.Math.abs.name ∈ TW := TW_t3 209 rfl rfl
set_option maxRecDepth 100000 in
theorem w_697c : Cond.constantLong RX8 284 (-1 : Int64) ∈ TW := TW_t3 217 rfl rfl
set_option maxRecDepth 100000 in
theorem wm_719 : Cond.methodLink RX6 105 Lib.Math.min.name ∈ TW := TW_t3 239 rfl rfl
set_option maxRecDepth 100000 in
theorem wo_X9 : Cond.methodLink RX9 1 objectInit ∈ TW := TW_t4 113 rfl rfl
set_option maxRecDepth 100000 in
theorem w_1004c : Cond.constantLong RX9 138 (255 : Int64) ∈ TW := TW_t5 44 rfl rfl
set_option maxRecDepth 100000 in
theorem w_1212c : Cond.constantLong RX9 252 (-1 : Int64) ∈ TW := TW_t6 12 rfl rfl
set_option maxRecDepth 100000 in
theorem w_1233c : Cond.constantLong RX9 292 (411 : Int64) ∈ TW := TW_t6 33 rfl rfl
set_option maxRecDepth 100000 in
theorem w_1242c : Cond.constantLong RX9 269 (-2 : Int64) ∈ TW := TW_t6 42 rfl rfl
set_option maxRecDepth 100000 in
theorem w_1243c : Cond.constantLong RX9 274 (27 : Int64) ∈ TW := TW_t6 43 rfl rfl
set_option maxRecDepth 100000 in
theorem w_1244c : Cond.constantLong RX9 276 (96 : Int64) ∈ TW := TW_t6 44 rfl rfl
set_option maxRecDepth 100000 in
theorem w_1245c : Cond.constantLong RX9 278 (-4 : Int64) ∈ TW := TW_t6 45 rfl rfl
set_option maxRecDepth 100000 in
theorem w_1246c : Cond.constantLong RX9 280 (-3 : Int64) ∈ TW := TW_t6 46 rfl rfl
set_option maxRecDepth 100000 in
theorem w_1255c : Cond.constantLong RX9 301 (131638 : Int64) ∈ TW := TW_t6 55 rfl rfl
set_option maxRecDepth 100000 in
theorem w_1256c : Cond.constantLong RX9 303 (555 : Int64) ∈ TW := TW_t6 56 rfl rfl
set_option maxRecDepth 100000 in
theorem w_1257c : Cond.constantLong RX9 305 (2968 : Int64) ∈ TW := TW_t6 57 rfl rfl
set_option maxRecDepth 100000 in
theorem w_1258c : Cond.constantLong RX9 307 (40187 : Int64) ∈ TW := TW_t6 58 rfl rfl
set_option maxRecDepth 100000 in
theorem w_1271c : Cond.constantLong "ViewCardsLaw" 13 (4294967295 : Int64) ∈ TW := TW_t6 71 rfl rfl
section LDCW
variable {G : vG} {l : Launch} {y : MethodName} {cc : ByteArray} {nL : Nat} {ret : Option FieldType} {d mc ms : Nat} {Q : Option Value → VW → Prop} {pc : Nat} {lv : List (Option Value)} {st : List Value} {w : VW} {k n : Nat}
theorem R_ldcw {index : Nat} {v : Int32} (hc : (Jvm.Cond.constant y.cls index v) ∈ TW) (hdg : decode cc pc = .ok (.ldc_w index, 3)) (kk : R G l y cc nL ret d mc ms Q (pc + 3) lv (.int v :: st) w k n) : R G l y cc nL ret d mc ms Q pc lv st w k n := by
  intro p e Rm s m args below meth c Qt C hret H locs ls hH hS hl
  exact lv_ldcw C.1 C.2.1 C.2.2.2.1 (C.2.2.2.2.1 _ hc) hdg (kk p e Rm s m args below meth c Qt C hret H locs ls hH hS hl)
/-- an array's write, the world named -/
theorem W_iastore {a N : Nat} {f : Nat → Int32} {i x : Int32} {w2 : VW} (hdg : decode cc pc = .ok (.iastore, 1)) (he : w[a]? = some (.inl (0, N, .inl f))) (hin : vp_in i N) (hw : w.set a (.inl (0, N, .inl (upd f i.toNatClampNeg x))) = w2) (kk : R G l y cc nL ret d mc ms Q (pc + 1) lv st w2 k n) : R G l y cc nL ret d mc ms Q pc lv (.int x :: .int i :: .ref a :: st) w k n := R_iastore hdg he hin (by rw [hw]; exact kk)
theorem W_bastore {a N : Nat} {f : Nat → Int32} {i x : Int32} {w2 : VW} (hdg : decode cc pc = .ok (.bastore, 1)) (he : w[a]? = some (.inl (2, N, .inl f))) (hin : vp_in i N) (hx : vp_nar .boolean x = x) (hw : w.set a (.inl (2, N, .inl (upd f i.toNatClampNeg x))) = w2) (kk : R G l y cc nL ret d mc ms Q (pc + 1) lv st w2 k n) : R G l y cc nL ret d mc ms Q pc lv (.int x :: .int i :: .ref a :: st) w k n := R_bastore hdg he hin hx (by rw [hw]; exact kk)
theorem W_lastore {a N : Nat} {f : Nat → Int64} {i : Int32} {x : Int64} {w2 : VW} (hdg : decode cc pc = .ok (.lastore, 1)) (he : w[a]? = some (.inl (1, N, .inr (.inl f)))) (hin : vp_in i N) (hw : w.set a (.inl (1, N, .inr (.inl (vp_updL f i.toNatClampNeg x)))) = w2) (kk : R G l y cc nL ret d mc ms Q (pc + 1) lv st w2 k n) : R G l y cc nL ret d mc ms Q pc lv (.long x :: .int i :: .ref a :: st) w k n := R_lastore hdg he hin (by rw [hw]; exact kk)
theorem R_pop2 {v : Int64} (hdg : decode cc pc = .ok (.pop2, 1)) (kk : R G l y cc nL ret d mc ms Q (pc + 1) lv st w k n) : R G l y cc nL ret d mc ms Q pc lv (.long v :: st) w k n := by
  intro p e Rm s m args below meth c Qt C hret H locs ls hH hS hl
  exact lv_pop2_2 C.1 C.2.1 hdg rfl (kk p e Rm s m args below meth c Qt C hret H locs ls hH hS hl)
end LDCW
