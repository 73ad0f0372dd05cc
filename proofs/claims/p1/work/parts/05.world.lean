/-! reading and writing cells -/
def vpf (w : VW) (a ci k : Nat) (fs : List Value) (v : Value) : VW := w.set a (.inr (ci, fs.set k v))
section WORLD
variable {G : vG} {l : Launch} {y : MethodName} {cc : ByteArray} {nL : Nat} {ret : Option FieldType} {d mc ms : Nat} {Q : Option Value → VW → Prop} {pc : Nat} {lv : List (Option Value)} {st : List Value} {w : VW} {k n : Nat}
theorem R_get {C ref : String} {T : u_T} {N ci index a j : Nat} {fs : List Value} {v : Value} (hc : vwCl[ci]? = some (C, T, N)) (hin : ∀ w ∈ u_ws C T N, w ∈ TW) (hj : j < N) (hlink : Cond.fieldLink y.cls index ref (T j).2.1 (T j).2.2.1 ∈ TW) (hsame : (T j).1 = ref)
    (hdg : decode cc pc = .ok (.getfield index, 3)) (he : w[a]? = some (.inr (ci, fs))) (hv : fs[j]? = some v) (kk : R G l y cc nL ret d mc ms Q (pc + 3) lv (v :: st) w k n) : R G l y cc nL ret d mc ms Q pc lv (.ref a :: st) w k n := by
  intro p e Rm s m args below meth c Qt C0 hret H locs ls hH hS hl
  refine va_get (D := gD G) (ci := ci) (v := tv G v) C0.1 C0.2.1 C0.2.2.2.2.1 hin C0.2.2.2.1 C0.2.2.2.2.2.1.1 hH.2.2 a (rw_get he) hc j hj (C0.2.2.2.2.1 _ hlink) (fun _ h => by rw [hsame] at h; exact h) ?_ hdg (kk p e Rm s m args below meth c Qt C0 hret H locs ls hH hS hl)
  rw [List.getElem?_map, hv]
  rfl
theorem fits_tv {G : vG} {ty : FieldType} {v : Value} (h : fits ty v = true) : fits ty (tv G v) = true := by
  cases v <;> first | exact h | (cases ty <;> first | exact h | rfl)
theorem narrow_tv {G : vG} {ty : FieldType} {v : Value} (h : narrow ty v = v) : narrow ty (tv G v) = tv G v := by
  cases v <;> first | exact h | (cases ty <;> first | exact h | rfl)
theorem hp_set {G : vG} {w : VW} {H H1 : Heap} {a : Nat} {e : VE} (hH : hpOK G w H) (hz : H1.size = H.size) (hP : va_P (gD G) vwCl ((rw' G w).set a (ad G a, te G e)) H1) : hpOK G (w.set a e) H1 := by
  refine ⟨by rw [hz, List.length_set]; exact hH.1, by rw [List.length_set]; exact hH.2.1, ?_⟩
  rw [← rw_set]
  exact hP
end WORLD
