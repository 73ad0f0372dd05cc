/-! THE FRESH OBJECTS: what each method answers on them -/
def A9 : Nat → Nat → Int32 := fun k => if k = 60 then fil 20000 8 else if k = 62 then fil 20000 5 else if 64 ≤ k ∧ k < 84 then fil 2 8 else if k = 94 then fil 64 8 else if k = 157 then fil 20000 8 else if k = 160 then fil 20000 5 else if k = 167 then fil 64 8 else fun _ => 0
def σF : Sg := (I0, fun _ => 0, A9, fun _ _ => 0, 126, 133)
/-- any state of the class beside a fresh reference -/
def mx (τ : Sg) : Sg := (fun k => if k < 14000 then τ.1 k else I0 k, fun k => if k < 14000 then τ.2.1 k else 0, fun k => if k < 140 then τ.2.2.1 k else A9 k, fun k => if k < 140 then τ.2.2.2.1 k else fun _ => 0, τ.2.2.2.2)
set_option maxRecDepth 100000 in
theorem KQ_WW : KQ_X9_init_140 = WW σF := rfl
def inB (v a b : Int32) : Bool := !(decide (v < a)) && !(decide (b < v))
theorem inB_t {v a b : Int32} (h : inR v a b) : inB v a b = true := by unfold inB; simp [h.1, h.2]
theorem inB_f {v a b : Int32} (h : ¬ inR v a b) : inB v a b = false := by
  unfold inB
  by_cases h1 : v < a
  · simp [h1]
  · by_cases h2 : b < v
    · simp [h2]
    · exact absurd ⟨h1, h2⟩ h
theorem vp_of_inR {v : Int32} {M : Int32} {N : Nat} (h : inR v 0 M) (hM : M.toInt < (N : Int)) : vp_in v N := by
  rw [vp_in_iff]
  obtain ⟨h1, h2⟩ := h
  have a1 := Int32.not_lt.mp h1
  have a2 := Int32.not_lt.mp h2
  have b1 := Int32.le_iff_toInt_le.mp a1
  have b2 := Int32.le_iff_toInt_le.mp a2
  have : (0 : Int32).toInt = 0 := by decide
  omega
theorem inR_no (v : Int32) : ¬ inR v 0 (-1) := by
  intro h
  have b1 := Int32.le_iff_toInt_le.mp (Int32.not_lt.mp h.1)
  have b2 := Int32.le_iff_toInt_le.mp (Int32.not_lt.mp h.2)
  have : (0 : Int32).toInt = 0 := by decide
  have : (-1 : Int32).toInt = -1 := by decide
  omega
section FR
variable {G : vG} {l : Launch} {y : MethodName} {cc : ByteArray} {nL : Nat} {ret : Option FieldType} {d mc ms : Nat} {Q : Option Value → VW → Prop} {pc : Nat} {lv : List (Option Value)} {st : List Value} {w : VW} {k n : Nat}
theorem R_cv {x : Int32} (v : Int32) (h : x = v) (kk : R G l y cc nL ret d mc ms Q pc lv (.int v :: st) w k n) : R G l y cc nL ret d mc ms Q pc lv (.int x :: st) w k n := by rw [h]; exact kk
theorem R_cl {x : Int64} (v : Int64) (h : x = v) (kk : R G l y cc nL ret d mc ms Q pc lv (.long v :: st) w k n) : R G l y cc nL ret d mc ms Q pc lv (.long x :: st) w k n := by rw [h]; exact kk
theorem W_iaload {a N : Nat} {f : Nat → Int32} {i : Int32} (v : Int32) (hdg : decode cc pc = .ok (.iaload, 1)) (he : w[a]? = some (.inl (0, N, .inl f))) (hin : vp_in i N) (hv : f i.toNatClampNeg = v) (kk : R G l y cc nL ret d mc ms Q (pc + 1) lv (.int v :: st) w k n) : R G l y cc nL ret d mc ms Q pc lv (.int i :: .ref a :: st) w k n := R_iaload hdg he hin (by rw [hv]; exact kk)
theorem W_baload {a N : Nat} {f : Nat → Int32} {i : Int32} (v : Int32) (hdg : decode cc pc = .ok (.baload, 1)) (he : w[a]? = some (.inl (2, N, .inl f))) (hin : vp_in i N) (hv : f i.toNatClampNeg = v) (kk : R G l y cc nL ret d mc ms Q (pc + 1) lv (.int v :: st) w k n) : R G l y cc nL ret d mc ms Q pc lv (.int i :: .ref a :: st) w k n := R_baload hdg he hin (by rw [hv]; exact kk)
theorem W_laload {a N : Nat} {f : Nat → Int64} {i : Int32} (v : Int64) (hdg : decode cc pc = .ok (.laload, 1)) (he : w[a]? = some (.inl (1, N, .inr (.inl f)))) (hin : vp_in i N) (hv : f i.toNatClampNeg = v) (kk : R G l y cc nL ret d mc ms Q (pc + 1) lv (.long v :: st) w k n) : R G l y cc nL ret d mc ms Q pc lv (.int i :: .ref a :: st) w k n := R_laload hdg he hin (by rw [hv]; exact kk)
end FR
theorem sp_up {G : vG} {l : Launch} {y : MethodName} {cc : ByteArray} {nL d mc ms : Nat} {ret : Option FieldType} {as : List Value} {w : VW} {Q Q' : Option Value → VW → Prop} (h : Sp G l y cc nL ret d mc ms as w Q) (hq : ∀ r w2, Q r w2 → Q' r w2) : Sp G l y cc nL ret d mc ms as w Q' := by
  intro p e a1 a2 a3 s m args below a4 a5 a6 a7
  obtain ⟨t, o, b1, b2, b3, ⟨⟨r, w2, e1, e2, e3⟩, e4⟩, e5⟩ := h p e a1 a2 a3 s m args below a4 a5 a6 a7
  exact ⟨t, o, b1, b2, b3, ⟨⟨r, w2, e1, hq r w2 e2, e3⟩, e4⟩, e5⟩
