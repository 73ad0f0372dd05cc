/-! reading and writing cells -/
section WORLD
variable {G : vG} {l : Launch} {y : MethodName} {cc : ByteArray} {nL : Nat} {ret : Option FieldType} {d mc ms : Nat} {Q : Option Value → VW → Prop} {pc : Nat} {lv : List (Option Value)} {st : List Value} {w : VW} {k n : Nat}
theorem R_get {C ref : String} {T : u_T} {N ci index a j : Nat} {fs : List Value} {v : Value} (hc : vwCl[ci]? = some (C, T, N)) (hin : ∀ w ∈ u_ws C T N, w ∈ TW) (hj : j < N) (hlink : Cond.fieldLink y.cls index ref (T j).2.1 (T j).2.2.1 ∈ TW) (hsame : (T j).1 = ref)
    (hdg : decode cc pc = .ok (.getfield index, 3)) (he : w[a]? = some (.inr (ci, fs))) (hv : fs[j]? = some v) (kk : R G l y cc nL ret d mc ms Q (pc + 3) lv (v :: st) w k n) : R G l y cc nL ret d mc ms Q pc lv (.ref a :: st) w k n := by
  intro p e Rm s m args below meth c Qt C0 hret H locs ls hH hS hl
  refine va_get (D := gD G) (ci := ci) (v := tv G v) C0.1 C0.2.1 C0.2.2.2.2.1 hin C0.2.2.2.1 C0.2.2.2.2.2.1.1 hH.2.2 a (rw_get he) hc j hj (C0.2.2.2.2.1 _ hlink) (fun _ h => by rw [hsame] at h; exact h) ?_ hdg (kk p e Rm s m args below meth c Qt C0 hret H locs ls hH hS hl)
  rw [List.getElem?_map, hv]
  rfl
theorem fits_tv {G : vG} {ty : FieldType} {v : Value} (h : fits ty v = true) : fits ty (tv G v) = true := by
  cases v <;> first | exact h | (cases ty <;> first | exact h | rfl)
theorem narrow_tv {G : vG} {ty : FieldType} {v : Value} (h : narrow ty v = v) : narrow ty (tv G v) = tv G v := by
  cases v <;> first | exact h | (cases ty <;> first | exact h | rfl)
theorem hp_set {G : vG} {w : VW} {H H1 : Heap} {a : Nat} {e : VE} (hH : hpOK G w H) (hz : H1.size = H.size) (hP : va_P (gD G) vwCl ((rw' G w).set a (ad G a, te G e)) H1) : hpOK G (w.set a e) H1 := by
  refine ⟨by rw [hz, List.length_set]; exact hH.1, by rw [List.length_set]; exact hH.2.1, ?_⟩
  rw [← rw_set]
  exact hP
theorem ad_Ar {G : vG} {w : VW} {H : Heap} {a : Nat} {e : VE} (hH : hpOK G w H) (he : w[a]? = some e) : Ar G (ad G a) := (rw_D hH.2.1).2 a _ (rw_get he)
/-- a field that isn't final is written -/
theorem R_put {C ref : String} {T : u_T} {ty0 : Nat → FieldType} {N ci index a j : Nat} {fs : List Value} {v : Value} (hc : vwCl[ci]? = some (C, T, N)) (hin : ∀ w ∈ u_ws C T N, w ∈ TW) (hty : ∀ k, k < N → parseFieldDescriptor (T k).2.2.1 = some (ty0 k)) (hnm : ∀ a, a < N → ∀ b, b < N → a ≠ b → (T a).2.1 ≠ (T b).2.1) (hj : j < N) (hlink : Cond.fieldLink y.cls index ref (T j).2.1 (T j).2.2.1 ∈ TW) (hsame : (T j).1 = ref) (hfin : (T j).2.2.2 = false)
    (hn : narrow (ty0 j) v = v) (hfit : fits (ty0 j) v = true)
    (hdg : decode cc pc = .ok (.putfield index, 3)) (he : w[a]? = some (.inr (ci, fs))) (hl0 : j < fs.length) (kk : R G l y cc nL ret d mc ms Q (pc + 3) lv st (w.set a (.inr (ci, fs.set j v))) k n) : R G l y cc nL ret d mc ms Q pc lv (v :: .ref a :: st) w k n := by
  intro p e Rm s m args below meth c Qt C0 hret H locs ls hH hS hl
  have hts := C0.2.2.2.2.1
  have hK := C0.2.2.2.2.2.1.1
  have hP := hH.2.2
  have hD : va_D (Ar G) (rw' G w) := rw_D hH.2.1
  have he' := rw_get (G := G) he
  have hap := va_apart (own := y.cls) hts hin ty0 hty hnm hK hc
  obtain ⟨r, h1, cell, q1, q2, q3, q4⟩ := hP a _ he'
  have hr : r = (C, T, N) := Option.some.inj (h1.symm.trans hc)
  subst hr
  obtain ⟨hSl, hfc, kC, hkC, hkind⟩ := hK.1 ci _ hc
  obtain ⟨cf, kf, fi, f, hi, hsl⟩ := hSl j hj
  have hlay := hts _ (hin _ (u_in_lay hj))
  unfold u_lay at hlay
  rw [if_neg (by rw [hfin]; decide)] at hlay
  have hst := (u_facts hfc hkC (u_lays hts hin hj) hi).1
  have h6 := u_store hfc hkC hkind hlay hi (hty j hj) (narrow_tv (G := G) hn) (fits_tv (G := G) hfit)
  refine W.putK C0.1 C0.2.1 (f := f) ⟨C0.2.2.2.1, hts _ hlink, ⟨_, _, _, by rw [hsame] at hi; exact hi⟩, hst⟩ (by rw [q2]; exact h6) q1 q3 (by rw [hsl]; exact k2_hasslot (q4 j hj)) rfl rfl hdg fun H' e1 e2 e3 => ?_
  rw [hsl] at e1 ⊢
  have hll : j < (fs.map (tv G)).length := by rw [List.length_map]; exact hl0
  have hP' := hP.set hD he' (e := .inr (ci, (fs.map (tv G)).set j (tv G v))) ⟨_, hc, t_OB.to (V := updV (vp_V (fs.map (tv G))) j (tv G v)) ⟨_, e1, q2, q3, t_set q4 hap hj (tv G v)⟩ (fun i _ => vp_updV_set hll (tv G v) i)⟩ e3
  refine kk p e Rm s m args below meth c Qt C0 hret H' _ ls (hp_set hH e2 ?_) (hS.put e2 e3 (ad_Ar hH he)) hl
  show va_P (gD G) vwCl ((rw' G w).set a (ad G a, .inr (ci, (fs.set j v).map (tv G)))) H'
  rw [List.map_set]
  exact hP'
/-- a final field, in its constructor -/
theorem R_putF {C ref : String} {T : u_T} {ty0 : Nat → FieldType} {N ci index a j : Nat} {fs : List Value} {v : Value} (hc : vwCl[ci]? = some (C, T, N)) (hin : ∀ w ∈ u_ws C T N, w ∈ TW) (hty : ∀ k, k < N → parseFieldDescriptor (T k).2.2.1 = some (ty0 k)) (hnm : ∀ a, a < N → ∀ b, b < N → a ≠ b → (T a).2.1 ≠ (T b).2.1) (hj : j < N) (hlink : Cond.fieldLink y.cls index ref (T j).2.1 (T j).2.2.1 ∈ TW) (hsame : (T j).1 = ref) (hfin : (T j).2.2.2 = true) (hcl : (T j).1 = y.cls) (hini : y.name = "<init>")
    (hn : narrow (ty0 j) v = v) (hfit : fits (ty0 j) v = true)
    (hdg : decode cc pc = .ok (.putfield index, 3)) (he : w[a]? = some (.inr (ci, fs))) (hl0 : j < fs.length) (kk : R G l y cc nL ret d mc ms Q (pc + 3) lv st (w.set a (.inr (ci, fs.set j v))) k n) : R G l y cc nL ret d mc ms Q pc lv (v :: .ref a :: st) w k n := by
  intro p e Rm s m args below meth c Qt C0 hret H locs ls hH hS hl
  have hts := C0.2.2.2.2.1
  have hK := C0.2.2.2.2.2.1.1
  have hP := hH.2.2
  have hD : va_D (Ar G) (rw' G w) := rw_D hH.2.1
  have he' := rw_get (G := G) he
  have hap := va_apart (own := y.cls) hts hin ty0 hty hnm hK hc
  obtain ⟨r, h1, cell, q1, q2, q3, q4⟩ := hP a _ he'
  have hr : r = (C, T, N) := Option.some.inj (h1.symm.trans hc)
  subst hr
  obtain ⟨hSl, hfc, kC, hkC, hkind⟩ := hK.1 ci _ hc
  obtain ⟨cf, kf, fi, f, hi, hsl⟩ := hSl j hj
  have hlay := hts _ (hin _ (u_in_lay hj))
  unfold u_lay at hlay
  rw [if_pos hfin] at hlay
  have hst := (u_facts hfc hkC (u_lays hts hin hj) hi).1
  have hcf : m.cls = cf := by
    obtain ⟨_, _, c', _, _, _, -, -, hf', -, -, -, hown2, -⟩ := Cond.laysFinal_spec hlay
    have e1 : c' = cf := by have := hi.symm.trans hf'; simp at this; exact this.1.symm
    rw [hcl] at hown2
    rw [← e1]; exact Option.some.inj (C0.2.2.2.1.symm.trans hown2)
  have h6 := u_fits hfc hkC hkind (Or.inr hlay) hi (hty j hj) (narrow_tv (G := G) hn) (fits_tv (G := G) hfit)
  refine W.putFinK C0.1 C0.2.1 C0.2.2.2.1 (hts _ hlink) (by rw [hsame] at hi; exact hi) hst hcf (C0.2.2.2.2.2.2.2.2.2.2.trans hini) (by rw [q2]; exact h6) q1 q3 (by rw [hsl]; exact k2_hasslot (q4 j hj)) rfl rfl hdg fun H' e1 e2 e3 => ?_
  rw [hsl] at e1 ⊢
  have hll : j < (fs.map (tv G)).length := by rw [List.length_map]; exact hl0
  have hP' := hP.set hD he' (e := .inr (ci, (fs.map (tv G)).set j (tv G v))) ⟨_, hc, t_OB.to (V := updV (vp_V (fs.map (tv G))) j (tv G v)) ⟨_, e1, q2, q3, t_set q4 hap hj (tv G v)⟩ (fun i _ => vp_updV_set hll (tv G v) i)⟩ e3
  refine kk p e Rm s m args below meth c Qt C0 hret H' _ ls (hp_set hH e2 ?_) (hS.put e2 e3 (ad_Ar hH he)) hl
  show va_P (gD G) vwCl ((rw' G w).set a (ad G a, .inr (ci, (fs.set j v).map (tv G)))) H'
  rw [List.map_set]
  exact hP'
theorem R_iaload {a N : Nat} {f : Nat → Int32} {i : Int32} (hdg : decode cc pc = .ok (.iaload, 1)) (he : w[a]? = some (.inl (0, N, .inl f))) (hin : vp_in i N) (kk : R G l y cc nL ret d mc ms Q (pc + 1) lv (.int (f i.toNatClampNeg) :: st) w k n) : R G l y cc nL ret d mc ms Q pc lv (.int i :: .ref a :: st) w k n := by
  intro p e Rm s m args below meth c Qt C0 hret H locs ls hH hS hl
  exact va_iald C0.1 C0.2.1 C0.2.2.2.2.2.1.1 hH.2.2 a 0 (rw_get he) rfl hin hdg (kk p e Rm s m args below meth c Qt C0 hret H locs ls hH hS hl)
theorem R_baload {a N : Nat} {f : Nat → Int32} {i : Int32} (hdg : decode cc pc = .ok (.baload, 1)) (he : w[a]? = some (.inl (2, N, .inl f))) (hin : vp_in i N) (kk : R G l y cc nL ret d mc ms Q (pc + 1) lv (.int (f i.toNatClampNeg) :: st) w k n) : R G l y cc nL ret d mc ms Q pc lv (.int i :: .ref a :: st) w k n := by
  intro p e Rm s m args below meth c Qt C0 hret H locs ls hH hS hl
  exact va_zald C0.1 C0.2.1 C0.2.2.2.2.2.1.1 hH.2.2 a 2 (rw_get he) rfl hin hdg (kk p e Rm s m args below meth c Qt C0 hret H locs ls hH hS hl)
theorem R_laload {a N : Nat} {f : Nat → Int64} {i : Int32} (hdg : decode cc pc = .ok (.laload, 1)) (he : w[a]? = some (.inl (1, N, .inr (.inl f)))) (hin : vp_in i N) (kk : R G l y cc nL ret d mc ms Q (pc + 1) lv (.long (f i.toNatClampNeg) :: st) w k n) : R G l y cc nL ret d mc ms Q pc lv (.int i :: .ref a :: st) w k n := by
  intro p e Rm s m args below meth c Qt C0 hret H locs ls hH hS hl
  exact va_lald C0.1 C0.2.1 C0.2.2.2.2.2.1.1 hH.2.2 a 1 (rw_get he) rfl hin hdg (kk p e Rm s m args below meth c Qt C0 hret H locs ls hH hS hl)
/-- a row of an array of rows -/
theorem R_aaload {a N b : Nat} {f : Nat → Option Nat} {i : Int32} (hdg : decode cc pc = .ok (.aaload, 1)) (he : w[a]? = some (.inl (3, N, .inr (.inr (.inr (.inr f)))))) (hin : vp_in i N) (hv : f i.toNatClampNeg = some b) (kk : R G l y cc nL ret d mc ms Q (pc + 1) lv (.ref b :: st) w k n) : R G l y cc nL ret d mc ms Q pc lv (.int i :: .ref a :: st) w k n := by
  intro p e Rm s m args below meth c Qt C0 hret H locs ls hH hS hl
  have hK := C0.2.2.2.2.2.1.1
  have hlt : i.toNatClampNeg < N := Nat.not_le.mp fun q => hin (Or.inr q)
  have he' : (rw' G w)[a]? = some (ad G a, .inl (gA G 3, N, .inr (.inr (.inr (.inr (fun i => (f i).map (ad G))))))) := rw_get he
  have hcell := hH.2.2 a _ he'
  refine W.aald (v := .ref (ad G b)) (ty := .array .int) C0.1 C0.2.1 hcell ((hK.2 3 _ rfl).1 N (fun j => va_rf ((f j).map (ad G)))) rfl (fun q => by cases q) (by show ¬ (i < 0 ∨ (arrV _ _ _).slots.size ≤ _); rw [arrV_size]; exact hin) (by show (arrV _ _ _).slots[_]? = _; rw [arrV_read _ _ hlt]; show some (va_rf ((f i.toNatClampNeg).map (ad G))) = _; rw [hv]; rfl) rfl rfl hdg (kk p e Rm s m args below meth c Qt C0 hret H locs ls hH hS hl)
theorem R_iastore {a N : Nat} {f : Nat → Int32} {i x : Int32} (hdg : decode cc pc = .ok (.iastore, 1)) (he : w[a]? = some (.inl (0, N, .inl f))) (hin : vp_in i N) (kk : R G l y cc nL ret d mc ms Q (pc + 1) lv st (w.set a (.inl (0, N, .inl (upd f i.toNatClampNeg x)))) k n) : R G l y cc nL ret d mc ms Q pc lv (.int x :: .int i :: .ref a :: st) w k n := by
  intro p e Rm s m args below meth c Qt C0 hret H locs ls hH hS hl
  have hK := C0.2.2.2.2.2.1.1
  have hP := hH.2.2
  have hD : va_D (Ar G) (rw' G w) := rw_D hH.2.1
  have he' : (rw' G w)[a]? = some (ad G a, .inl (gA G 0, N, .inl f)) := rw_get he
  refine W.iast C0.1 C0.2.1 (hP a _ he') ((hK.2 0 _ rfl).1 N (fun j => .int (f j))) (fun q => by cases q) (by show ¬ (i < 0 ∨ (arrV _ _ _).slots.size ≤ _); rw [arrV_size]; exact hin) rfl rfl hdg fun H1 e1 z oq => ?_
  refine kk p e Rm s m args below meth c Qt C0 hret H1 _ ls (hp_set (e := .inl (0, N, .inl (upd f i.toNatClampNeg x))) hH z (hP.set hD he' (e := .inl (gA G 0, N, .inl (upd f i.toNatClampNeg x))) ?_ oq)) (hS.put z oq (ad_Ar hH he)) hl
  show H1[ad G a]? = some (vp_cell _ _)
  rw [e1]
  rw [vp_cell_i, vp_cell_i, arrV_store]
  congr 2
  funext q
  by_cases hq : q = i.toNatClampNeg
  · subst hq
    simp [updV, upd]
  · simp [updV, upd, hq]
theorem R_bastore {a N : Nat} {f : Nat → Int32} {i x : Int32} (hdg : decode cc pc = .ok (.bastore, 1)) (he : w[a]? = some (.inl (2, N, .inl f))) (hin : vp_in i N) (hx : vp_nar .boolean x = x) (kk : R G l y cc nL ret d mc ms Q (pc + 1) lv st (w.set a (.inl (2, N, .inl (upd f i.toNatClampNeg x)))) k n) : R G l y cc nL ret d mc ms Q pc lv (.int x :: .int i :: .ref a :: st) w k n := by
  intro p e Rm s m args below meth c Qt C0 hret H locs ls hH hS hl
  have hK := C0.2.2.2.2.2.1.1
  have hP := hH.2.2
  have hD : va_D (Ar G) (rw' G w) := rw_D hH.2.1
  have he' : (rw' G w)[a]? = some (ad G a, .inl (gA G 2, N, .inl f)) := rw_get he
  refine W.zast C0.1 C0.2.1 (hP a _ he') ((hK.2 2 _ rfl).1 N (fun j => .int (f j))) (fun q => by cases q) (by show ¬ (i < 0 ∨ (arrV _ _ _).slots.size ≤ _); rw [arrV_size]; exact hin) rfl rfl hdg fun H1 e1 z oq => ?_
  refine kk p e Rm s m args below meth c Qt C0 hret H1 _ ls (hp_set (e := .inl (2, N, .inl (upd f i.toNatClampNeg x))) hH z (hP.set hD he' (e := .inl (gA G 2, N, .inl (upd f i.toNatClampNeg x))) ?_ oq)) (hS.put z oq (ad_Ar hH he)) hl
  show H1[ad G a]? = some (vp_cell _ _)
  rw [e1]
  rw [vp_cell_i, vp_cell_i, arrV_store]
  congr 2
  funext q
  by_cases hq : q = i.toNatClampNeg
  · subst hq
    simp [updV, upd]
    rw [show narrow .boolean (.int x) = .int (vp_nar .boolean x) from rfl, hx]
  · simp [updV, upd, hq]
theorem R_lastore {a N : Nat} {f : Nat → Int64} {i : Int32} {x : Int64} (hdg : decode cc pc = .ok (.lastore, 1)) (he : w[a]? = some (.inl (1, N, .inr (.inl f)))) (hin : vp_in i N) (kk : R G l y cc nL ret d mc ms Q (pc + 1) lv st (w.set a (.inl (1, N, .inr (.inl (vp_updL f i.toNatClampNeg x))))) k n) : R G l y cc nL ret d mc ms Q pc lv (.long x :: .int i :: .ref a :: st) w k n := by
  intro p e Rm s m args below meth c Qt C0 hret H locs ls hH hS hl
  have hK := C0.2.2.2.2.2.1.1
  have hP := hH.2.2
  have hD : va_D (Ar G) (rw' G w) := rw_D hH.2.1
  have he' : (rw' G w)[a]? = some (ad G a, .inl (gA G 1, N, .inr (.inl f))) := rw_get he
  refine W.last C0.1 C0.2.1 (hP a _ he') ((hK.2 1 _ rfl).1 N (fun j => .long (f j))) (fun q => by cases q) (by show ¬ (i < 0 ∨ (arrV _ _ _).slots.size ≤ _); rw [arrV_size]; exact hin) rfl rfl hdg fun H1 e1 z oq => ?_
  refine kk p e Rm s m args below meth c Qt C0 hret H1 _ ls (hp_set (e := .inl (1, N, .inr (.inl (vp_updL f i.toNatClampNeg x)))) hH z (hP.set hD he' (e := .inl (gA G 1, N, .inr (.inl (vp_updL f i.toNatClampNeg x)))) ?_ oq)) (hS.put z oq (ad_Ar hH he)) hl
  show H1[ad G a]? = some (vp_cell _ _)
  rw [e1]
  rw [vp_cell_l, vp_cell_l, arrV_store]
  congr 2
  funext q
  by_cases hq : q = i.toNatClampNeg
  · subst hq
    simp [updV, vp_updL]
  · simp [updV, vp_updL, hq]
/-- the script, at place 1000200 -/
theorem R_slen (hdg : decode cc pc = .ok (.arraylength, 1)) (kk : R G l y cc nL ret d mc ms Q (pc + 1) lv (.int (nI (gL G)) :: st) w k n) : R G l y cc nL ret d mc ms Q pc lv (.ref 1000200 :: st) w k n := by
  intro p e Rm s m args below meth c Qt C0 hret H locs ls hH hS hl
  obtain ⟨-, -, -, -, -, -, hX, h8, h9, -⟩ := C0.2.2.2.2.2.1
  exact va_slen C0.1 C0.2.1 hX (Nat.lt_of_lt_of_le h8 h9) (Nat.not_le.mpr h8) hS hdg (kk p e Rm s m args below meth c Qt C0 hret H locs ls hH hS hl)
theorem R_sld {i : Int32} (hdg : decode cc pc = .ok (.iaload, 1)) (hin : vp_in i (gL G)) (kk : R G l y cc nL ret d mc ms Q (pc + 1) lv (.int (gX G i.toNatClampNeg) :: st) w k n) : R G l y cc nL ret d mc ms Q pc lv (.int i :: .ref 1000200 :: st) w k n := by
  intro p e Rm s m args below meth c Qt C0 hret H locs ls hH hS hl
  obtain ⟨-, -, -, -, -, -, hX, h8, h9, -⟩ := C0.2.2.2.2.2.1
  exact va_sld C0.1 C0.2.1 hX (Nat.lt_of_lt_of_le h8 h9) (Nat.not_le.mpr h8) hS hin hdg (kk p e Rm s m args below meth c Qt C0 hret H locs ls hH hS hl)
end WORLD
