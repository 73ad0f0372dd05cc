/-! THE FRAME: a world is a list of cells; the cell at place k stands at the address z + k. R: what a method does from a place on, said over worlds alone. -/
def TW : List Cond := lw_tbl.filter goodWord
theorem TW_of {w : Cond} (h : w ∈ lw_tbl) (hg : goodWord w = true) : w ∈ TW := List.mem_filter.mpr ⟨h, hg⟩
theorem TW_tb (i : Nat) {w : Cond} (h : tables_1[i]? = some w) (hg : goodWord w = true) : w ∈ TW := TW_of (List.mem_append_right _ (List.mem_of_getElem? h)) hg
theorem TW_t1 (i : Nat) {w : Cond} (h : tables_1_1[i]? = some w) (hg : goodWord w = true) : w ∈ TW := TW_of (List.mem_append_right _ (show w ∈ tables_1 from List.mem_append_left _ (List.mem_of_getElem? h))) hg
theorem TW_t2 (i : Nat) {w : Cond} (h : tables_1_2[i]? = some w) (hg : goodWord w = true) : w ∈ TW := TW_of (List.mem_append_right _ (show w ∈ tables_1 from List.mem_append_right _ (List.mem_append_left _ (List.mem_of_getElem? h)))) hg
theorem TW_t3 (i : Nat) {w : Cond} (h : tables_1_3[i]? = some w) (hg : goodWord w = true) : w ∈ TW := TW_of (List.mem_append_right _ (show w ∈ tables_1 from List.mem_append_right _ (List.mem_append_right _ (List.mem_append_left _ (List.mem_of_getElem? h))))) hg
theorem TW_t4 (i : Nat) {w : Cond} (h : tables_1_4[i]? = some w) (hg : goodWord w = true) : w ∈ TW := TW_of (List.mem_append_right _ (show w ∈ tables_1 from List.mem_append_right _ (List.mem_append_right _ (List.mem_append_right _ (List.mem_append_left _ (List.mem_of_getElem? h)))))) hg
theorem TW_t5 (i : Nat) {w : Cond} (h : tables_1_5[i]? = some w) (hg : goodWord w = true) : w ∈ TW := TW_of (List.mem_append_right _ (show w ∈ tables_1 from List.mem_append_right _ (List.mem_append_right _ (List.mem_append_right _ (List.mem_append_right _ (List.mem_append_left _ (List.mem_of_getElem? h))))))) hg
theorem TW_t6 (i : Nat) {w : Cond} (h : tables_1_6[i]? = some w) (hg : goodWord w = true) : w ∈ TW := TW_of (List.mem_append_right _ (show w ∈ tables_1 from List.mem_append_right _ (List.mem_append_right _ (List.mem_append_right _ (List.mem_append_right _ (List.mem_append_right _ (List.mem_of_getElem? h))))))) hg
theorem TW_pr (i : Nat) {w : Cond} (h : (k2_sels lw_privs)[i]? = some w) (hg : goodWord w = true) : w ∈ TW := TW_of (List.mem_append_left _ (List.mem_of_getElem? h)) hg
theorem TW_good : ∀ w ∈ TW, (w.onTables && w.keeps) = true ∨ ∃ ty, w = .arrayClass ty := fun w h => good_of_word (List.mem_filter.mp h).2
/-- what stays the same all through: the launch's address of the first cell, the classes, the array classes, the Strings' places, the script -/
abbrev vG : Type := Nat × va_G × (Nat → ClassId) × (Nat → Nat) × (Nat → Nat) × Nat × Nat × (Nat → Int32)
abbrev gz (G : vG) : Nat := G.1
abbrev gD (G : vG) : va_G := G.2.1
abbrev gA (G : vG) : Nat → ClassId := G.2.2.1
abbrev gK (G : vG) : Nat → Nat := G.2.2.2.1
abbrev gV (G : vG) : Nat → Nat := G.2.2.2.2.1
abbrev gb (G : vG) : Nat := G.2.2.2.2.2.1
abbrev gL (G : vG) : Nat := G.2.2.2.2.2.2.1
abbrev gX (G : vG) : Nat → Int32 := G.2.2.2.2.2.2.2
def ad (G : vG) (k : Nat) : Nat := if k < 1000000 then gz G + k else if k < 1000100 then gK G (k - 1000000) else if k < 1000200 then gV G (k - 1000100) else gb G
theorem ad_lt {G : vG} {k : Nat} (h : k < 1000000) : ad G k = gz G + k := if_pos h
def tv (G : vG) : Value → Value := fun v => match v with
  | .ref a => .ref (ad G a)
  | .int x => .int x
  | .long x => .long x
  | .null => .null
  | .float x => .float x
  | .double x => .double x
  | .retAddr x => .retAddr x
theorem tv_cat (G : vG) (v : Value) : (tv G v).category = v.category := by cases v <;> rfl
theorem tv_cats (G : vG) (l : List Value) : ((l.map (tv G)).map fun v => v.category).sum = (l.map fun v => v.category).sum := by
  rw [List.map_map]
  congr 1
  apply List.map_congr_left
  intro v _
  exact tv_cat G v
abbrev VE : Type := (Nat × vp_A) ⊕ (Nat × List Value)
abbrev VW : Type := List VE
def tc (G : vG) (a : vp_A) : vp_A := (a.1, match a.2 with
  | .inl f => .inl f
  | .inr (.inl f) => .inr (.inl f)
  | .inr (.inr (.inl f)) => .inr (.inr (.inl f))
  | .inr (.inr (.inr (.inl f))) => .inr (.inr (.inr (.inl f)))
  | .inr (.inr (.inr (.inr f))) => .inr (.inr (.inr (.inr (fun i => (f i).map (ad G))))))
def te (G : vG) (e : VE) : va_E := match e with
  | .inl (k, a) => .inl (gA G k, tc G a)
  | .inr (c, fs) => .inr (c, fs.map (tv G))
def rw' (G : vG) (w : VW) : va_W := w.mapIdx (fun k e => (ad G k, te G e))
theorem rw_len (G : vG) (w : VW) : (rw' G w).length = w.length := by simp [rw']
theorem rw_get {G : vG} {w : VW} {k : Nat} {e : VE} (h : w[k]? = some e) : (rw' G w)[k]? = some (ad G k, te G e) := by
  simp [rw', List.getElem?_mapIdx, h]
theorem rw_inv {G : vG} {w : VW} {k : Nat} {q : Nat × va_E} (h : (rw' G w)[k]? = some q) : ∃ e, w[k]? = some e ∧ q = (ad G k, te G e) := by
  simp only [rw', List.getElem?_mapIdx] at h
  cases hw : w[k]? with
  | none => rw [hw] at h; cases h
  | some e => rw [hw] at h; exact ⟨e, rfl, (Option.some.inj h).symm⟩
theorem rw_set (G : vG) (w : VW) (k : Nat) (e : VE) : (rw' G w).set k (ad G k, te G e) = rw' G (w.set k e) := by
  apply List.ext_getElem?
  intro i
  by_cases hi : k = i
  · subst hi
    by_cases hl : k < w.length
    · rw [List.getElem?_set_self (by rw [rw_len]; exact hl), rw_get (List.getElem?_set_self hl)]
    · rw [List.getElem?_eq_none (by simp [rw_len]; omega), List.getElem?_eq_none (by simp [rw_len]; omega)]
  · rw [List.getElem?_set_ne hi]
    simp only [rw', List.getElem?_mapIdx]
    rw [List.getElem?_set_ne hi]
theorem rw_push (G : vG) (w : VW) (e : VE) : rw' G w ++ [(ad G w.length, te G e)] = rw' G (w ++ [e]) := by
  simp [rw', List.mapIdx_append]
abbrev Ar (G : vG) : Nat → Prop := fun q => gz G ≤ q
theorem rw_D {G : vG} {w : VW} (h : w.length ≤ 1000000) : va_D (Ar G) (rw' G w) := by
  have lt : ∀ {i : Nat} {p : Nat × va_E}, (rw' G w)[i]? = some p → i < 1000000 := fun hi => by
    have := (List.getElem?_eq_some_iff.mp hi).1
    rw [rw_len] at this
    omega
  refine ⟨fun i j p q hi hj hpq => ?_, fun k q hk => ?_⟩
  · have li := lt hi
    have lj := lt hj
    obtain ⟨e1, -, rfl⟩ := rw_inv hi
    obtain ⟨e2, -, rfl⟩ := rw_inv hj
    have : ad G i = ad G j := hpq
    rw [ad_lt li, ad_lt lj] at this
    omega
  · have lk := lt hk
    obtain ⟨e1, -, rfl⟩ := rw_inv hk
    show gz G ≤ ad G k
    rw [ad_lt lk]
    omega
def hpOK (G : vG) (w : VW) (H : Heap) : Prop := H.size = gz G + w.length ∧ w.length ≤ 1000000 ∧ va_P (gD G) vwCl (rw' G w) H
abbrev tyG (G : vG) : List (ClassId × FieldType) := [(gA G 0, .int), (gA G 1, .long), (gA G 2, .boolean), (gA G 3, .array .int)]
/-- the links to private members of nest mates -/
def NWl : List (String × Nat × MethodName) := [("ViewCards", 9, ⟨"ViewCards$Album", "<init>", "()V"⟩), ("ViewCards$Dating", 37, ⟨"ViewCards$Spans", "<init>", "()V"⟩), ("ViewCards", 50, ⟨"ViewCards$Reader", "<init>", "()V"⟩), ("ViewCards", 57, ⟨"ViewCards$Lines", "<init>", "()V"⟩), ("ViewCards$Kin", 78, ⟨"ViewCards", "byteOf", "(JI)I"⟩), ("ViewCards$Kin", 102, ⟨"ViewCards", "lowest", "(I)I"⟩), ("ViewCards$Kin", 106, ⟨"ViewCards", "has", "(II)Z"⟩), ("ViewCards$Album", 61, ⟨"ViewCards", "has", "(II)Z"⟩), ("ViewCards$Dating", 60, ⟨"ViewCards", "has", "(II)Z"⟩), ("ViewCards$Lines", 31, ⟨"ViewCards", "isWithin", "(III)Z"⟩), ("ViewCards$Dating", 142, ⟨"ViewCards", "isWithin", "(III)Z"⟩), ("ViewCards$Ground", 49, ⟨"ViewCards", "commonDivisor", "(II)I"⟩), ("ViewCards$Reader", 114, ⟨"ViewCards", "isLetter", "(I)Z"⟩), ("ViewCards$Reader", 101, ⟨"ViewCards", "isDigit", "(I)Z"⟩), ("ViewCards$Reader", 88, ⟨"ViewCards", "isWithin", "(III)Z"⟩)]
/-- the six texts of the reader: their places in its pool, and what they say -/
def cpS : List (Nat × String) := [(47, "of"), (57, "from"), (59, "to"), (61, "day"), (63, "back"), (34, ";")]
def lenS : List Nat := [2, 4, 2, 3, 4, 1]
def bytS : List (List Int32) := [[111, 102], [102, 114, 111, 109], [116, 111], [100, 97, 121], [98, 97, 99, 107], [59]]
/-- the class of arrays of rows -/
def AOI (U : State) : Prop := (Cond.arrayOver (.array .int)).before #[] U = true
theorem AOI.moved {u U : State} (hvm : u.vm.Alike U.vm) (h : AOI u) : AOI U := Jvm.Stand.arrayOver_alikeB hvm h
/-- the static that the index check hands on: null, or the place 1000199 -/
def ZQ (G : vG) (U : State) (H : Heap) : Prop := va_Z "jdk/internal/util/Preconditions" "SIOOBE_FORMATTER" "Ljava/util/function/BiFunction;" .null (Ar G) U H ∨ va_Z "jdk/internal/util/Preconditions" "SIOOBE_FORMATTER" "Ljava/util/function/BiFunction;" (.ref (gV G 99)) (Ar G) U H
theorem ZQ.moved {G : vG} {u U : State} {H : Heap} (hvm : u.vm.Alike U.vm) (h : ZQ G u H) : ZQ G U H := h.elim (fun h => Or.inl (h.moved hvm)) (fun h => Or.inr (h.moved hvm))
theorem ZQ.kept {G : vG} {U : State} {H H1 : Heap} (h : ZQ G U H) (hq : ∀ a : Nat, a < H.size → ¬ Ar G a → H1[a]? = H[a]?) : ZQ G U H1 := h.elim (fun h => Or.inl (h.kept hq)) (fun h => Or.inr (h.kept hq))
/-- what holds outside the world, and stays -/
def K9 (G : vG) (U : State) (H : Heap) : Prop :=
  va_K (gD G) vwCl (tyG G) U ∧ (∀ q ∈ NWl, va_Nw (.methodLinkNest q.1 q.2.1 q.2.2 "ViewCards") U) ∧ (∀ (i : Nat) (q : Nat × String), cpS[i]? = some q → vk_R "ViewCards$Reader" q.1 q.2 (gK G i) U) ∧
  vk_S 6 lenS bytS (gK G) (gV G) (Ar G) U H ∧ va_Z "java/lang/String" "COMPACT_STRINGS" "Z" (.int 1) (Ar G) U H ∧ ZQ G U H ∧
  va_X (gb G) (gL G) (gX G) U H ∧ gb G < gz G ∧ gz G ≤ H.size ∧ AOI U
theorem K9.go {G : vG} {s U : State} {H H1 : Heap} (h : K9 G s H) (hW : s.WarmedH U.vm) (hz : H.size ≤ H1.size) (hq : ∀ a : Nat, a < H.size → ¬ Ar G a → H1[a]? = H[a]?) : K9 G U H1 := by
  obtain ⟨h1, h2, h3, h4, h5, h6, h7, h8, h9, h10⟩ := h
  refine ⟨va_K.moved hW.alike h1, fun q hm => va_Nw.warmM hW (h2 q hm), fun i q hm => (h3 i q hm).warm hW, (h4.moved hW.alike).kept hq, (h5.moved hW.alike).kept hq, (h6.moved hW.alike).kept hq, (h7.moved hW.alike).kept (hq _ (Nat.lt_of_lt_of_le h8 h9) (Nat.not_le.mpr h8)), h8, Nat.le_trans h9 hz, h10.moved hW.alike⟩
theorem K9.call {G : vG} {U : State} {H : Heap} (h : K9 G U H) (g : JFrame) (mk : MethodId) (a : Array Value) : K9 G (U.calling g mk a) H := by
  obtain ⟨h1, h2, h3, h4, h5, h6, h7, h8, h9, h10⟩ := h
  have hA : U.vm.Alike (U.calling g mk a).vm := Vm.Alike.refl U.vm
  exact ⟨va_K.moved hA h1, fun q hm => va_Nw.same rfl rfl (h2 q hm), fun i q hm => vk_R.same rfl (h3 i q hm), h4.moved hA, h5.moved hA, h6.moved hA, h7.moved hA, h8, h9, h10.moved hA⟩
/-- a method's end, over worlds -/
def Qm (G : vG) (Q : Option Value → VW → Prop) : Array Value → State → Outcome → State → Prop := fun _ st oc t => (∃ (r : Option Value) (w : VW), oc = .returned (r.map (tv G)) ∧ Q r w ∧ hpOK G w t.heap) ∧ va_F (Ar G) st t
/-- a method's contract, over worlds -/
def Sp (G : vG) (l : Launch) (y : MethodName) (cc : ByteArray) (nL : Nat) (ret : Option FieldType) (d mc ms : Nat) (as : List Value) (w : VW) (Q : Option Value → VW → Prop) : Prop :=
  Met l y (.code y cc nL ret :: TW) { frames := d, cells := mc, slots := ms, locals := 40 * d } (va_Pc (as.map (tv G)) (fun U => hpOK G w U.heap ∧ K9 G U U.heap)) (Qm G Q) mc ms (Ar G)
/-- positional locals -/
def hasL (G : vG) (ls : Array Slot) (nL : Nat) (lv : List (Option Value)) : Prop := ls.size = nL ∧ lv_wf ls ∧ ∀ (i : Nat) (v : Value), lv[i]? = some (some v) → ls[i]? = some (.val (tv G v))
def posA : List Value → List (Option Value)
  | [] => []
  | v :: vs => if v.category = 2 then some v :: none :: posA vs else some v :: posA vs
/-- the machine, in a body of method y -/
def Cx (G : vG) (y : MethodName) (cc : ByteArray) (nL d mc ms : Nat) (p : Program) (R : Room) (s : State) (m : MethodId) (args : Array Value) (meth : Method) (c : Code) : Prop :=
  p.tables.exec = Jvm.exec ∧ c.code = cc ∧ c.maxLocals = nL ∧ s.vm.findClass y.cls = some m.cls ∧ (∀ w ∈ TW, w.before args s = true) ∧ K9 G s s.heap ∧ d ≤ R.frames ∧ 40 * d ≤ R.locals ∧ mc ≤ R.cells ∧ ms ≤ R.slots ∧ meth.name = y.name
def retI (r : Option Value) : Instr := match r with
  | none => .return_
  | some (.long _) => .lreturn
  | some _ => .ireturn
def retF (ret : Option FieldType) (r : Option Value) : Prop := match r with
  | none => ret = none
  | some (.long _) => ret = some .long
  | some (.int x) => ∃ ty, ret = some ty ∧ narrow ty (.int x) = .int x
  | some _ => False
/-- from this place on, the method returns, and what Q says holds then -/
def R (G : vG) (l : Launch) (y : MethodName) (cc : ByteArray) (nL : Nat) (ret : Option FieldType) (d mc ms : Nat) (Q : Option Value → VW → Prop) (pc : Nat) (lv : List (Option Value)) (st : List Value) (w : VW) (k n : Nat) : Prop :=
  ∀ (p : Program) (e : Env) (Rm : Room) (s : State) (m : MethodId) (args : Array Value) (below : List Frame) (meth : Method) (c : Code) (Qt : State → Prop), Cx G y cc nL d mc ms p Rm s m args meth c →
    (∀ (r : Option Value) (w' : VW) (H : Heap) (locs : List Loc) (k n pc : Nat) (ls : Array Slot), Q r w' → hpOK G w' H → va_S (Ar G) s.heap H locs → k ≤ mc → n ≤ ms → decode cc pc = .ok (retI r, 1) → retF ret r → W p l e Rm s m args below meth c H locs k n Qt (F0 m pc ls (r.map (tv G)).toList)) →
    ∀ (H : Heap) (locs : List Loc) (ls : Array Slot), hpOK G w H → va_S (Ar G) s.heap H locs → hasL G ls nL lv → W p l e Rm s m args below meth c H locs k n Qt (F0 m pc ls (st.map (tv G)))
theorem posA_at (G : vG) : ∀ (vs : List Value) (k i : Nat) (v : Value), (posA vs)[i]? = some (some v) → (k + i, tv G v) ∈ lv_args k (vs.map (tv G)) := by
  intro vs
  induction vs with
  | nil => intro k i v h; simp [posA] at h
  | cons a as ih =>
    intro k i v h
    unfold posA at h
    by_cases hc : a.category = 2
    · rw [if_pos hc] at h
      match i with
      | 0 =>
        have : a = v := by simpa using h
        subst this
        simp [lv_args]
      | 1 => simp at h
      | i + 2 =>
        have h2 : (posA as)[i]? = some (some v) := by simpa using h
        have h3 := ih (k + 2) i v h2
        have : k + 2 + i = k + (i + 2) := by omega
        rw [this] at h3
        simp [lv_args, tv_cat, hc]
        exact h3
    · rw [if_neg hc] at h
      match i with
      | 0 =>
        have : a = v := by simpa using h
        subst this
        simp [lv_args]
      | i + 1 =>
        have h2 : (posA as)[i]? = some (some v) := by simpa using h
        have h3 := ih (k + 1) i v h2
        have : k + 1 + i = k + (i + 1) := by omega
        rw [this] at h3
        simp [lv_args, tv_cat, hc]
        exact h3
theorem hasL_entry {G : vG} {vs : List Value} {n : Nat} (h : (lg_sl (vs.map (tv G))).length ≤ n) (r : List (Option Value)) (hr : ∀ q ∈ r, q = none) : hasL G ((lg_sl (vs.map (tv G)) ++ List.replicate (n - (lg_sl (vs.map (tv G))).length) Slot.unset).toArray) n (posA vs ++ r) := by
  have h1 := lv_entry (vs.map (tv G)) h
  refine ⟨h1.1, h1.2.1, fun i v hi => ?_⟩
  by_cases hl : i < (posA vs).length
  · rw [List.getElem?_append_left hl] at hi
    have := posA_at G vs 0 i v hi
    rw [Nat.zero_add] at this
    exact h1.2.2 _ this
  · rw [List.getElem?_append_right (by omega)] at hi
    have := hr _ (List.mem_of_getElem? hi)
    cases this
theorem Sp_of_R {G : vG} {l : Launch} {y : MethodName} {cc : ByteArray} {nL d mc ms : Nat} {ret : Option FieldType} {as : List Value} {w : VW} {Q : Option Value → VW → Prop} (lv : List (Option Value)) (r : List (Option Value)) (hlv : posA as ++ r = lv) (hr : ∀ q ∈ r, q = none) (hy : plainName y.cls = true) (hn : (lg_sl (as.map (tv G))).length ≤ nL)
    (h : R G l y cc nL ret d mc ms Q 0 lv [] w 0 0) : Sp G l y cc nL ret d mc ms as w Q := by
  subst hlv
  refine Met.ofW (cc := cc) (maxL := nL) (ret := ret) hy rfl ?_
  intro p e s m args below meth c s₁ B hml hv
  obtain ⟨rfl, hH, hK⟩ := hv
  have hx := B.exec
  have hb := B.bytes
  have hr1 := B.returns
  have hts0 := atoms_spec (ws := .code y cc nL ret :: TW) B.pre
  have hts : ∀ w ∈ TW, w.before (as.map (tv G)).toArray s = true := fun w hw => hts0 w (List.mem_cons_of_mem _ hw)
  have hown : s.vm.findClass y.cls = some m.cls := findClass_of_methodNamed B.named
  have hlocks := B.notSynchronized
  have hin : meth.name = y.name := (name_of_methodNamed B.named B.method).1
  rw [lg_entry_eq]
  refine h p e _ s m _ below meth c _ ⟨hx, hb, hml, hown, hts, hK, Nat.le_refl _, Nat.le_refl _, Nat.le_refl _, Nat.le_refl _, hin⟩ ?_ s.heap [] _ hH va_S.rf (hasL_entry hn r hr)
  intro rv w' H locs k n pc ls hQ hH' hS' hk hn' hdg hf
  refine W.widen hk hn' ?_
  match rv, hdg, hf with
  | none, hdg, hf => exact W.vret hx hb (hr1.trans hf) (fun t ht hW => ⟨⟨none, w', rfl, hQ, by rw [ht]; exact hH'⟩, hS'.F ht⟩) hS'.2.2 hdg
  | some (.long x), hdg, hf => exact W.lret hx hb (hr1.trans hf) (fun t ht hW => ⟨⟨some (.long x), w', rfl, hQ, by rw [ht]; exact hH'⟩, hS'.F ht⟩) hS'.2.2 hdg
  | some (.int x), hdg, hf =>
    obtain ⟨ty, h1, h2⟩ := hf
    exact W.zret hx hb (hr1.trans h1) h2 (fun t ht hW => ⟨⟨some (.int x), w', rfl, hQ, by rw [ht]; exact hH'⟩, hS'.F ht⟩) hS'.2.2 hdg
