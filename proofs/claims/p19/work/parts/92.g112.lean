/-! methods on any state that keeps the invariant -/
/-! a line, and THE TEXT -/
def ln1 (f : Nat → Int32) (n : Nat) (st : St) : St := rwS f n 0 st
def ln2 (f : Nat → Int32) (n : Nat) (st : St) : St := rnS f n 0 4 (ln1 f n st)
def ln3 (f : Nat → Int32) (n : Nat) (st : St) : St := rwS f n 1 (ln2 f n st)
def ln4 (f : Nat → Int32) (n : Nat) (st : St) : St := rnS f n 1 99 (ln3 f n st)
def lnF (f : Nat → Int32) (n : Nat) (st : St) : Int32 := rnV f n 1 99 (ln3 f n st)
def ln5 (f : Nat → Int32) (n : Nat) (st : St) : St := rwS f n 2 (ln4 f n st)
def ln6 (f : Nat → Int32) (n : Nat) (st : St) : St := rnS f n (lnF f n st) 99 (ln5 f n st)
def lnD7 (f : Nat → Int32) (n : Nat) (st : St) : St := rwS f n 3 (ln6 f n st)
def lnD8 (f : Nat → Int32) (n : Nat) (st : St) : St := rnS f n 0 20000 (lnD7 f n st)
def lnL (f : Nat → Int32) (n : Nat) (st : St) : Int32 := rnV f n 0 20000 (lnD7 f n st)
def lnD9 (f : Nat → Int32) (n : Nat) (st : St) : St := rwS f n 2 (lnD8 f n st)
def lnD10 (f : Nat → Int32) (n : Nat) (st : St) : St := rnS f n (lnL f n st) 20000 (lnD9 f n st)
def lnB7 (f : Nat → Int32) (n : Nat) (st : St) : St := rwS f n 4 (ln6 f n st)
def lnB8 (f : Nat → Int32) (n : Nat) (st : St) : St := rnS f n 0 4 (lnB7 f n st)
def lnS (f : Nat → Int32) (n : Nat) (st : St) : St := bif rdB f n (ln6 f n st).1 3 then lnD10 f n st else lnB8 f n st
theorem lnS_t {f : Nat → Int32} {n : Nat} {st : St} (h : rdB f n (ln6 f n st).1 3 = true) : lnS f n st = lnD10 f n st := by unfold lnS; rw [h, cond_true]
theorem lnS_f {f : Nat → Int32} {n : Nat} {st : St} (h : rdB f n (ln6 f n st).1 3 = false) : lnS f n st = lnB8 f n st := by unfold lnS; rw [h, cond_false]
/-- where the reader stands; what else is changed is not said -/
def RT (σ0 σ : Sg) (n : Nat) (st : St) : Prop := σ.2.2.1 118 = σ0.2.2.1 118 ∧ σ.1 11701 = nI n ∧ n ≤ 160 ∧ st.1 ≤ n ∧ σ.1 11702 = nI st.1 ∧ σ.1 11703 = nI (tkE (σ0.2.2.1 118) n st.1) ∧ σ.1 11704 = st.2
theorem rt_rs {σ0 σ : Sg} {n : Nat} {st : St} (h : RT σ0 σ n st) : RS σ σ n st := ⟨rfl, fun _ _ _ _ => rfl, h.2.1, h.2.2.1, h.2.2.2.1, h.2.2.2.2.1, by rw [h.1]; exact h.2.2.2.2.2.1, h.2.2.2.2.2.2⟩
theorem rs_rt {σ0 σ : Sg} {n : Nat} {st : St} (h : RS σ0 σ n st) : RT σ0 σ n st := ⟨by rw [h.1], rs_z h, h.2.2.2.1, h.2.2.2.2.1, h.2.2.2.2.2.1, h.2.2.2.2.2.2.1, h.2.2.2.2.2.2.2⟩
theorem rt_tr {σ0 σ τ : Sg} {n : Nat} {st st2 : St} (h : RT σ0 σ n st) (k : RT σ τ n st2) : RT σ0 τ n st2 := ⟨k.1.trans h.1, k.2.1, k.2.2.1, k.2.2.2.1, k.2.2.2.2.1, by rw [k.2.2.2.2.2.1, h.1], k.2.2.2.2.2.2⟩
theorem rt_of {σ σx σ2 : Sg} {n : Nat} {st : St} (h : RS σ σx n st) (e0 : σ2.2.2.1 118 = σx.2.2.1 118) (e1 : σ2.1 11701 = σx.1 11701) (e2 : σ2.1 11702 = σx.1 11702) (e3 : σ2.1 11703 = σx.1 11703) (e4 : σ2.1 11704 = σx.1 11704) : RT σ σ2 n st := rt_tr (rs_rt h) ⟨e0, e1.trans (rs_z h), h.2.2.2.1, h.2.2.2.2.1, e2.trans h.2.2.2.2.2.1, by rw [e3, h.2.2.2.2.2.2.1, h.1], e4.trans h.2.2.2.2.2.2.2⟩
def szS (w a : Int32) : Int32 := bif decide (w = -1) && decide (a < 8) then a + 1 else a
theorem rsz_t {w a : Int32} (h : w = -1) (h2 : a < 8) : szS w a = a + 1 := by unfold szS; rw [decide_eq_true h, decide_eq_true h2]; rfl
theorem rsz_f1 {w a : Int32} (h : ¬ w = -1) : szS w a = a := by unfold szS; rw [decide_eq_false h]; rfl
theorem rsz_f2 {w a : Int32} (h : ¬ a < 8) : szS w a = a := by unfold szS; rw [decide_eq_false h, Bool.and_false]; rfl
/-- line by line; how many there are -/
def rdL (f : Nat → Int32) (n : Nat) : Nat → St → St
  | 0, st => st
  | q + 1, st => bif decide (st.2 = -1) && rdB f n st.1 5 then rdL f n q (lnS f n (sk f n (tkE f n st.1), st.2)) else st
def rdC (f : Nat → Int32) (n : Nat) : Nat → St → Int32 → Int32
  | 0, _, a => a
  | q + 1, st, a => bif decide (st.2 = -1) && rdB f n st.1 5 then rdC f n q (lnS f n (sk f n (tkE f n st.1), st.2)) (szS (lnS f n (sk f n (tkE f n st.1), st.2)).2 a) else a
def rd1 (f : Nat → Int32) (n : Nat) : St := lnS f n (sk f n 0, -1)
def rdE (f : Nat → Int32) (n : Nat) : St := rdL f n 7 (rd1 f n)
def rdR (f : Nat → Int32) (n : Nat) : Int32 := bif decide ((rdE f n).1 < n) then (fwS (rdE f n)).2 else (rdE f n).2
def rdZ (f : Nat → Int32) (n : Nat) : Int32 := rdC f n 7 (rd1 f n) (szS (rd1 f n).2 0)
theorem rdL_s {f : Nat → Int32} {n q : Nat} {st T : St} {a b : Int32} (h : rdL f n (q + 1) st = T ∧ rdC f n (q + 1) st a = b) (h1 : st.2 = -1) (h2 : rdB f n st.1 5 = true) : rdL f n q (lnS f n (sk f n (tkE f n st.1), st.2)) = T ∧ rdC f n q (lnS f n (sk f n (tkE f n st.1), st.2)) (szS (lnS f n (sk f n (tkE f n st.1), st.2)).2 a) = b := by
  obtain ⟨e1, e2⟩ := h
  constructor
  · rw [← e1]
    show _ = (bif decide (st.2 = -1) && rdB f n st.1 5 then rdL f n q (lnS f n (sk f n (tkE f n st.1), st.2)) else st)
    rw [decide_eq_true h1, h2, Bool.and_self, cond_true]
  · rw [← e2]
    show _ = (bif decide (st.2 = -1) && rdB f n st.1 5 then rdC f n q (lnS f n (sk f n (tkE f n st.1), st.2)) (szS (lnS f n (sk f n (tkE f n st.1), st.2)).2 a) else a)
    rw [decide_eq_true h1, h2, Bool.and_self, cond_true]
theorem rdL_e {f : Nat → Int32} {n q : Nat} {st T : St} {a b : Int32} (h : rdL f n q st = T ∧ rdC f n q st a = b) (h1 : q = 0 ∨ ¬ st.2 = -1 ∨ rdB f n st.1 5 = false) : st = T ∧ a = b := by
  cases q with
  | zero => exact h
  | succ q =>
    have e : (decide (st.2 = -1) && rdB f n st.1 5) = false := by
      rcases h1 with h1 | h1 | h1
      · omega
      · rw [decide_eq_false h1]; rfl
      · rw [h1, Bool.and_false]
    obtain ⟨e1, e2⟩ := h
    rw [← e1, ← e2]
    constructor
    · show st = (bif decide (st.2 = -1) && rdB f n st.1 5 then rdL f n q (lnS f n (sk f n (tkE f n st.1), st.2)) else st)
      rw [e, cond_false]
    · show a = (bif decide (st.2 = -1) && rdB f n st.1 5 then rdC f n q (lnS f n (sk f n (tkE f n st.1), st.2)) (szS (lnS f n (sk f n (tkE f n st.1), st.2)).2 a) else a)
      rw [e, cond_false]
theorem rdR_t {f : Nat → Int32} {n : Nat} {st : St} (h : st = rdE f n) (h1 : st.1 < n) : rdR f n = (fwS st).2 := by unfold rdR; rw [← h, decide_eq_true h1]; rfl
theorem rdR_f {f : Nat → Int32} {n : Nat} {st : St} (h : st = rdE f n) (h1 : ¬ st.1 < n) : rdR f n = st.2 := by unfold rdR; rw [← h, decide_eq_false h1]; rfl
