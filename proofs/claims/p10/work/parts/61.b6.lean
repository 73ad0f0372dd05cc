/-! methods on any state that keeps the invariant -/
theorem fo_char (u : Nat → Int32) : ∀ n : Nat, (foF u n = -1 ∧ ∀ k, k < n → u k = -1) ∨ (¬ foF u n = -1 ∧ (∃ k, k < n ∧ u k = foF u n) ∧ ∀ k, k < n → ¬ u k = -1 → foF u n ≤ u k) := by
  intro n
  induction n with
  | zero => exact Or.inl ⟨rfl, fun k hk => absurd hk (Nat.not_lt_zero k)⟩
  | succ n ih =>
    rw [fo_s]
    by_cases hv : u n = -1
    · rw [st_skip hv]
      rcases ih with ⟨a, b⟩ | ⟨a, ⟨k, hk, e⟩, c⟩
      · refine Or.inl ⟨a, fun k hk => ?_⟩
        by_cases q : k = n
        · rw [q]; exact hv
        · exact b k (by omega)
      · refine Or.inr ⟨a, ⟨k, by omega, e⟩, fun k2 hk2 h2 => ?_⟩
        by_cases q : k2 = n
        · rw [q] at h2; exact absurd hv h2
        · exact c k2 (by omega) h2
    · right
      rcases ih with ⟨a, b⟩ | ⟨a, ⟨k, hk, e⟩, c⟩
      · rw [st_first hv a]
        refine ⟨hv, ⟨n, by omega, rfl⟩, fun k2 hk2 h2 => ?_⟩
        by_cases q : k2 = n
        · rw [q]; exact Int32.le_refl _
        · exact absurd (b k2 (by omega)) h2
      · by_cases hl : u n < foF u n
        · rw [st_less hv hl]
          refine ⟨hv, ⟨n, by omega, rfl⟩, fun k2 hk2 h2 => ?_⟩
          by_cases q : k2 = n
          · rw [q]; exact Int32.le_refl _
          · exact Int32.le_trans (Int32.le_of_lt hl) (c k2 (by omega) h2)
        · rw [st_more hv a hl]
          refine ⟨a, ⟨k, by omega, e⟩, fun k2 hk2 h2 => ?_⟩
          by_cases q : k2 = n
          · rw [q]; exact Int32.not_lt.mp hl
          · exact c k2 (by omega) h2
theorem fo_rev {u v : Nat → Int32} (h : ∀ k, k < 25 → u k = v (24 - k)) : foF u 25 = foF v 25 := by
  have h' : ∀ k, k < 25 → v k = u (24 - k) := fun k hk => by rw [h (24 - k) (by omega), show 24 - (24 - k) = k by omega]
  rcases fo_char u 25 with ⟨a, b⟩ | ⟨a, ⟨k, hk, e⟩, c⟩
  · rcases fo_char v 25 with ⟨a2, b2⟩ | ⟨a2, ⟨k2, hk2, e2⟩, c2⟩
    · rw [a, a2]
    · exact absurd ((h' k2 hk2).trans (b _ (by omega))) (by rw [e2]; exact a2)
  · rcases fo_char v 25 with ⟨a2, b2⟩ | ⟨a2, ⟨k2, hk2, e2⟩, c2⟩
    · exact absurd ((h k hk).trans (b2 _ (by omega))) (by rw [e]; exact a)
    · apply Int32.le_antisymm
      · rw [← e2, h' k2 hk2]
        exact c _ (by omega) (by rw [← h' k2 hk2, e2]; exact a2)
      · rw [← e, h k hk]
        exact c2 _ (by omega) (by rw [← h k hk, e]; exact a)
/-- the fewest, by any shift -/
def uoF (pa pb : Int64) (sa sb : Int32) : Int32 := foF (fun n => ubF pa pb sa sb (dX n) (dY n)) 25
theorem uo_sym {pa pb : Int64} {sa sb : Int32} (ha : inR sa 0 4) (hb : inR sb 0 4) : uoF pa pb sa sb = uoF pb pa sb sa := fo_rev (fun _ hk => ub_rev hk ha hb)
