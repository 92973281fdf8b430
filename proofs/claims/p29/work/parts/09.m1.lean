theorem best_spec (R : St) : ∀ (k j : Nat), best R j k = -1 ∨ ∃ q, j ≤ q ∧ q < j + k ∧ best R j k = nI q ∧ elig R q = true
  | 0, j => Or.inl rfl
  | k + 1, j => by
    by_cases h : elig R j = true ∧ (best R (j + 1) k = -1 ∨ R 9 (best R (j + 1) k).toNatClampNeg ≤ R 9 j)
    · exact Or.inr ⟨j, Nat.le_refl _, by omega, by simp [best, h], h.1⟩
    · have e : best R j (k + 1) = best R (j + 1) k := by simp only [best, if_neg h]
      rcases best_spec R k (j + 1) with h1 | ⟨q, h1, h2, h3, h4⟩
      · exact Or.inl (e.trans h1)
      · exact Or.inr ⟨q, by omega, by omega, e.trans h3, h4⟩
theorem best_ne {R : St} {j k : Nat} (h : ¬ best R j k = -1) : ∃ q, j ≤ q ∧ q < j + k ∧ best R j k = nI q ∧ elig R q = true := (best_spec R k j).resolve_left h
theorem best_t {R : St} {j k : Nat} (h : elig R j = true) (h2 : best R (j + 1) k = -1 ∨ R 9 (best R (j + 1) k).toNatClampNeg ≤ R 9 j) : nI j = best R j (k + 1) := by simp [best, h, h2]
theorem best_f {R : St} {j k : Nat} (h : elig R j = false) : best R (j + 1) k = best R j (k + 1) := by simp [best, h]
theorem best_g {R : St} {j k : Nat} (h : ¬ best R (j + 1) k = -1) (h2 : R 9 j < R 9 (best R (j + 1) k).toNatClampNeg) : best R (j + 1) k = best R j (k + 1) := by
  have h3 : ¬ (R 9 (best R (j + 1) k).toNatClampNeg ≤ R 9 j) := Int32.not_le.mpr h2
  simp [best, h, h3]
theorem elig_t {R : St} {j : Nat} (h : R 10 j = 0) (h2 : ¬ fnd R j = -1) : elig R j = true := by simp [elig, h, h2]
theorem elig_f {R : St} {j : Nat} (h : ¬ R 10 j = 0) : elig R j = false := by simp [elig, h]
theorem elig_g {R : St} {j : Nat} (h : fnd R j = -1) : elig R j = false := by simp [elig, h]

theorem lst_spec (p : Nat → Bool) : ∀ k, (lst_ p k = -1 ∧ ∀ j, j < k → p j = false) ∨ ∃ r, r < k ∧ lst_ p k = nI r ∧ p r = true ∧ ∀ j, r < j → j < k → p j = false
  | 0 => Or.inl ⟨rfl, fun j h => by omega⟩
  | k + 1 => by
    by_cases h : p k = true
    · exact Or.inr ⟨k, by omega, by simp [lst_, h], h, fun j h1 h2 => by omega⟩
    · have e : lst_ p (k + 1) = lst_ p k := by simp [lst_, h]
      have h' : p k = false := by simpa using h
      rcases lst_spec p k with ⟨h1, h2⟩ | ⟨r, h1, h2, h3, h4⟩
      · refine Or.inl ⟨e.trans h1, fun j hj => ?_⟩
        rcases Nat.lt_succ_iff_lt_or_eq.mp hj with q | rfl
        · exact h2 j q
        · exact h'
      · refine Or.inr ⟨r, by omega, e.trans h2, h3, fun j g1 g2 => ?_⟩
        rcases Nat.lt_succ_iff_lt_or_eq.mp g2 with q | rfl
        · exact h4 j g1 q
        · exact h'
