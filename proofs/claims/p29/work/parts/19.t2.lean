theorem rdJ_le {t : Nat → Nat} {L p : Nat} (hp : p ≤ L) : (rdJ t L p).2 ≤ L := by
  obtain ⟨p1, v, e1⟩ : ∃ p1 v, rdN t L 99 (L - p) p 0 = (p1, v) := ⟨_, _, rfl⟩
  obtain ⟨_, g1, _⟩ := rdN_ok t L 99 (L - p) p 0 (by omega) hp
  rw [e1] at g1; dsimp only at g1
  simp only [rdJ, e1]
  split
  · exact g1
  · split
    · exact g1
    · rename_i ha
      have ha := (at_s (by simpa using ha)).1
      obtain ⟨p2, m, e2⟩ : ∃ p2 m, rdN t L 20 (L - (p1 + 1)) (p1 + 1) 0 = (p2, m) := ⟨_, _, rfl⟩
      obtain ⟨_, g2, _⟩ := rdN_ok t L 20 (L - (p1 + 1)) (p1 + 1) 0 (by omega) (by omega)
      rw [e2] at g2; dsimp only at g2
      simp only [rdM, e2]
      split
      · exact g2
      · split
        · exact g2
        · rename_i hb
          have hb := (at_s (by simpa using hb)).1
          split
          · dsimp only; omega
          · rename_i hd
            have hd := (dgO_s (by simpa using hd)).1
            dsimp only; omega
theorem rdC_le {t : Nat → Nat} {L p : Nat} (hp : p ≤ L) : (rdC t L p).2 ≤ L := by
  unfold rdC
  split
  · exact hp
  · rename_i h
    split
    · exact rdJ_le (by omega)
    · split
      · have := rdN_ok t L 99 (L - (p + 1)) (p + 1) 0 (by omega) (by omega)
        split
        · exact this.2.1
        · exact this.2.1
      · split
        · dsimp only; omega
        · exact hp
theorem cmd_cases {t : Nat → Nat} {L p : Nat} (ht : ∀ q, q < L → t q < 1000) : (p < L ∧ t p = 114) ∨ (p < L ∧ t p = 119) ∨ (p < L ∧ t p = 99) ∨ (p < L ∧ t p = 116) ∨ (p < L ∧ t p = 100) ∨ ((¬ chC t L p = 114 ∧ ¬ chC t L p = 119 ∧ ¬ chC t L p = 99 ∧ ¬ chC t L p = 116 ∧ ¬ chC t L p = 100) ∧ rdC t L p = (none, p)) := by
  by_cases h : p < L
  · by_cases h1 : t p = 114
    · exact Or.inl ⟨h, h1⟩
    by_cases h2 : t p = 119
    · exact Or.inr (Or.inl ⟨h, h2⟩)
    by_cases h3 : t p = 99
    · exact Or.inr (Or.inr (Or.inl ⟨h, h3⟩))
    by_cases h4 : t p = 116
    · exact Or.inr (Or.inr (Or.inr (Or.inl ⟨h, h4⟩)))
    by_cases h5 : t p = 100
    · exact Or.inr (Or.inr (Or.inr (Or.inr (Or.inl ⟨h, h5⟩))))
    have hk : ∀ x : Nat, x < 1000 → ¬ t p = x → ¬ chC t L p = nI x := fun x hx hne e => hne (at_s ((chC_eq ht hx).mp e)).2
    exact Or.inr (Or.inr (Or.inr (Or.inr (Or.inr ⟨⟨hk 114 (by omega) h1, hk 119 (by omega) h2, hk 99 (by omega) h3, hk 116 (by omega) h4, hk 100 (by omega) h5⟩, by simp [rdC, h, isJ, h1, h2, h3, h4, h5]⟩))))
  · have hk : ∀ x : Nat, x < 1000 → ¬ chC t L p = nI x := fun x hx e => h (at_s ((chC_eq ht hx).mp e)).1
    exact Or.inr (Or.inr (Or.inr (Or.inr (Or.inr ⟨⟨hk 114 (by omega), hk 119 (by omega), hk 99 (by omega), hk 116 (by omega), hk 100 (by omega)⟩, by simp [rdC, h]⟩))))
theorem chC_is {t : Nat → Nat} {L p x : Nat} (h : p < L ∧ t p = x) : chC t L p = nI x := by rw [chC, if_pos h.1, h.2]
theorem rdC_job {t : Nat → Nat} {L p x : Nat} (h : p < L ∧ t p = x) (hx : isJ x = true) : rdC t L p = ((rdJ t L (p + 1)).1.map (fun z => (x, z)), (rdJ t L (p + 1)).2) := by
  unfold rdC; rw [if_neg (by omega), h.2, if_pos hx]
theorem rdC_t {t : Nat → Nat} {L p q v : Nat} (h : p < L ∧ t p = 116) (e : rdN t L 99 (L - (p + 1)) (p + 1) 0 = (q, v)) : rdC t L p = if v = 0 then (none, q) else (some (116, v, 0, 0), q) := by
  unfold rdC; rw [if_neg (by omega), h.2, if_neg (by decide), if_pos rfl, e]
theorem rdC_d {t : Nat → Nat} {L p : Nat} (h : p < L ∧ t p = 100) : rdC t L p = (some (100, 0, 0, 0), p + 1) := by
  unfold rdC; rw [if_neg (by omega), h.2, if_neg (by decide), if_neg (by decide), if_pos rfl]
theorem rdC_v {t : Nat → Nat} {L p : Nat} {c : Cmd} (h : (rdC t L p).1 = some c) : c.1 = 114 ∨ c.1 = 119 ∨ c.1 = 99 ∨ (c.1 = 116 ∧ c.2.2.1 = 0 ∧ c.2.2.2 = 0) ∨ c = (100, 0, 0, 0) := by
  unfold rdC at h
  split at h
  · cases h
  · split at h
    · rename_i hj
      obtain ⟨z, hz, rfl⟩ := Option.map_eq_some_iff.mp h
      simp [isJ] at hj
      dsimp only
      omega
    · split at h
      · split at h
        · cases h
        · cases h; exact Or.inr (Or.inr (Or.inr (Or.inl ⟨rfl, rfl, rfl⟩)))
      · split at h
        · cases h; exact Or.inr (Or.inr (Or.inr (Or.inr rfl)))
        · cases h
