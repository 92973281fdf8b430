theorem cfl_job {c : Cmd} {P : Nat → Int32} (h : cfl c P) (he : c.1 = 114 ∨ c.1 = 119 ∨ c.1 = 99) : P 3 = kd c.1 ∧ P 4 = nI c.2.1 ∧ P 5 = nI c.2.2.1 ∧ P 6 = nI c.2.2.2 := h.2.2 (by simp [isJ]; omega)

theorem prs_le {t : Nat → Nat} {L : Nat} : ∀ (k p : Nat) {e : Nat}, p ≤ L → (prs t L k p).2 = some e → e ≤ L
  | 0, p, e, hp, h => by simp [prs] at h; omega
  | k + 1, p, e, hp, h => by
    have hle := rdC_le (t := t) hp
    rcases hc : rdC t L p with ⟨_ | x, q⟩
    · rw [hc] at hle; simp [prs, hc] at h; dsimp only at hle; omega
    · rw [hc] at hle; dsimp only at hle
      simp only [prs, hc] at h
      split at h
      · cases h
      · split at h
        · cases h; exact hle
        · exact prs_le k (q + 1) (by omega) h
