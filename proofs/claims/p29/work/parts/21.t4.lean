/-- how a command is kept in the reference's rows -/
def cmdAt (F : Nat → Nat → Int32) (k : Nat) (x : Cmd) : Prop := F 3 k = nI x.1 ∧ (¬ x.1 = 100 → F 4 k = nI x.2.1) ∧ (isJ x.1 = true → F 5 k = nI x.2.2.1 ∧ F 6 k = nI x.2.2.2)
theorem sg_cases {t : Nat → Nat} {L p : Nat} (ht : ∀ q, q < L → t q < 1000) : (p < L ∧ t p = 114) ∨ (p < L ∧ t p = 119) ∨ (p < L ∧ t p = 99) ∨ (p < L ∧ t p = 116) ∨ (p < L ∧ t p = 100) ∨ ((¬ sgC t L p = 114 ∧ ¬ sgC t L p = 119 ∧ ¬ sgC t L p = 99 ∧ ¬ sgC t L p = 116 ∧ ¬ sgC t L p = 100) ∧ rdC t L p = (none, p)) := by
  rcases cmd_cases (p := p) ht with h | h | h | h | h | h
  · exact Or.inl h
  · exact Or.inr (Or.inl h)
  · exact Or.inr (Or.inr (Or.inl h))
  · exact Or.inr (Or.inr (Or.inr (Or.inl h)))
  · exact Or.inr (Or.inr (Or.inr (Or.inr (Or.inl h))))
  · have hk : ∀ x : Nat, x < 1000 → 0 < x → ¬ chC t L p = nI x → ¬ sgC t L p = nI x := fun x hx h0 hne e => hne ((chC_eq ht hx).mpr ((sgC_eq ht hx h0).mp e))
    exact Or.inr (Or.inr (Or.inr (Or.inr (Or.inr ⟨⟨hk 114 (by omega) (by omega) h.1.1, hk 119 (by omega) (by omega) h.1.2.1, hk 99 (by omega) (by omega) h.1.2.2.1, hk 116 (by omega) (by omega) h.1.2.2.2.1, hk 100 (by omega) (by omega) h.1.2.2.2.2⟩, h.2⟩))))
theorem kpF_tr {F F' F'' : Nat → Nat → Int32} (h : kpF F F') (h2 : kpF F' F'') : kpF F F'' := ⟨h2.1.trans h.1, h2.2.1.trans h.2.1, h2.2.2.trans h.2.2⟩
theorem kpV_tr {F F' F'' : Nat → Int32} (h : kpV F F') (h2 : kpV F' F'') : kpV F F'' := ⟨h2.1.trans h.1, h2.2.1.trans h.2.1, h2.2.2.trans h.2.2⟩
