def kd (x : Nat) : Int32 := if x = 114 then 0 else if x = 119 then 1 else 2
/-- what a command leaves in the reader -/
def cfl (c : Cmd) (P : Nat → Int32) : Prop := P 2 = nI c.1 ∧ (c.1 = 116 → P 5 = nI c.2.1) ∧ (isJ c.1 = true → P 3 = kd c.1 ∧ P 4 = nI c.2.1 ∧ P 5 = nI c.2.2.1 ∧ P 6 = nI c.2.2.2)
theorem dgO_s {t : Nat → Nat} {L p : Nat} (h : dgO t L p = true) : p < L ∧ 48 ≤ t p ∧ t p ≤ 57 := by simpa [dgO] using h
theorem at_s {t : Nat → Nat} {L p x : Nat} (h : at_ t L p x = true) : p < L ∧ t p = x := by simpa [at_] using h
theorem nI_gt0 {n : Nat} (hn : n < 2 ^ 31) : nI n ≤ 0 ↔ n = 0 := by
  rw [show (nI n ≤ 0) = (nI n ≤ nI 0) from rfl, nI_leI hn (by omega)]; omega
