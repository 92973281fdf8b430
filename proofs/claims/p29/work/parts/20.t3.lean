/-- what the reference sees at p -/
def sgC (t : Nat → Nat) (L p : Nat) : Int32 := if p < L then nI (t p) else 0
theorem sgC_is {t : Nat → Nat} {L p x : Nat} (h : p < L ∧ t p = x) : sgC t L p = nI x := by rw [sgC, if_pos h.1, h.2]
theorem sgC_eq {t : Nat → Nat} {L p x : Nat} (ht : ∀ q, q < L → t q < 1000) (hx : x < 1000) (h0 : 0 < x) : sgC t L p = nI x ↔ at_ t L p x = true := by
  unfold sgC at_
  by_cases h : p < L
  · have := ht p h
    rw [if_pos h, nI_eq (by omega) (by omega)]; simp [h]
  · rw [if_neg h]
    simp [h]
    exact fun e => by have := nI_inj (a := 0) (by omega) (by omega) e; omega
theorem inB_sg {t : Nat → Nat} {L p lo : Nat} (ht : ∀ q, q < L → t q < 1000) (h0 : 0 < lo) (h1 : lo < 1000) : inB (sgC t L p) (nI lo) 57 = true ↔ (p < L ∧ lo ≤ t p ∧ t p ≤ 57) := by
  rw [inB_iff]; unfold sgC
  by_cases h : p < L
  · have := ht p h
    rw [if_pos h, nI_leI (by omega) (by omega), show (57 : Int32) = nI 57 from rfl, nI_leI (by omega) (by omega)]
    simp [h]
  · rw [if_neg h]
    constructor
    · intro z
      have := (nI_leI (a := lo) (b := 0) (by omega) (by omega)).mp z.1
      omega
    · intro z; exact absurd z.1 h
theorem upd43 (V : Nat → Int32) (n p n' p' : Int32) : upd (upd (upd (upd V 4 n) 3 p) 4 n') 3 p' = upd (upd V 4 n') 3 p' := by
  funext j; simp only [upd]
  by_cases h3 : j = 3
  · simp [h3]
  · by_cases h4 : j = 4
    · simp [h4]
    · simp [h3, h4]
theorem upd40 {V : Nat → Int32} {p : Int32} (h : V 3 = p) (n : Int32) : upd V 4 n = upd (upd V 4 n) 3 p := by
  funext j; simp only [upd]
  by_cases h3 : j = 3
  · simp [h3, h]
  · simp [h3]

/-- what stays when a command is read -/
def kpV (V V' : Nat → Int32) : Prop := V' 0 = V 0 ∧ V' 1 = V 1 ∧ V' 2 = V 2
def kpF (F F' : Nat → Nat → Int32) : Prop := F' 0 = F 0 ∧ F' 1 = F 1 ∧ F' 2 = F 2
theorem kpF_set {F F' : Nat → Nat → Int32} {k j : Nat} {v : Int32} (h : kpF F F') (hk : 3 ≤ k) : kpF F (setS F' k j v) :=
  ⟨(funext fun i => setS_c F' j v (show (0 : Nat) ≠ k by omega) i).trans h.1, (funext fun i => setS_c F' j v (show (1 : Nat) ≠ k by omega) i).trans h.2.1, (funext fun i => setS_c F' j v (show (2 : Nat) ≠ k by omega) i).trans h.2.2⟩
theorem kpF_id (F : Nat → Nat → Int32) : kpF F F := ⟨rfl, rfl, rfl⟩
theorem setT (F : Nat → Nat → Int32) {k : Nat} (hk : 3 ≤ k) (j : Nat) (v : Int32) : setS F k j v 2 = F 2 := funext fun i => setS_c F j v (show (2 : Nat) ≠ k by omega) i

theorem inB_sgd {t : Nat → Nat} {L p : Nat} (ht : ∀ q, q < L → t q < 1000) : inB (sgC t L p) 48 57 = dgO t L p := by
  have h := inB_sg (p := p) (lo := 48) ht (by omega) (by omega)
  cases e : dgO t L p with
  | true => exact h.mpr (dgO_s e)
  | false =>
    cases e2 : inB (sgC t L p) 48 57 with
    | false => rfl
    | true =>
      obtain ⟨a1, a2, a3⟩ := h.mp e2
      rw [show dgO t L p = true by simp [dgO]; omega] at e; cases e
