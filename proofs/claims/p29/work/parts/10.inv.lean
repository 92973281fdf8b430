/-! WHAT STAYS TRUE -/
theorem i32_bd (x : Int32) : -2147483648 ≤ x.toInt ∧ x.toInt < 2147483648 := ⟨Int32.le_toInt x, Int32.toInt_lt x⟩
theorem i32_add {x y : Int32} {a b : Int} (hx : x.toInt = a) (hy : y.toInt = b) (h1 : -2147483648 ≤ a + b) (h2 : a + b < 2147483648) : (x + y).toInt = a + b := by
  rw [Int32.toInt_add, hx, hy]
  exact Int.bmod_eq_of_le (by omega) (by omega)
theorem i32_succ {x y : Int32} (h : x < y) : (x + 1).toInt = x.toInt + 1 := by
  have h1 := Int32.lt_iff_toInt_lt.mp h
  have h2 := i32_bd y
  have h3 := i32_bd x
  exact i32_add rfl (by decide) (by omega) (by omega)
theorem i32_next {x y : Int32} (h : x < y) (h2 : ¬ x + 1 = y) : x + 1 < y := by
  have h1 := Int32.lt_iff_toInt_lt.mp h
  have h3 := i32_succ h
  have h4 : ¬ (x + 1).toInt = y.toInt := fun e => h2 (Int32.toInt_inj.mp e)
  exact Int32.lt_iff_toInt_lt.mpr (by omega)
theorem i32_ge_eq {x y : Int32} (h : x < y) : y ≤ x + 1 ↔ x + 1 = y := by
  constructor
  · intro h2
    apply Classical.byContradiction
    intro h3
    exact Int32.not_le.mpr (i32_next h h3) h2
  · intro h2
    rw [h2]
    exact Int32.le_refl y
def JI (R : St) (j : Nat) : Prop := (R 10 j = 1 → ∃ r, r < 12 ∧ R 12 j = nI r) ∧ (¬ R 10 j = 1 → R 12 j = -1) ∧ 0 ≤ R 9 j ∧ (R 10 j = 0 ∨ R 10 j = 1 → R 11 j < R 8 j) ∧ (R 10 j = 0 ∨ R 10 j = 1 ∨ R 10 j = 2 ∨ R 10 j = 3)
def RI (R : St) (r : Nat) : Prop := (R 2 r = 0 ∨ R 2 r = 1) ∧ R 4 r ≤ 99
def DI (R : St) : Prop := ∀ r r' : Nat, r < 12 → r' < 12 → R 5 r = R 5 r' → ¬ R 5 r = -1 → r = r'
def Inv (R : St) (n : Nat) : Prop := n ≤ 12 ∧ R 14 10 = nI n ∧ (∀ j, j < n → JI R j) ∧ (∀ r, r < 12 → RI R r) ∧ DI R
theorem inv_num {R : St} {n k : Nat} {v : Int32} (hk : k ≠ 10) (h : Inv R n) : Inv (setS R 14 k v) n :=
  ⟨h.1, (setS_j R 14 v (Ne.symm hk)).trans h.2.1, h.2.2.1, h.2.2.2.1, h.2.2.2.2⟩
theorem inv_0 {R : St} {n r : Nat} {v : Int32} (h : Inv R n) : Inv (setS R 0 r v) n := h
theorem inv_1 {R : St} {n r : Nat} {v : Int32} (h : Inv R n) : Inv (setS R 1 r v) n := h
theorem inv_3 {R : St} {n r : Nat} {v : Int32} (h : Inv R n) : Inv (setS R 3 r v) n := h
theorem inv_13 {R : St} {n r : Nat} {v : Int32} (h : Inv R n) : Inv (setS R 13 r v) n := h
theorem inv_2 {R : St} {n r : Nat} {v : Int32} (hv : v = 0 ∨ v = 1) (h : Inv R n) : Inv (setS R 2 r v) n := by
  refine ⟨h.1, h.2.1, h.2.2.1, fun q hq => ⟨?_, (h.2.2.2.1 q hq).2⟩, h.2.2.2.2⟩
  by_cases e : q = r
  · subst e; rw [setS_eq]; exact hv
  · rw [setS_j R 2 v e]; exact (h.2.2.2.1 q hq).1
theorem inv_4 {R : St} {n r : Nat} {v : Int32} (hv : v ≤ 99) (h : Inv R n) : Inv (setS R 4 r v) n := by
  refine ⟨h.1, h.2.1, h.2.2.1, fun q hq => ⟨(h.2.2.2.1 q hq).1, ?_⟩, h.2.2.2.2⟩
  by_cases e : q = r
  · subst e; rw [setS_eq]; exact hv
  · rw [setS_j R 4 v e]; exact (h.2.2.2.1 q hq).2
theorem inv_5off {R : St} {n r : Nat} (h : Inv R n) : Inv (setS R 5 r (-1)) n := by
  refine ⟨h.1, h.2.1, h.2.2.1, h.2.2.2.1, fun q q' hq hq' he hn => ?_⟩
  rw [setS_at] at he hn
  rw [setS_at] at he
  by_cases e : q = r
  · subst e; simp at hn
  · by_cases e' : q' = r
    · subst e'; simp [e] at he hn; exact absurd he hn
    · simp [e, e'] at he hn; exact h.2.2.2.2 q q' hq hq' he hn
theorem inv_job {R R' : St} {n j : Nat} (h : Inv R n) (hj : JI R' j) (h1 : ∀ c i, i ≠ j → R' c i = R c i) (h2 : ∀ c, c < 6 → R' c j = R c j) (h3 : R' 14 10 = R 14 10) : Inv R' n := by
  refine ⟨h.1, h3.trans h.2.1, fun q hq => ?_, fun r hr => ?_, fun q q' hq hq' he hn => ?_⟩
  · by_cases e : q = j
    · subst e; exact hj
    · have := h.2.2.1 q hq
      unfold JI at this ⊢
      simp only [h1 _ q e]
      exact this
  · have := h.2.2.2.1 r hr
    unfold RI at this ⊢
    by_cases e : r = j
    · subst e; rw [h2 2 (by omega), h2 4 (by omega)]; exact this
    · rw [h1 2 r e, h1 4 r e]; exact this
  · have k : ∀ q, R' 5 q = R 5 q := fun q => by
      by_cases e : q = j
      · subst e; exact h2 5 (by omega)
      · exact h1 5 q e
    rw [k, k] at he
    rw [k] at hn
    exact h.2.2.2.2 q q' hq hq' he hn
theorem blk_c {R : St} {j r c i : Nat} (h4 : c ≠ 4) (h11 : c ≠ 11) (h14 : c ≠ 14) : blk R j r c i = R c i := by
  unfold blk
  split
  · rw [setS_c _ _ _ h11, setS_c _ _ _ h14]
  · split
    · rw [setS_c _ _ _ h11, setS_c _ _ _ h14]
    · rw [setS_c _ _ _ h11, setS_c _ _ _ h14, setS_c _ _ _ h4]
theorem blk_11 {R : St} {j r : Nat} : blk R j r 11 j = R 11 j + 1 := by
  unfold blk
  split
  · exact setS_eq _ _ _ _
  · split <;> exact setS_eq _ _ _ _
theorem blk_11n {R : St} {j r i : Nat} (h : i ≠ j) : blk R j r 11 i = R 11 i := by
  unfold blk
  split
  · rw [setS_j _ _ _ h]; rfl
  · split <;> (rw [setS_j _ _ _ h]; rfl)
theorem blk_num {R : St} {j r : Nat} : blk R j r 14 10 = R 14 10 := by
  unfold blk
  split
  · rfl
  · split <;> rfl
/-- a block done by a job that runs, seen as a change of its row of numbers alone -/
theorem inv_blk {R : St} {n j r : Nat} (h : Inv R n) (hj : j < n) (h10 : R 10 j = 1) (hn : ¬ R 11 j + 1 = R 8 j) (hr : r < 12) : Inv (blk R j r) n := by
  obtain ⟨a1, a2, a3, a4, a5⟩ := h.2.2.1 j hj
  have key : ∀ Q : St, Inv Q n → (∀ c i, c ≠ 4 → c ≠ 14 → Q c i = R c i) → Inv (setS Q 11 j (R 11 j + 1)) n := by
    intro Q hQ e
    refine inv_job hQ ?_ (fun c i hi => setS_at Q 11 j _ c i ▸ by simp [hi]) (fun c hc => setS_c Q j _ (by omega) j) rfl
    refine ⟨?_, ?_, ?_, ?_, ?_⟩
    · show Q 10 j = 1 → ∃ r, r < 12 ∧ Q 12 j = nI r
      rw [e 10 j (by omega) (by omega), e 12 j (by omega) (by omega)]; exact a1
    · show ¬ Q 10 j = 1 → Q 12 j = -1
      rw [e 10 j (by omega) (by omega), e 12 j (by omega) (by omega)]; exact a2
    · show 0 ≤ Q 9 j
      rw [e 9 j (by omega) (by omega)]; exact a3
    · intro _
      rw [setS_eq]
      show R 11 j + 1 < Q 8 j
      rw [e 8 j (by omega) (by omega)]
      exact i32_next (a4 (Or.inr h10)) hn
    · show Q 10 j = 0 ∨ Q 10 j = 1 ∨ Q 10 j = 2 ∨ Q 10 j = 3
      rw [e 10 j (by omega) (by omega)]; exact a5
  unfold blk
  split
  · exact key _ (inv_num (by decide) h) (fun c i _ h14 => setS_c R _ _ h14 i)
  · split
    · exact key _ (inv_num (by decide) h) (fun c i _ h14 => setS_c R _ _ h14 i)
    · rename_i q1 q2
      have h99 : R 4 r + 1 ≤ 99 := by
        have q3 : R 4 r < 99 := Int32.lt_of_le_of_ne ((h.2.2.2.1 r hr).2) q2
        have q4 := i32_succ q3
        have q5 := Int32.lt_iff_toInt_lt.mp q3
        exact Int32.le_iff_toInt_le.mpr (by rw [q4]; omega)
      exact key _ (inv_num (by decide) (inv_4 h99 h)) (fun c i h4 h14 => (setS_c _ _ _ h14 i).trans (setS_c R _ _ h4 i))
theorem rl_eq {R : St} {j r : Nat} (h : R 12 j = nI r) (hr : r < 12) : rl R j = r := by
  unfold rl; rw [h, nI_clamp (by omega)]
theorem stp_0 {R : St} {j : Nat} (h : ¬ R 10 j = 1) : stp R j = (R, 0) := by simp [stp, h]
theorem stp_1 {R : St} {j r : Nat} (h : R 10 j = 1) (hr : r < 12) (h2 : R 12 j = nI r) (h3 : ¬ R 11 j + 1 = R 8 j) : stp R j = (blk R j r, 0) := by simp [stp, h, h3, rl_eq h2 hr]
theorem stp_2 {R : St} {j r : Nat} (h : R 10 j = 1) (hr : r < 12) (h2 : R 12 j = nI r) (h3 : R 11 j + 1 = R 8 j) : stp R j = (toff (setS (blk R j r) 10 j 2) j r, 1) := by simp [stp, h, h3, rl_eq h2 hr]
/-- a job that ends: its number, its reel off -/
theorem inv_end {R Q : St} {n j r : Nat} {s : Int32} (h : Inv R n) (hj : j < n) (hs : s = 2 ∨ s = 3) (hQ : ∀ c i, c ≠ 4 → c ≠ 11 → c ≠ 14 → Q c i = R c i) (hQ4 : ∀ r, r < 12 → Q 4 r ≤ 99) (hQn : Q 14 10 = R 14 10) (hQ11 : ∀ i, i ≠ j → Q 11 i = R 11 i) : Inv (toff (setS Q 10 j s) j r) n := by
  unfold toff
  have e : ∀ c i, i ≠ j → c ≠ 4 → c ≠ 14 → c ≠ 5 → (setS (setS (setS Q 10 j s) 5 r (-1)) 12 j (-1)) c i = R c i := by
    intro c i hi h4 h14 h5
    rw [setS_at, setS_c _ _ _ h5, setS_at]
    simp only [hi, and_false, if_false]
    by_cases h11 : c = 11
    · subst h11; exact hQ11 i hi
    · exact hQ c i h4 h11 h14
  refine ⟨h.1, hQn.trans h.2.1, fun i hi => ?_, fun q hq => ⟨?_, hQ4 q hq⟩, ?_⟩
  · by_cases hij : i = j
    · subst hij
      refine ⟨fun z => ?_, fun _ => setS_eq _ _ _ _, ?_, fun z => ?_, ?_⟩
      · exfalso
        have z' : setS Q 10 i s 10 i = 1 := z
        rw [setS_eq] at z'
        rcases hs with rfl | rfl <;> exact absurd z' (by decide)
      · show 0 ≤ Q 9 i
        rw [hQ 9 i (by omega) (by omega) (by omega)]; exact (h.2.2.1 i hi).2.2.1
      · exfalso
        have z' : setS Q 10 i s 10 i = 0 ∨ setS Q 10 i s 10 i = 1 := z
        rw [setS_eq] at z'
        rcases hs with rfl | rfl <;> exact absurd z' (by decide)
      · show setS Q 10 i s 10 i = 0 ∨ setS Q 10 i s 10 i = 1 ∨ setS Q 10 i s 10 i = 2 ∨ setS Q 10 i s 10 i = 3
        rw [setS_eq]
        rcases hs with rfl | rfl <;> decide
    · have := h.2.2.1 i hi
      unfold JI at this ⊢
      rw [e 10 i hij (by omega) (by omega) (by omega), e 12 i hij (by omega) (by omega) (by omega), e 9 i hij (by omega) (by omega) (by omega), e 11 i hij (by omega) (by omega) (by omega), e 8 i hij (by omega) (by omega) (by omega)]
      exact this
  · show Q 2 q = 0 ∨ Q 2 q = 1
    rw [hQ 2 q (by omega) (by omega) (by omega)]; exact (h.2.2.2.1 q hq).1
  · intro q q' hq hq' he hn
    have k : ∀ i, (setS (setS (setS Q 10 j s) 5 r (-1)) 12 j (-1)) 5 i = if i = r then -1 else R 5 i := fun i => by
      show (setS (setS Q 10 j s) 5 r (-1)) 5 i = _
      rw [setS_at]
      by_cases z : i = r
      · simp [z]
      · simp only [z, and_false, if_false]
        exact hQ 5 i (by omega) (by omega) (by omega)
    rw [k, k] at he
    rw [k] at hn
    by_cases z : q = r
    · simp [z] at hn
    · by_cases z' : q' = r
      · simp [z, z'] at he hn; exact absurd he hn
      · simp [z, z'] at he hn; exact h.2.2.2.2 q q' hq hq' he hn
theorem blk_4 {R : St} {n j r : Nat} (h : Inv R n) (hr : r < 12) : ∀ q, q < 12 → blk R j r 4 q ≤ 99 := by
  intro q hq
  unfold blk
  split
  · exact (h.2.2.2.1 q hq).2
  · split
    · exact (h.2.2.2.1 q hq).2
    · rename_i q1 q2
      show setS R 4 r (R 4 r + 1) 4 q ≤ 99
      by_cases z : q = r
      · subst z
        rw [setS_eq]
        have q3 : R 4 q < 99 := Int32.lt_of_le_of_ne ((h.2.2.2.1 q hr).2) q2
        have q4 := i32_succ q3
        have q5 := Int32.lt_iff_toInt_lt.mp q3
        exact Int32.le_iff_toInt_le.mpr (by rw [q4]; omega)
      · rw [setS_j _ _ _ z]; exact (h.2.2.2.1 q hq).2
theorem inv_stp {R : St} {n j : Nat} (h : Inv R n) (hj : j < n) : Inv (stp R j).1 n := by
  by_cases h1 : R 10 j = 1
  · obtain ⟨r, hr, h2⟩ := (h.2.2.1 j hj).1 h1
    by_cases h3 : R 11 j + 1 = R 8 j
    · rw [stp_2 h1 hr h2 h3]
      exact inv_end h hj (Or.inl rfl) (fun c i a b d => blk_c a b d) (blk_4 h hr) blk_num (fun i hi => blk_11n hi)
    · rw [stp_1 h1 hr h2 h3]
      exact inv_blk h hj h1 h3 hr
  · rw [stp_0 h1]; exact h
theorem inv_jl {n : Nat} : ∀ (k j : Nat) (s : St × Int32), Inv s.1 n → j + k ≤ n → Inv (jl j k s).1 n
  | 0, _, _, h, _ => h
  | k + 1, j, s, h, hj => inv_jl k (j + 1) _ (inv_stp h (by omega)) (by omega)
theorem fnd_ne {R : St} {j : Nat} (h : ¬ fnd R j = -1) : ∃ r, r < 12 ∧ fnd R j = nI r ∧ onSh R r = true := by
  rcases fst_spec (fun r => onSh R r && decide (R 1 r = want R j)) 12 0 with ⟨h1, -⟩ | ⟨r, -, h2, h3, h4, -⟩
  · exact absurd h1 h
  · exact ⟨r, by omega, h3, by simp at h4; exact h4.1⟩
theorem aft_ok {R : St} {x : Int32} {q : Nat} (hq : q < 12) (h : onSh R q = true) : ∃ r, r < 12 ∧ aft R x = nI r ∧ onSh R r = true := by
  unfold aft
  split
  · rcases fst_spec (onSh R) 12 0 with ⟨-, h2⟩ | ⟨r, -, h2, h3, h4, -⟩
    · rw [h2 q (by omega) (by omega)] at h; cases h
    · exact ⟨r, by omega, h3, h4⟩
  · rename_i z
    rcases fst_spec (fun q => onSh R q && decide (x < nI q)) 12 0 with ⟨h1, -⟩ | ⟨r, -, h2, h3, h4, -⟩
    · exact absurd h1 z
    · exact ⟨r, by omega, h3, by simp at h4; exact h4.1⟩
theorem edr_ok {R : St} (h : ¬ edr R = -1) : ∃ d, d < 3 ∧ edr R = nI d ∧ onDr R (nI d) = -1 := by
  rcases fst_spec (fun d => decide (onDr R (nI d) = -1)) 3 0 with ⟨h1, -⟩ | ⟨r, -, h2, h3, h4, -⟩
  · exact absurd h1 h
  · exact ⟨r, by omega, h3, by simpa using h4⟩
theorem onDr_no {R : St} {x : Int32} (h : onDr R x = -1) : ∀ r, r < 12 → ¬ R 5 r = x := by
  intro r hr
  rcases lst_spec (fun r => decide (R 5 r = x)) 12 with ⟨-, h2⟩ | ⟨q, h1, h2, h3, -⟩
  · simpa using h2 r hr
  · have e : onDr R x = nI q := h2
    rw [e] at h
    exact absurd h (nI_ne (by omega))
theorem inv_mnt {R : St} {n j r d : Nat} (h : Inv R n) (hj : j < n) (hr : r < 12) (h10 : R 10 j = 0) (hd : d < 3) (he : onDr R (nI d) = -1) : Inv (mnt R j r (nI d)) n := by
  have key : Inv (setS (setS (setS R 5 r (nI d)) 10 j 1) 12 j (nI r)) n := by
    refine inv_job (R := setS R 5 r (nI d)) (j := j) ⟨h.1, h.2.1, h.2.2.1, h.2.2.2.1, ?_⟩ ?_ ?_ ?_ rfl
    · intro q q' hq hq' e hn
      rw [setS_at, setS_at] at e
      rw [setS_at] at hn
      by_cases z : q = r
      · by_cases z' : q' = r
        · rw [z, z']
        · simp [z, z'] at e; exact absurd e.symm (onDr_no he q' hq')
      · by_cases z' : q' = r
        · simp [z, z'] at e; exact absurd e (onDr_no he q hq)
        · simp [z, z'] at e hn; exact h.2.2.2.2 q q' hq hq' e hn
    · obtain ⟨a1, a2, a3, a4, a5⟩ := h.2.2.1 j hj
      have b10 : (setS (setS (setS R 5 r (nI d)) 10 j 1) 12 j (nI r)) 10 j = 1 := setS_eq (setS R 5 r (nI d)) 10 j 1
      refine ⟨fun _ => ⟨r, hr, setS_eq _ _ _ _⟩, fun z => absurd b10 z, a3, fun _ => a4 (Or.inl h10), Or.inr (Or.inl b10)⟩
    · intro c i hi
      rw [setS_at, setS_at]; simp [hi]
    · intro c hc
      rw [setS_c _ _ _ (by omega), setS_c _ _ _ (by omega)]
  unfold mnt
  split
  · exact inv_4 (by decide) (inv_3 (inv_1 (inv_0 key)))
  · exact key
theorem inv_sbk {R : St} {n j r : Nat} (h : Inv R n) : Inv (sbk R j r) n := inv_num (by decide) (inv_13 (inv_1 h))
theorem inv_srv2 {R : St} {n j r d : Nat} (h : Inv R n) (hj : j < n) (hr : r < 12) (h10 : R 10 j = 0) (hd : d < 3) (he : onDr R (nI d) = -1) : Inv (srv2 R j r (nI d)) n := by
  unfold srv2
  split
  · exact inv_mnt h hj hr h10 hd he
  · exact inv_sbk h
theorem inv_srv {R : St} {n j d : Nat} (h : Inv R n) (hj : j < n) (h10 : R 10 j = 0) (hf : ¬ fnd R j = -1) (hd : d < 3) (he : onDr R (nI d) = -1) : Inv (srv R j (nI d)) n := by
  obtain ⟨r, hr, e1, e2⟩ := fnd_ne hf
  obtain ⟨r2, hr2, e3, -⟩ := aft_ok (x := fnd R j) hr e2
  unfold srv
  split
  · rw [e3, nI_clamp (by omega)]
    exact inv_srv2 (inv_num (by decide) (inv_num (by decide) h)) hj hr2 h10 hd he
  · rw [e1, nI_clamp (by omega)]
    refine inv_srv2 (inv_2 ?_ (inv_num (by decide) h)) hj hr h10 hd he
    split
    · exact Or.inl rfl
    · exact Or.inr rfl
theorem nxt_ok {R : St} {n : Nat} (h : ¬ nxt R n = -1) : ∃ q, q < n ∧ nxt R n = nI q ∧ R 10 q = 0 ∧ ¬ fnd R q = -1 := by
  obtain ⟨q, -, h2, h3, h4⟩ := best_ne h
  simp [elig] at h4
  exact ⟨q, by omega, h3, h4.1, h4.2⟩
theorem sstep_0 {R : St} {n : Nat} (h : nxt R n = -1 ∨ edr R = -1) : sstep R n = R := by
  unfold sstep
  rw [if_neg]
  rintro ⟨a, b⟩
  exact h.elim a b
theorem sstep_1 {R : St} {n q : Nat} (h : ¬ nxt R n = -1) (h2 : ¬ edr R = -1) (hq : nxt R n = nI q) (hq2 : q < 12) : sstep R n = srv R q (edr R) := by
  unfold sstep
  rw [if_pos ⟨h, h2⟩, hq, nI_clamp (by omega)]
theorem inv_sstep {R : St} {n : Nat} (h : Inv R n) : Inv (sstep R n) n := by
  by_cases h1 : nxt R n = -1
  · rw [sstep_0 (Or.inl h1)]; exact h
  · by_cases h2 : edr R = -1
    · rw [sstep_0 (Or.inr h2)]; exact h
    · obtain ⟨q, hq, e1, e2, e3⟩ := nxt_ok h1
      obtain ⟨d, hd, e4, e5⟩ := edr_ok h2
      rw [sstep_1 h1 h2 e1 (by have := h.1; omega), e4]
      exact inv_srv h hq e2 e3 hd e5
theorem inv_minu {R : St} {n : Nat} (h : Inv R n) : Inv (minu R n).1 n := inv_num (by decide) (inv_sstep (inv_jl n 0 (R, 0) h (by omega)))
theorem inv_pas {n : Nat} : ∀ (k : Nat) (s : St × Int32), Inv s.1 n → Inv (pas n k s).1 n
  | 0, _, h => h
  | k + 1, s, h => inv_pas k _ (inv_minu h)
