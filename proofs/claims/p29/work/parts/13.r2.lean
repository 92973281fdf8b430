theorem setS_self {R : St} {c j : Nat} {v : Int32} (h : R c j = v) : setS R c j v = R := by
  funext a b
  rw [setS_at]
  by_cases z : a = c ∧ b = j
  · rw [if_pos z, z.1, z.2, h]
  · rw [if_neg z]
theorem isReel_n {r : Nat} (h : r < 12) : isReel (nI r) = true := by
  refine inB_iff.mpr ⟨nI_pos' (by omega), ?_⟩
  exact nI_le (a := r) (b := 11) (by omega) (by omega)
theorem isReel_m : isReel (-1) = false := by decide
/-- the next job, sought upwards -/
def bu (R : St) : Nat → Int32 × Int32
  | 0 => (-1, -1)
  | m + 1 => if R 10 m = 0 ∧ (bu R m).2 < R 9 m ∧ ¬ fnd R m = -1 then (nI m, R 9 m) else bu R m
theorem elig_iff {R : St} {j : Nat} : elig R j = true ↔ R 10 j = 0 ∧ ¬ fnd R j = -1 := by simp [elig]
theorem best_char (R : St) : ∀ (k j : Nat), j + k < 2 ^ 31 → (best R j k = -1 ∧ ∀ i, j ≤ i → i < j + k → ¬ elig R i = true) ∨ ∃ q, j ≤ q ∧ q < j + k ∧ best R j k = nI q ∧ elig R q = true ∧ ∀ i, j ≤ i → i < j + k → elig R i = true → R 9 i ≤ R 9 q ∧ (i < q → R 9 i < R 9 q)
  | 0, j, _ => Or.inl ⟨rfl, fun i h1 h2 => by omega⟩
  | k + 1, j, hk => by
    by_cases he : elig R j = true
    · rcases best_char R k (j + 1) (by omega) with ⟨h1, h2⟩ | ⟨q, h1, h2, h3, h4, h5⟩
      · refine Or.inr ⟨j, Nat.le_refl _, by omega, (best_t he (Or.inl h1)).symm, he, fun i g1 g2 g3 => ?_⟩
        rcases Nat.eq_or_lt_of_le g1 with rfl | g1
        · exact ⟨Int32.le_refl _, fun z => by omega⟩
        · exact absurd g3 (h2 i g1 (by omega))
      · by_cases hc : R 9 q ≤ R 9 j
        · refine Or.inr ⟨j, Nat.le_refl _, by omega, (best_t he (Or.inr (by rw [h3, nI_clamp (by omega)]; exact hc))).symm, he, fun i g1 g2 g3 => ?_⟩
          rcases Nat.eq_or_lt_of_le g1 with rfl | g1
          · exact ⟨Int32.le_refl _, fun z => by omega⟩
          · exact ⟨Int32.le_trans (h5 i g1 (by omega) g3).1 hc, fun z => by omega⟩
        · have hc' := Int32.not_le.mp hc
          refine Or.inr ⟨q, by omega, by omega, (best_g (by rw [h3]; exact nI_ne (by omega)) (by rw [h3, nI_clamp (by omega)]; exact hc')).symm.trans h3, h4, fun i g1 g2 g3 => ?_⟩
          rcases Nat.eq_or_lt_of_le g1 with rfl | g1
          · exact ⟨Int32.le_of_lt hc', fun _ => hc'⟩
          · exact h5 i g1 (by omega) g3
    · have he' : elig R j = false := by simpa using he
      rcases best_char R k (j + 1) (by omega) with ⟨h1, h2⟩ | ⟨q, h1, h2, h3, h4, h5⟩
      · refine Or.inl ⟨(best_f he').symm.trans h1, fun i g1 g2 => ?_⟩
        rcases Nat.eq_or_lt_of_le g1 with rfl | g1
        · exact he
        · exact h2 i g1 (by omega)
      · refine Or.inr ⟨q, by omega, by omega, (best_f he').symm.trans h3, h4, fun i g1 g2 g3 => ?_⟩
        rcases Nat.eq_or_lt_of_le g1 with rfl | g1
        · exact absurd g3 he
        · exact h5 i g1 (by omega) g3
theorem bu_char (R : St) : ∀ m : Nat, (∀ i, i < m → 0 ≤ R 9 i) → (bu R m = (-1, -1) ∧ ∀ i, i < m → ¬ elig R i = true) ∨ ∃ q, q < m ∧ bu R m = (nI q, R 9 q) ∧ elig R q = true ∧ ∀ i, i < m → elig R i = true → R 9 i ≤ R 9 q ∧ (i < q → R 9 i < R 9 q)
  | 0, _ => Or.inl ⟨rfl, fun i h => by omega⟩
  | m + 1, hp => by
    rcases bu_char R m (fun i h => hp i (by omega)) with ⟨h1, h2⟩ | ⟨q, h1, h2, h3, h4⟩
    · by_cases he : elig R m = true
      · obtain ⟨e1, e2⟩ := elig_iff.mp he
        have hlt : (bu R m).2 < R 9 m := by rw [h1]; exact Int32.lt_of_lt_of_le (by decide) (hp m (by omega))
        refine Or.inr ⟨m, by omega, by simp only [bu]; rw [if_pos ⟨e1, hlt, e2⟩], he, fun i g1 g2 => ?_⟩
        rcases Nat.lt_succ_iff_lt_or_eq.mp g1 with g | rfl
        · exact absurd g2 (h2 i g)
        · exact ⟨Int32.le_refl _, fun z => by omega⟩
      · refine Or.inl ⟨?_, fun i g1 => ?_⟩
        · simp only [bu]
          rw [if_neg (fun z => he (elig_iff.mpr ⟨z.1, z.2.2⟩))]
          exact h1
        · rcases Nat.lt_succ_iff_lt_or_eq.mp g1 with g | rfl
          · exact h2 i g
          · exact he
    · by_cases hc : R 10 m = 0 ∧ (bu R m).2 < R 9 m ∧ ¬ fnd R m = -1
      · have hlt : R 9 q < R 9 m := by have := hc.2.1; rw [h2] at this; exact this
        refine Or.inr ⟨m, by omega, by simp only [bu]; rw [if_pos hc], elig_iff.mpr ⟨hc.1, hc.2.2⟩, fun i g1 g2 => ?_⟩
        rcases Nat.lt_succ_iff_lt_or_eq.mp g1 with g | rfl
        · have := Int32.lt_of_le_of_lt (h4 i g g2).1 hlt
          exact ⟨Int32.le_of_lt this, fun _ => this⟩
        · exact ⟨Int32.le_refl _, fun z => by omega⟩
      · refine Or.inr ⟨q, by omega, by simp only [bu]; rw [if_neg hc]; exact h2, h3, fun i g1 g2 => ?_⟩
        rcases Nat.lt_succ_iff_lt_or_eq.mp g1 with g | rfl
        · exact h4 i g g2
        · obtain ⟨e1, e2⟩ := elig_iff.mp g2
          refine ⟨Int32.not_lt.mp (fun z => hc ⟨e1, by rw [h2]; exact z, e2⟩), fun z => by omega⟩
theorem bu_best {R : St} {n : Nat} (hp : ∀ i, i < n → 0 ≤ R 9 i) (hn : n ≤ 12) : (bu R n).1 = nxt R n := by
  rcases bu_char R n hp with ⟨h1, h2⟩ | ⟨q, h1, h2, h3, h4⟩ <;> rcases best_char R n 0 (by omega) with ⟨g1, g2⟩ | ⟨p, -, g1, g2, g3, g4⟩
  · rw [h1]; exact g1.symm
  · exact absurd g3 (h2 p (by omega))
  · exact absurd h3 (g2 q (by omega) (by omega))
  · rw [h2]
    refine Eq.trans ?_ g2.symm
    show nI q = nI p
    rcases Nat.lt_trichotomy q p with z | z | z
    · exact absurd ((g4 q (by omega) (by omega) h3).2 z) (Int32.not_lt.mpr (h4 p (by omega) g3).1)
    · rw [z]
    · exact absurd ((h4 p (by omega) g3).2 z) (Int32.not_lt.mpr (g4 q (by omega) (by omega) h3).1)
theorem bu_t {R : St} {m : Nat} (h1 : R 10 m = 0) (h2 : ¬ R 9 m ≤ (bu R m).2) (h3 : fnd R m = -1 → False) : bu R (m + 1) = (nI m, R 9 m) := by
  simp only [bu]; rw [if_pos ⟨h1, Int32.not_le.mp h2, h3⟩]
theorem bu_f {R : St} {m : Nat} (h : ¬ (R 10 m = 0 ∧ (bu R m).2 < R 9 m ∧ ¬ fnd R m = -1)) : bu R (m + 1) = bu R m := by
  simp only [bu]; rw [if_neg h]
/-- the minutes' number is apart from all else -/
theorem fnd_m {Q : St} {k : Nat} {v : Int32} {j : Nat} : fnd (setS Q 14 k v) j = fnd Q j := rfl
theorem best_m {Q : St} {k : Nat} {v : Int32} : ∀ (n j : Nat), best (setS Q 14 k v) j n = best Q j n
  | 0, _ => rfl
  | n + 1, j => by
    simp only [best, best_m n (j + 1)]
    rfl
theorem blk_m {Q : St} {v : Int32} {j r : Nat} : blk (setS Q 14 1 v) j r = setS (blk Q j r) 14 1 v := by
  unfold blk
  show (if Q 6 j = 0 then _ else if Q 4 r = 99 then _ else _) = _
  split
  · rw [setS_comm Q v _ (Or.inr (by decide)), setS_comm (setS Q 14 5 _) v _ (Or.inl (by decide))]
    rfl
  · split
    · rw [setS_comm Q _ _ (Or.inr (by decide)), setS_comm (setS Q 14 7 _) _ _ (Or.inl (by decide))]
      rfl
    · rw [setS_comm Q v _ (Or.inl (by decide)), setS_comm (setS Q 4 r _) v _ (Or.inr (by decide)), setS_comm (setS (setS Q 4 r _) 14 6 _) v _ (Or.inl (by decide))]
      rfl
theorem toff_m {Q : St} {v s : Int32} {j r : Nat} : toff (setS (setS Q 14 1 v) 10 j s) j r = setS (toff (setS Q 10 j s) j r) 14 1 v := by
  unfold toff
  rw [setS_comm Q v s (Or.inl (by decide)), setS_comm (setS Q 10 j s) v _ (Or.inl (by decide)), setS_comm (setS (setS Q 10 j s) 5 r _) v _ (Or.inl (by decide))]
theorem mnt_m {Q : St} {v d : Int32} {j r : Nat} : mnt (setS Q 14 1 v) j r d = setS (mnt Q j r d) 14 1 v := by
  unfold mnt
  have e : setS (setS (setS (setS Q 14 1 v) 5 r d) 10 j 1) 12 j (nI r) = setS (setS (setS (setS Q 5 r d) 10 j 1) 12 j (nI r)) 14 1 v := by
    rw [setS_comm Q v d (Or.inl (by decide)), setS_comm (setS Q 5 r d) v _ (Or.inl (by decide)), setS_comm (setS (setS Q 5 r d) 10 j 1) v _ (Or.inl (by decide))]
  show (if Q 6 j = 2 then _ else _) = _
  split
  · rw [e]
    generalize setS (setS (setS Q 5 r d) 10 j 1) 12 j (nI r) = X
    rw [setS_comm X v _ (Or.inl (by decide)), setS_comm (setS X 0 r _) v _ (Or.inl (by decide)), setS_comm (setS (setS X 0 r _) 1 r _) v _ (Or.inl (by decide)), setS_comm (setS (setS (setS X 0 r _) 1 r _) 3 r _) v _ (Or.inl (by decide))]
    rfl
  · exact e
theorem sbk_m {Q : St} {v : Int32} {j r : Nat} : sbk (setS Q 14 1 v) j r = setS (sbk Q j r) 14 1 v := by
  unfold sbk
  rw [setS_comm Q v _ (Or.inl (by decide)), setS_comm (setS Q 1 r _) v _ (Or.inl (by decide)), setS_comm (setS (setS Q 1 r _) 13 j _) v _ (Or.inr (by decide))]
  rfl
theorem srv2_m {Q : St} {v d : Int32} {j r : Nat} : srv2 (setS Q 14 1 v) j r d = setS (srv2 Q j r d) 14 1 v := by
  unfold srv2
  show (if chk Q j r = 0 then _ else _) = _
  split
  · exact mnt_m
  · exact sbk_m
theorem srv_m {Q : St} {v d : Int32} {j : Nat} : srv (setS Q 14 1 v) j d = setS (srv Q j d) 14 1 v := by
  unfold srv
  show (if slp Q (Q 14 2 + 1) = true then srv2 (setS (setS (setS Q 14 1 v) 14 2 (Q 14 2 + 1)) 14 3 (Q 14 3 + 1)) j (aft Q (fnd Q j)).toNatClampNeg d else srv2 (setS (setS (setS Q 14 1 v) 14 2 (Q 14 2 + 1)) 2 (fnd Q j).toNatClampNeg (if Q 6 j = 0 then 0 else 1)) j (fnd Q j).toNatClampNeg d) = _
  split
  · rw [setS_comm Q v _ (Or.inr (by decide)), setS_comm (setS Q 14 2 _) v _ (Or.inr (by decide))]
    exact srv2_m
  · rw [setS_comm Q v _ (Or.inr (by decide)), setS_comm (setS Q 14 2 _) v _ (Or.inl (by decide))]
    exact srv2_m
theorem blk_1 {Q : St} {j r : Nat} : blk Q j r 14 1 = Q 14 1 := by
  unfold blk
  split
  · rfl
  · split <;> rfl
theorem stp_141 {Q : St} {j : Nat} : (stp Q j).1 14 1 = Q 14 1 := by
  unfold stp
  split
  · split
    · exact blk_1
    · exact blk_1
  · rfl
theorem jl_141 : ∀ (k j : Nat) (s : St × Int32), (jl j k s).1 14 1 = s.1 14 1
  | 0, _, _ => rfl
  | k + 1, j, s => by
    simp only [jl]
    rw [jl_141 k (j + 1)]
    exact stp_141
theorem srv2_141 {Q : St} {j r : Nat} {d : Int32} : srv2 Q j r d 14 1 = Q 14 1 := by
  unfold srv2
  split
  · unfold mnt
    split <;> rfl
  · rfl
theorem sstep_141 {Q : St} {n : Nat} : sstep Q n 14 1 = Q 14 1 := by
  unfold sstep
  split
  · unfold srv
    split <;> exact srv2_141
  · rfl
theorem minu_1 {R : St} {n : Nat} : (minu R n).1 = setS (sstep (jl 0 n (R, 0)).1 n) 14 1 (R 14 1 + 1) := by
  show setS (sstep (jl 0 n (R, 0)).1 n) 14 1 (sstep (jl 0 n (R, 0)).1 n 14 1 + 1) = _
  rw [sstep_141, jl_141]

set_option maxRecDepth 100000 in
set_option maxHeartbeats 4000000 in
theorem c_isSlip {g : zG} {a : Nat → Nat} {R : St} {x : Int32} : Gi g yX4_isSlip cX4_isSlip 2 .boolean 0 [.ref (a 0), .int x] (rW g.2 a R) (bI (slp R x)) (rW g.2 a R) := by
  refine fi_entry (by decide) (Nat.le_of_ble_eq_true rfl) (fun C hC hm hE => ?_)
  refine z_aln (pc := 0) hC 0 rfl dX4_isSlip_0 ?_
  refine z_get (pc := 1) hC fX4_29 0 rfl rfl dX4_isSlip_1 ?_
  refine z_ifeq (pc := 4) hC 20 (by decide) dX4_isSlip_4 (fun c4 => ?_) (fun c4 => ?_)
  · refine z_iconst (pc := 20) (v := 0) hC dX4_isSlip_20 (by decide) ?_
    exact hE _ _ _ () _ _ _ dX4_isSlip_21 rfl (bI_f (by first | (simp [slp, c4]; done) | (simp [slp, c13]; done))) rfl (Nat.le_refl _) (Nat.le_refl _)
  · refine z_iln (pc := 7) hC 1 rfl dX4_isSlip_7 ?_
    refine z_aln (pc := 8) hC 0 rfl dX4_isSlip_8 ?_
    refine z_get (pc := 9) hC fX4_29 0 rfl rfl dX4_isSlip_9 ?_
    refine z_irem (pc := 12) (v := x - x / (R 14 8) * (R 14 8)) hC c4 rfl dX4_isSlip_12 ?_
    refine z_ifne (pc := 13) hC 20 (by decide) dX4_isSlip_13 (fun c13 => ?_) (fun c13 => ?_)
    · refine z_iconst (pc := 20) (v := 0) hC dX4_isSlip_20 (by decide) ?_
      exact hE _ _ _ () _ _ _ dX4_isSlip_21 rfl (bI_f (by first | (simp [slp, c4]; done) | (simp [slp, c13]; done))) rfl (Nat.le_refl _) (Nat.le_refl _)
    · refine z_iconst (pc := 16) (v := 1) hC dX4_isSlip_16 (by decide) ?_
      refine z_goto (pc := 17) hC 21 (by decide) dX4_isSlip_17 ?_
      exact hE _ _ _ () _ _ _ dX4_isSlip_21 rfl (bI_t (by simp [slp, c4, c13])) rfl (Nat.le_refl _) (Nat.le_refl _)

set_option maxRecDepth 100000 in
set_option maxHeartbeats 4000000 in
theorem c_hasNextDay {g : zG} {a : Nat → Nat} {R : St} : Gi g yX4_hasNextDay cX4_hasNextDay 1 .boolean 0 [.ref (a 0)] (rW g.2 a R) (bI (decide (R 14 0 < 999))) (rW g.2 a R) := by
  refine fi_entry (by decide) (Nat.le_of_ble_eq_true rfl) (fun C hC hm hE => ?_)
  refine z_aln (pc := 0) hC 0 rfl dX4_hasNextDay_0 ?_
  refine z_get (pc := 1) hC fX4_25 0 rfl rfl dX4_hasNextDay_1 ?_
  refine z_sipush (pc := 4) (v := 999) hC dX4_hasNextDay_4 (by decide) ?_
  refine z_icge (pc := 7) hC 14 (by decide) dX4_hasNextDay_7 (fun c7 => ?_) (fun c7 => ?_)
  · refine z_iconst (pc := 14) (v := 0) hC dX4_hasNextDay_14 (by decide) ?_
    exact hE _ _ _ () _ _ _ dX4_hasNextDay_15 rfl (bI_f (by simpa using c7)) rfl (Nat.le_refl _) (Nat.le_refl _)
  · refine z_iconst (pc := 10) (v := 1) hC dX4_hasNextDay_10 (by decide) ?_
    refine z_goto (pc := 11) hC 15 (by decide) dX4_hasNextDay_11 ?_
    exact hE _ _ _ () _ _ _ dX4_hasNextDay_15 rfl (bI_t (by simpa using Int32.not_le.mp c7)) rfl (Nat.le_refl _) (Nat.le_refl _)

set_option maxRecDepth 100000 in
set_option maxHeartbeats 4000000 in
theorem c_lacksReel {g : zG} {a : Nat → Nat} {R : St} {j : Nat} (hj : j < 12) : Gi g yX4_lacksReel cX4_lacksReel 2 .boolean 1 [.ref (a 0), .int (nI j)] (rW g.2 a R) (bI (decide (fnd R j = -1))) (rW g.2 a R) := by
  refine fi_entry (by decide) (Nat.le_of_ble_eq_true rfl) (fun C hC hm hE => ?_)
  refine z_aln (pc := 0) hC 0 rfl dX4_lacksReel_0 ?_
  refine z_get (pc := 1) hC fX4_12 0 rfl rfl dX4_lacksReel_1 ?_
  refine z_aln (pc := 4) hC 0 rfl dX4_lacksReel_4 ?_
  refine z_get (pc := 5) hC fX4_21 0 rfl rfl dX4_lacksReel_5 ?_
  refine z_iln (pc := 8) hC 1 rfl dX4_lacksReel_8 ?_
  refine z_g (pc := 9) (rest := [.ref (a 1)]) hC vX2_wantedSticker lX4_121 dX4_lacksReel_9 (c_wantedSticker (j := j) hj) (fun w => w) isCtx_id rfl 2 2 rfl rfl rfl rfl rfl (by decide) (Nat.le_of_ble_eq_true rfl) ⟨Nat.le_refl _, Nat.le_refl _⟩ ?_
  refine z_g (pc := 12) (rest := []) hC vX3_findOnShelf lX4_125 dX4_lacksReel_12 (c_findOnShelf (x := want R j)) (fun w => w) isCtx_id rfl 1 3 rfl rfl rfl rfl rfl (by decide) (Nat.le_of_ble_eq_true rfl) ⟨Nat.le_refl _, Nat.le_refl _⟩ ?_
  refine z_iconst (pc := 15) (v := -1) hC dX4_lacksReel_15 (by decide) ?_
  refine z_icne (pc := 16) hC 23 (by decide) dX4_lacksReel_16 (fun c16 => ?_) (fun c16 => ?_)
  · refine z_iconst (pc := 23) (v := 0) hC dX4_lacksReel_23 (by decide) ?_
    exact hE _ _ _ () _ _ _ dX4_lacksReel_24 rfl (bI_f (decide_eq_false c16)) rfl (Nat.le_refl _) (Nat.le_refl _)
  · refine z_iconst (pc := 19) (v := 1) hC dX4_lacksReel_19 (by decide) ?_
    refine z_goto (pc := 20) hC 24 (by decide) dX4_lacksReel_20 ?_
    exact hE _ _ _ () _ _ _ dX4_lacksReel_24 rfl (bI_t (decide_eq_true c16)) rfl (Nat.le_refl _) (Nat.le_refl _)

set_option maxRecDepth 100000 in
set_option maxHeartbeats 4000000 in
theorem c_findNextJob {g : zG} {a : Nat → Nat} {R : St} {n : Nat} (hn : R 14 10 = nI n) (hn2 : n ≤ 12) (hp : ∀ i, i < n → 0 ≤ R 9 i) : Gi g yX4_findNextJob cX4_findNextJob 4 .int 2 [.ref (a 0)] (rW g.2 a R) (nxt R n) (rW g.2 a R) := by
  refine fi_entry (by decide) (Nat.le_of_ble_eq_true rfl) (fun C hC hm hE => ?_)
  have loop : ∀ k m : Nat, m + k = n → Z g C 0 0 (rW g.2 a R) [(3, .int (nI m)), (2, .int (bu R m).2), (1, .int (bu R m).1), (0, .ref (a 0))] 6 [] := by
    intro k
    induction k with
    | zero =>
      intro m hm2
      refine z_iln (pc := 6) hC 0 rfl dX4_findNextJob_6 ?_
      refine z_aln (pc := 7) hC 3 rfl dX4_findNextJob_7 ?_
      refine z_get (pc := 8) hC fX4_21 0 rfl rfl dX4_findNextJob_8 ?_
      refine z_get (pc := 11) hC fX4_92 2 rfl rfl dX4_findNextJob_11 ?_
      refine z_is_ (y := nI n) hn ?_
      refine z_icge (pc := 14) hC 68 (by decide) dX4_findNextJob_14 (fun c14 => ?_) (fun c14 => absurd (nI_le (by omega) (by omega)) c14)
      refine z_iln (pc := 68) hC 2 rfl dX4_findNextJob_68 ?_
      exact hE _ _ _ () _ _ _ dX4_findNextJob_69 rfl (by rw [show m = n by omega]; exact bu_best hp hn2) rfl (Nat.le_refl _) (Nat.le_refl _)
    | succ k ih =>
      intro m hm2
      refine z_iln (pc := 6) hC 0 rfl dX4_findNextJob_6 ?_
      refine z_aln (pc := 7) hC 3 rfl dX4_findNextJob_7 ?_
      refine z_get (pc := 8) hC fX4_21 0 rfl rfl dX4_findNextJob_8 ?_
      refine z_get (pc := 11) hC fX4_92 2 rfl rfl dX4_findNextJob_11 ?_
      refine z_is_ (y := nI n) hn ?_
      refine z_icge (pc := 14) hC 68 (by decide) dX4_findNextJob_14 (fun c14 => absurd c14 (nI_ge (by omega) (by omega))) (fun c14 => ?_)
      refine z_aln (pc := 17) hC 3 rfl dX4_findNextJob_17 ?_
      refine z_get (pc := 18) hC fX4_21 0 rfl rfl dX4_findNextJob_18 ?_
      refine z_get (pc := 21) hC fX4_85 2 rfl rfl dX4_findNextJob_21 ?_
      refine z_iln (pc := 24) hC 0 rfl dX4_findNextJob_24 ?_
      refine z_iald (pc := 25) hC 13 rfl dX4_findNextJob_25 m rfl (by omega) (by decide) ?_
      refine z_ifne (pc := 26) hC 62 (by decide) dX4_findNextJob_26 (fun c26 => ?_) (fun c26 => ?_)
      · refine z_iinc (pc := 62) (v := nI (m + 1)) (j := 0) (lv' := [(3, .int (nI (m + 1))), (2, .int (bu R m).2), (1, .int (bu R m).1), (0, .ref (a 0))]) hC hm (by decide) rfl (up_step m) rfl dX4_findNextJob_62 ?_
        refine z_goto (pc := 65) hC 6 (by decide) dX4_findNextJob_65 ?_
        have e := bu_f (R := R) (m := m) (by exact fun z => c26 z.1)
        rw [← e]
        refine z_lv [0, 1, 2, 3] rfl ?_
        exact ih (m + 1) (by omega)
      · refine z_aln (pc := 29) hC 3 rfl dX4_findNextJob_29 ?_
        refine z_get (pc := 30) hC fX4_21 0 rfl rfl dX4_findNextJob_30 ?_
        refine z_get (pc := 33) hC fX4_128 2 rfl rfl dX4_findNextJob_33 ?_
        refine z_iln (pc := 36) hC 0 rfl dX4_findNextJob_36 ?_
        refine z_iald (pc := 37) hC 12 rfl dX4_findNextJob_37 m rfl (by omega) (by decide) ?_
        refine z_iln (pc := 38) hC 1 rfl dX4_findNextJob_38 ?_
        refine z_icle (pc := 39) hC 62 (by decide) dX4_findNextJob_39 (fun c39 => ?_) (fun c39 => ?_)
        · refine z_iinc (pc := 62) (v := nI (m + 1)) (j := 0) (lv' := [(3, .int (nI (m + 1))), (2, .int (bu R m).2), (1, .int (bu R m).1), (0, .ref (a 0))]) hC hm (by decide) rfl (up_step m) rfl dX4_findNextJob_62 ?_
          refine z_goto (pc := 65) hC 6 (by decide) dX4_findNextJob_65 ?_
          have e := bu_f (R := R) (m := m) (by exact fun z => Int32.not_lt.mpr c39 z.2.1)
          rw [← e]
          refine z_lv [0, 1, 2, 3] rfl ?_
          exact ih (m + 1) (by omega)
        · refine z_aln (pc := 42) hC 3 rfl dX4_findNextJob_42 ?_
          refine z_iln (pc := 43) hC 0 rfl dX4_findNextJob_43 ?_
          refine z_g (pc := 44) (rest := []) hC vX4_lacksReel lX4_131 dX4_findNextJob_44 (c_lacksReel (j := m) (by omega)) (fun w => w) isCtx_id rfl 0 4 rfl rfl rfl rfl rfl (by decide) (Nat.le_of_ble_eq_true rfl) ⟨Nat.le_refl _, Nat.le_refl _⟩ ?_
          refine z_ifne (pc := 47) hC 62 (by decide) dX4_findNextJob_47 (fun c47 => ?_) (fun c47 => ?_)
          · refine z_iinc (pc := 62) (v := nI (m + 1)) (j := 0) (lv' := [(3, .int (nI (m + 1))), (2, .int (bu R m).2), (1, .int (bu R m).1), (0, .ref (a 0))]) hC hm (by decide) rfl (up_step m) rfl dX4_findNextJob_62 ?_
            refine z_goto (pc := 65) hC 6 (by decide) dX4_findNextJob_65 ?_
            have e := bu_f (R := R) (m := m) (by exact fun z => c47 (by simp [z.2.2, bI]))
            rw [← e]
            refine z_lv [0, 1, 2, 3] rfl ?_
            exact ih (m + 1) (by omega)
          · refine z_iln (pc := 50) hC 0 rfl dX4_findNextJob_50 ?_
            refine z_isn (pc := 51) (lv' := [(1, .int (nI m)), (3, .int (nI m)), (2, .int (bu R m).2), (0, .ref (a 0))]) hC hm (by decide) rfl dX4_findNextJob_51 ?_
            refine z_aln (pc := 52) hC 3 rfl dX4_findNextJob_52 ?_
            refine z_get (pc := 53) hC fX4_21 0 rfl rfl dX4_findNextJob_53 ?_
            refine z_get (pc := 56) hC fX4_128 2 rfl rfl dX4_findNextJob_56 ?_
            refine z_iln (pc := 59) hC 1 rfl dX4_findNextJob_59 ?_
            refine z_iald (pc := 60) hC 12 rfl dX4_findNextJob_60 m rfl (by omega) (by decide) ?_
            refine z_isn (pc := 61) (lv' := [(2, .int (R 9 m)), (1, .int (nI m)), (3, .int (nI m)), (0, .ref (a 0))]) hC hm (by decide) rfl dX4_findNextJob_61 ?_
            refine z_iinc (pc := 62) (v := nI (m + 1)) (j := 2) (lv' := [(3, .int (nI (m + 1))), (2, .int (R 9 m)), (1, .int (nI m)), (0, .ref (a 0))]) hC hm (by decide) rfl (up_step m) rfl dX4_findNextJob_62 ?_
            refine z_goto (pc := 65) hC 6 (by decide) dX4_findNextJob_65 ?_
            have e := bu_t c26 c39 (fun z => by simp [z, bI] at c47)
            rw [show nI m = (bu R (m + 1)).1 by rw [e], show R 9 m = (bu R (m + 1)).2 by rw [e]]
            refine z_lv [0, 1, 2, 3] rfl ?_
            exact ih (m + 1) (by omega)
  refine z_iconst (pc := 0) (v := -1) hC dX4_findNextJob_0 (by decide) ?_
  refine z_isn (pc := 1) (lv' := [(1, .int (-1)), (0, .ref (a 0))]) hC hm (by decide) rfl dX4_findNextJob_1 ?_
  refine z_iconst (pc := 2) (v := -1) hC dX4_findNextJob_2 (by decide) ?_
  refine z_isn (pc := 3) (lv' := [(2, .int (-1)), (1, .int (-1)), (0, .ref (a 0))]) hC hm (by decide) rfl dX4_findNextJob_3 ?_
  refine z_iconst (pc := 4) (v := nI 0) hC dX4_findNextJob_4 (by decide) ?_
  refine z_isn (pc := 5) (lv' := [(3, .int (nI 0)), (2, .int (-1)), (1, .int (-1)), (0, .ref (a 0))]) hC hm (by decide) rfl dX4_findNextJob_5 ?_
  refine z_lv [0, 1, 2, 3] rfl ?_
  exact loop n 0 (by omega)

def chs (R : St) (j : Nat) (s : Bool) : Int32 := if s = true ∧ ¬ fnd R j = -1 then aft R (fnd R j) else fnd R j

set_option maxRecDepth 100000 in
set_option maxHeartbeats 4000000 in
theorem c_chooseReel {g : zG} {a : Nat → Nat} {R : St} {j : Nat} (hj : j < 12) {s : Bool} : Gi g yX4_chooseReel cX4_chooseReel 4 .int 1 [.ref (a 0), .int (nI j), .int (bI s)] (rW g.2 a R) (chs R j s) (rW g.2 a R) := by
  refine fi_entry (by decide) (Nat.le_of_ble_eq_true rfl) (fun C hC hm hE => ?_)
  refine z_aln (pc := 0) hC 0 rfl dX4_chooseReel_0 ?_
  refine z_get (pc := 1) hC fX4_12 0 rfl rfl dX4_chooseReel_1 ?_
  refine z_aln (pc := 4) hC 0 rfl dX4_chooseReel_4 ?_
  refine z_get (pc := 5) hC fX4_21 0 rfl rfl dX4_chooseReel_5 ?_
  refine z_iln (pc := 8) hC 1 rfl dX4_chooseReel_8 ?_
  refine z_g (pc := 9) (rest := [.ref (a 1)]) hC vX2_wantedSticker lX4_121 dX4_chooseReel_9 (c_wantedSticker (j := j) hj) (fun w => w) isCtx_id rfl 2 2 rfl rfl rfl rfl rfl (by decide) (Nat.le_of_ble_eq_true rfl) ⟨Nat.le_refl _, Nat.le_refl _⟩ ?_
  refine z_g (pc := 12) (rest := []) hC vX3_findOnShelf lX4_125 dX4_chooseReel_12 (c_findOnShelf (x := want R j)) (fun w => w) isCtx_id rfl 1 3 rfl rfl rfl rfl rfl (by decide) (Nat.le_of_ble_eq_true rfl) ⟨Nat.le_refl _, Nat.le_refl _⟩ ?_
  refine z_is_ (y := fnd R j) rfl ?_
  refine z_isn (pc := 15) (lv' := [(3, .int (fnd R j)), (0, .ref (a 0)), (1, .int (nI j)), (2, .int (bI s))]) hC hm (by decide) rfl dX4_chooseReel_15 ?_
  refine z_iln (pc := 16) hC 3 rfl dX4_chooseReel_16 ?_
  refine z_ifeq (pc := 17) hC 36 (by decide) dX4_chooseReel_17 (fun c17 => ?_) (fun c17 => ?_)
  · refine z_iln (pc := 36) hC 0 rfl dX4_chooseReel_36 ?_
    exact hE _ _ _ () _ _ _ dX4_chooseReel_37 rfl (by simp [chs, bI_0.mp c17]) rfl (Nat.le_refl _) (Nat.le_refl _)
  · refine z_iln (pc := 20) hC 0 rfl dX4_chooseReel_20 ?_
    refine z_iconst (pc := 21) (v := -1) hC dX4_chooseReel_21 (by decide) ?_
    refine z_iceq (pc := 22) hC 36 (by decide) dX4_chooseReel_22 (fun c22 => ?_) (fun c22 => ?_)
    · refine z_iln (pc := 36) hC 0 rfl dX4_chooseReel_36 ?_
      exact hE _ _ _ () _ _ _ dX4_chooseReel_37 rfl (by simp [chs, bI_n.mp c17, c22]) rfl (Nat.le_refl _) (Nat.le_refl _)
    · refine z_aln (pc := 25) hC 1 rfl dX4_chooseReel_25 ?_
      refine z_get (pc := 26) hC fX4_12 0 rfl rfl dX4_chooseReel_26 ?_
      refine z_iln (pc := 29) hC 0 rfl dX4_chooseReel_29 ?_
      refine z_g (pc := 30) (rest := []) hC vX3_findNextOnShelf lX4_134 dX4_chooseReel_30 (c_findNextOnShelf (x := fnd R j)) (fun w => w) isCtx_id rfl 1 3 rfl rfl rfl rfl rfl (by decide) (Nat.le_of_ble_eq_true rfl) ⟨Nat.le_refl _, Nat.le_refl _⟩ ?_
      refine z_goto (pc := 33) hC 37 (by decide) dX4_chooseReel_33 ?_
      exact hE _ _ _ () _ _ _ dX4_chooseReel_37 rfl (by simp [chs, bI_n.mp c17, c22]) rfl (Nat.le_refl _) (Nat.le_refl _)

theorem kept_ab (R : St) (n : Nat) (v : Int32) : kept R n v = (keptA R v 12 || keptB R v n) := rfl

set_option maxRecDepth 100000 in
set_option maxHeartbeats 4000000 in
theorem c_takesJob {g : zG} {a : Nat → Nat} {R : St} {n : Nat} (hn : R 14 10 = nI n) (hn2 : n ≤ 12) {x v : Int32} : Gi g yX4_takesJob cX4_takesJob 3 .boolean 2 [.ref (a 0), .int x, .int v] (rW g.2 a R) (bI (canS R n x v)) (rW g.2 a R) := by
  refine fi_entry (by decide) (Nat.le_of_ble_eq_true rfl) (fun C hC hm hE => ?_)
  refine z_aln (pc := 0) hC 0 rfl dX4_takesJob_0 ?_
  refine z_get (pc := 1) hC fX4_21 0 rfl rfl dX4_takesJob_1 ?_
  refine z_g (pc := 4) (rest := []) hC vX2_isFull lX4_63 dX4_takesJob_4 (c_isFull hn hn2) (fun w => w) isCtx_id rfl 2 2 rfl rfl rfl rfl rfl (by decide) (Nat.le_of_ble_eq_true rfl) ⟨Nat.le_refl _, Nat.le_refl _⟩ ?_
  refine z_ifeq (pc := 7) hC 12 (by decide) dX4_takesJob_7 (fun c7 => ?_) (fun c7 => ?_)
  · refine z_iln (pc := 12) hC 1 rfl dX4_takesJob_12 ?_
    refine z_iconst (pc := 13) (v := 2) hC dX4_takesJob_13 (by decide) ?_
    refine z_icne (pc := 14) hC 43 (by decide) dX4_takesJob_14 (fun c14 => ?_) (fun c14 => ?_)
    · refine z_iconst (pc := 43) (v := 1) hC dX4_takesJob_43 (by decide) ?_
      refine z_goto (pc := 44) hC 48 (by decide) dX4_takesJob_44 ?_
      exact hE _ _ _ () _ _ _ dX4_takesJob_48 rfl (bI_is (Or.inl ⟨by simp [canS, kept_ab, show n < 12 by simpa using bI_0.mp c7, c14], rfl⟩)) rfl (Nat.le_refl _) (Nat.le_refl _)
    · refine z_aln (pc := 17) hC 0 rfl dX4_takesJob_17 ?_
      refine z_get (pc := 18) hC fX4_12 0 rfl rfl dX4_takesJob_18 ?_
      refine z_iln (pc := 21) hC 2 rfl dX4_takesJob_21 ?_
      refine z_aln (pc := 22) hC 0 rfl dX4_takesJob_22 ?_
      refine z_get (pc := 23) hC fX4_25 0 rfl rfl dX4_takesJob_23 ?_
      refine z_g (pc := 26) (rest := []) hC vX3_keepsLabel lX4_67 dX4_takesJob_26 (c_keepsLabel (v := v) (dy := R 14 0) rfl) (fun w => w) isCtx_id rfl 1 3 rfl rfl rfl rfl rfl (by decide) (Nat.le_of_ble_eq_true rfl) ⟨Nat.le_refl _, Nat.le_refl _⟩ ?_
      refine z_ifne (pc := 29) hC 47 (by decide) dX4_takesJob_29 (fun c29 => ?_) (fun c29 => ?_)
      · refine z_iconst (pc := 47) (v := 0) hC dX4_takesJob_47 (by decide) ?_
        exact hE _ _ _ () _ _ _ dX4_takesJob_48 rfl (bI_is (Or.inr ⟨by simp [canS, kept_ab, show n < 12 by simpa using bI_0.mp c7, c14, bI_n.mp c29], rfl⟩)) rfl (Nat.le_refl _) (Nat.le_refl _)
      · refine z_aln (pc := 32) hC 0 rfl dX4_takesJob_32 ?_
        refine z_get (pc := 33) hC fX4_21 0 rfl rfl dX4_takesJob_33 ?_
        refine z_iln (pc := 36) hC 2 rfl dX4_takesJob_36 ?_
        refine z_g (pc := 37) (rest := []) hC vX2_hasWaitingCreate lX4_71 dX4_takesJob_37 (c_hasWaitingCreate hn hn2 (v := v)) (fun w => w) isCtx_id rfl 2 2 rfl rfl rfl rfl rfl (by decide) (Nat.le_of_ble_eq_true rfl) ⟨Nat.le_refl _, Nat.le_refl _⟩ ?_
        refine z_ifne (pc := 40) hC 47 (by decide) dX4_takesJob_40 (fun c40 => ?_) (fun c40 => ?_)
        · refine z_iconst (pc := 47) (v := 0) hC dX4_takesJob_47 (by decide) ?_
          exact hE _ _ _ () _ _ _ dX4_takesJob_48 rfl (bI_is (Or.inr ⟨by simp [canS, kept_ab, show n < 12 by simpa using bI_0.mp c7, c14, bI_0.mp c29, bI_n.mp c40], rfl⟩)) rfl (Nat.le_refl _) (Nat.le_refl _)
        · refine z_iconst (pc := 43) (v := 1) hC dX4_takesJob_43 (by decide) ?_
          refine z_goto (pc := 44) hC 48 (by decide) dX4_takesJob_44 ?_
          exact hE _ _ _ () _ _ _ dX4_takesJob_48 rfl (bI_is (Or.inl ⟨by simp [canS, kept_ab, show n < 12 by simpa using bI_0.mp c7, c14, bI_0.mp c29, bI_0.mp c40], rfl⟩)) rfl (Nat.le_refl _) (Nat.le_refl _)
  · refine z_iconst (pc := 10) (v := 0) hC dX4_takesJob_10 (by decide) ?_
    exact hE _ _ _ () _ _ _ dX4_takesJob_11 rfl (bI_is (Or.inr ⟨by simp [canS, kept_ab, show ¬ n < 12 by simpa using bI_n.mp c7], rfl⟩)) rfl (Nat.le_refl _) (Nat.le_refl _)

set_option maxRecDepth 100000 in
set_option maxHeartbeats 4000000 in
theorem c_endJob {g : zG} {a : Nat → Nat} {R : St} {j r : Nat} (hj : j < 12) (hr : r < 12) (h : R 12 j = nI r) {s : Int32} : Gv g yX4_endJob cX4_endJob 4 2 [.ref (a 0), .int (nI j), .int s] (rW g.2 a R) (rW g.2 a (toff (setS R 10 j s) j r)) := by
  refine fv_entry (by decide) (Nat.le_of_ble_eq_true rfl) (fun C hC hm _ hE => ?_)
  refine z_aln (pc := 0) hC 0 rfl dX4_endJob_0 ?_
  refine z_get (pc := 1) hC fX4_21 0 rfl rfl dX4_endJob_1 ?_
  refine z_get (pc := 4) hC fX4_75 2 rfl rfl dX4_endJob_4 ?_
  refine z_iln (pc := 7) hC 1 rfl dX4_endJob_7 ?_
  refine z_iald (pc := 8) hC 15 rfl dX4_endJob_8 j rfl (by omega) (by decide) ?_
  refine z_is_ (y := nI r) h ?_
  refine z_isn (pc := 9) (lv' := [(3, .int (nI r)), (0, .ref (a 0)), (1, .int (nI j)), (2, .int s)]) hC hm (by decide) rfl dX4_endJob_9 ?_
  refine z_iln (pc := 10) hC 0 rfl dX4_endJob_10 ?_
  refine z_gsN (pc := 11) (rest := []) hC sX5_isReel nX4_79 dX4_endJob_11 (c_isReel (x := nI r)) rfl rfl (by decide) (Nat.le_of_ble_eq_true rfl) ⟨Nat.le_refl _, Nat.le_refl _⟩ ?_
  refine z_ifeq (pc := 14) hC 27 (by decide) dX4_endJob_14 (fun c14 => absurd c14 (bI_n.mpr (isReel_n hr))) (fun c14 => ?_)
  refine z_aln (pc := 17) hC 1 rfl dX4_endJob_17 ?_
  refine z_get (pc := 18) hC fX4_12 0 rfl rfl dX4_endJob_18 ?_
  refine z_get (pc := 21) hC fX4_82 1 rfl rfl dX4_endJob_21 ?_
  refine z_iln (pc := 24) hC 0 rfl dX4_endJob_24 ?_
  refine z_iconst (pc := 25) (v := -1) hC dX4_endJob_25 (by decide) ?_
  refine z_iast (pc := 26) (ws' := rW g.2 a (setS R 5 r (-1))) hC 8 rfl dX4_endJob_26 r rfl (by omega) (by decide) rW_5 ?_
  refine z_aln (pc := 27) hC 1 rfl dX4_endJob_27 ?_
  refine z_get (pc := 28) hC fX4_21 0 rfl rfl dX4_endJob_28 ?_
  refine z_get (pc := 31) hC fX4_75 2 rfl rfl dX4_endJob_31 ?_
  refine z_iln (pc := 34) hC 2 rfl dX4_endJob_34 ?_
  refine z_iconst (pc := 35) (v := -1) hC dX4_endJob_35 (by decide) ?_
  refine z_iast (pc := 36) (ws' := rW g.2 a (setS (setS R 5 r (-1)) 12 j (-1))) hC 15 rfl dX4_endJob_36 j rfl (by omega) (by decide) rW_12 ?_
  refine z_aln (pc := 37) hC 1 rfl dX4_endJob_37 ?_
  refine z_get (pc := 38) hC fX4_21 0 rfl rfl dX4_endJob_38 ?_
  refine z_get (pc := 41) hC fX4_85 2 rfl rfl dX4_endJob_41 ?_
  refine z_iln (pc := 44) hC 2 rfl dX4_endJob_44 ?_
  refine z_iln (pc := 45) hC 3 rfl dX4_endJob_45 ?_
  refine z_iast (pc := 46) (ws' := rW g.2 a (setS (setS (setS R 5 r (-1)) 12 j (-1)) 10 j s)) hC 13 rfl dX4_endJob_46 j rfl (by omega) (by decide) rW_10 ?_
  exact hE _ _ () _ _ _ dX4_endJob_47 trivial (by unfold toff; rw [setS_comm (setS R 5 r _) _ _ (Or.inl (by decide)), setS_comm R _ _ (Or.inl (by decide))]) (Nat.le_refl _) (Nat.le_refl _)

set_option maxRecDepth 100000 in
set_option maxHeartbeats 4000000 in
theorem c_endJob0 {g : zG} {a : Nat → Nat} {R : St} {j : Nat} (hj : j < 12) (h : R 12 j = -1) {s : Int32} : Gv g yX4_endJob cX4_endJob 4 2 [.ref (a 0), .int (nI j), .int s] (rW g.2 a R) (rW g.2 a (setS R 10 j s)) := by
  refine fv_entry (by decide) (Nat.le_of_ble_eq_true rfl) (fun C hC hm _ hE => ?_)
  refine z_aln (pc := 0) hC 0 rfl dX4_endJob_0 ?_
  refine z_get (pc := 1) hC fX4_21 0 rfl rfl dX4_endJob_1 ?_
  refine z_get (pc := 4) hC fX4_75 2 rfl rfl dX4_endJob_4 ?_
  refine z_iln (pc := 7) hC 1 rfl dX4_endJob_7 ?_
  refine z_iald (pc := 8) hC 15 rfl dX4_endJob_8 j rfl (by omega) (by decide) ?_
  refine z_is_ (y := -1) h ?_
  refine z_isn (pc := 9) (lv' := [(3, .int (-1)), (0, .ref (a 0)), (1, .int (nI j)), (2, .int s)]) hC hm (by decide) rfl dX4_endJob_9 ?_
  refine z_iln (pc := 10) hC 0 rfl dX4_endJob_10 ?_
  refine z_gsN (pc := 11) (rest := []) hC sX5_isReel nX4_79 dX4_endJob_11 (c_isReel (x := -1)) rfl rfl (by decide) (Nat.le_of_ble_eq_true rfl) ⟨Nat.le_refl _, Nat.le_refl _⟩ ?_
  refine z_ifeq (pc := 14) hC 27 (by decide) dX4_endJob_14 (fun c14 => ?_) (fun c14 => absurd (bI_n.mp c14) (by rw [isReel_m]; decide))
  refine z_aln (pc := 27) hC 1 rfl dX4_endJob_27 ?_
  refine z_get (pc := 28) hC fX4_21 0 rfl rfl dX4_endJob_28 ?_
  refine z_get (pc := 31) hC fX4_75 2 rfl rfl dX4_endJob_31 ?_
  refine z_iln (pc := 34) hC 2 rfl dX4_endJob_34 ?_
  refine z_iconst (pc := 35) (v := -1) hC dX4_endJob_35 (by decide) ?_
  refine z_iast (pc := 36) (ws' := rW g.2 a (setS R 12 j (-1))) hC 15 rfl dX4_endJob_36 j rfl (by omega) (by decide) rW_12 ?_
  refine z_aln (pc := 37) hC 1 rfl dX4_endJob_37 ?_
  refine z_get (pc := 38) hC fX4_21 0 rfl rfl dX4_endJob_38 ?_
  refine z_get (pc := 41) hC fX4_85 2 rfl rfl dX4_endJob_41 ?_
  refine z_iln (pc := 44) hC 2 rfl dX4_endJob_44 ?_
  refine z_iln (pc := 45) hC 3 rfl dX4_endJob_45 ?_
  refine z_iast (pc := 46) (ws' := rW g.2 a (setS (setS R 12 j (-1)) 10 j s)) hC 13 rfl dX4_endJob_46 j rfl (by omega) (by decide) rW_10 ?_
  exact hE _ _ () _ _ _ dX4_endJob_47 trivial (by rw [setS_self h]) (Nat.le_refl _) (Nat.le_refl _)

theorem ring_0 {x : Int32} (h : x = 0) : x = 0 := h
theorem ring_1 {x : Int32} (hg : x = 0 ∨ x = 1) (h : ¬ x = 0) : x = 1 := hg.resolve_left h

set_option maxRecDepth 100000 in
set_option maxHeartbeats 4000000 in
theorem c_check {g : zG} {a : Nat → Nat} {R : St} {j r : Nat} (hj : j < 12) (hr : r < 12) (hg : R 2 r = 0 ∨ R 2 r = 1) : Gi g yX4_check cX4_check 4 .int 2 [.ref (a 0), .int (nI j), .int (nI r)] (rW g.2 a R) (chk R j r) (rW g.2 a R) := by
  refine fi_entry (by decide) (Nat.le_of_ble_eq_true rfl) (fun C hC hm hE => ?_)
  refine z_aln (pc := 0) hC 0 rfl dX4_check_0 ?_
  refine z_get (pc := 1) hC fX4_21 0 rfl rfl dX4_check_1 ?_
  refine z_get (pc := 4) hC fX4_117 2 rfl rfl dX4_check_4 ?_
  refine z_iln (pc := 7) hC 1 rfl dX4_check_7 ?_
  refine z_iald (pc := 8) hC 9 rfl dX4_check_8 j rfl (by omega) (by decide) ?_
  refine z_isn (pc := 9) (lv' := [(3, .int (R 6 j)), (0, .ref (a 0)), (1, .int (nI j)), (2, .int (nI r))]) hC hm (by decide) rfl dX4_check_9 ?_
  refine z_iln (pc := 10) hC 0 rfl dX4_check_10 ?_
  refine z_iconst (pc := 11) (v := 2) hC dX4_check_11 (by decide) ?_
  refine z_iceq (pc := 12) hC 38 (by decide) dX4_check_12 (fun c12 => ?_) (fun c12 => ?_)
  · refine z_iln (pc := 38) hC 0 rfl dX4_check_38 ?_
    refine z_iconst (pc := 39) (v := 2) hC dX4_check_39 (by decide) ?_
    refine z_icne (pc := 40) hC 60 (by decide) dX4_check_40 (fun c40 => absurd c12 c40) (fun c40 => ?_)
    refine z_aln (pc := 43) hC 1 rfl dX4_check_43 ?_
    refine z_get (pc := 44) hC fX4_12 0 rfl rfl dX4_check_44 ?_
    refine z_iln (pc := 47) hC 3 rfl dX4_check_47 ?_
    refine z_aln (pc := 48) hC 1 rfl dX4_check_48 ?_
    refine z_get (pc := 49) hC fX4_25 0 rfl rfl dX4_check_49 ?_
    refine z_g (pc := 52) (rest := []) hC vX3_isScratch lX4_165 dX4_check_52 (c_isScratch (r := r) (dy := R 14 0) hr rfl) (fun w => w) isCtx_id rfl 1 3 rfl rfl rfl rfl rfl (by decide) (Nat.le_of_ble_eq_true rfl) ⟨Nat.le_refl _, Nat.le_refl _⟩ ?_
    refine z_ifne (pc := 55) hC 60 (by decide) dX4_check_55 (fun c55 => ?_) (fun c55 => ?_)
    · refine z_iln (pc := 60) hC 0 rfl dX4_check_60 ?_
      refine z_ifne (pc := 61) hC 78 (by decide) dX4_check_61 (fun c61 => ?_) (fun c61 => absurd (c61.symm.trans c40) (by decide))
      refine z_iln (pc := 78) hC 0 rfl dX4_check_78 ?_
      refine z_ifeq (pc := 79) hC 96 (by decide) dX4_check_79 (fun c79 => absurd c79 c61) (fun c79 => ?_)
      refine z_aln (pc := 82) hC 1 rfl dX4_check_82 ?_
      refine z_get (pc := 83) hC fX4_12 0 rfl rfl dX4_check_83 ?_
      refine z_get (pc := 86) hC fX4_144 1 rfl rfl dX4_check_86 ?_
      refine z_iln (pc := 89) hC 3 rfl dX4_check_89 ?_
      refine z_zald (pc := 90) hC 5 rfl dX4_check_90 r rfl (by omega) (by decide) ?_
      refine z_ifne (pc := 91) hC 96 (by decide) dX4_check_91 (fun c91 => ?_) (fun c91 => ?_)
      · refine z_iconst (pc := 96) (v := 0) hC dX4_check_96 (by decide) ?_
        exact hE _ _ _ () _ _ _ dX4_check_97 rfl (by simp [chk, c12, c40, bI_n.mp c55, c61, c79, ring_1 hg c91]) rfl (Nat.le_refl _) (Nat.le_refl _)
      · refine z_iconst (pc := 94) (v := 4) hC dX4_check_94 (by decide) ?_
        exact hE _ _ _ () _ _ _ dX4_check_95 rfl (by simp [chk, c12, c40, bI_n.mp c55, c61, c79, ring_0 c91]) rfl (Nat.le_refl _) (Nat.le_refl _)
    · refine z_iconst (pc := 58) (v := 2) hC dX4_check_58 (by decide) ?_
      exact hE _ _ _ () _ _ _ dX4_check_59 rfl (by simp [chk, c12, c40, bI_0.mp c55]) rfl (Nat.le_refl _) (Nat.le_refl _)
  · refine z_aln (pc := 15) hC 1 rfl dX4_check_15 ?_
    refine z_get (pc := 16) hC fX4_12 0 rfl rfl dX4_check_16 ?_
    refine z_get (pc := 19) hC fX4_159 1 rfl rfl dX4_check_19 ?_
    refine z_iln (pc := 22) hC 3 rfl dX4_check_22 ?_
    refine z_iald (pc := 23) hC 3 rfl dX4_check_23 r rfl (by omega) (by decide) ?_
    refine z_aln (pc := 24) hC 1 rfl dX4_check_24 ?_
    refine z_get (pc := 25) hC fX4_21 0 rfl rfl dX4_check_25 ?_
    refine z_get (pc := 28) hC fX4_162 2 rfl rfl dX4_check_28 ?_
    refine z_iln (pc := 31) hC 2 rfl dX4_check_31 ?_
    refine z_iald (pc := 32) hC 10 rfl dX4_check_32 j rfl (by omega) (by decide) ?_
    refine z_iceq (pc := 33) hC 38 (by decide) dX4_check_33 (fun c33 => ?_) (fun c33 => ?_)
    · refine z_iln (pc := 38) hC 0 rfl dX4_check_38 ?_
      refine z_iconst (pc := 39) (v := 2) hC dX4_check_39 (by decide) ?_
      refine z_icne (pc := 40) hC 60 (by decide) dX4_check_40 (fun c40 => ?_) (fun c40 => absurd c40 c12)
      refine z_iln (pc := 60) hC 0 rfl dX4_check_60 ?_
      refine z_ifne (pc := 61) hC 78 (by decide) dX4_check_61 (fun c61 => ?_) (fun c61 => ?_)
      · refine z_iln (pc := 78) hC 0 rfl dX4_check_78 ?_
        refine z_ifeq (pc := 79) hC 96 (by decide) dX4_check_79 (fun c79 => absurd c79 c61) (fun c79 => ?_)
        refine z_aln (pc := 82) hC 1 rfl dX4_check_82 ?_
        refine z_get (pc := 83) hC fX4_12 0 rfl rfl dX4_check_83 ?_
        refine z_get (pc := 86) hC fX4_144 1 rfl rfl dX4_check_86 ?_
        refine z_iln (pc := 89) hC 3 rfl dX4_check_89 ?_
        refine z_zald (pc := 90) hC 5 rfl dX4_check_90 r rfl (by omega) (by decide) ?_
        refine z_ifne (pc := 91) hC 96 (by decide) dX4_check_91 (fun c91 => ?_) (fun c91 => ?_)
        · refine z_iconst (pc := 96) (v := 0) hC dX4_check_96 (by decide) ?_
          exact hE _ _ _ () _ _ _ dX4_check_97 rfl (by simp [chk, c12, c33, c40, c61, c79, ring_1 hg c91]) rfl (Nat.le_refl _) (Nat.le_refl _)
        · refine z_iconst (pc := 94) (v := 4) hC dX4_check_94 (by decide) ?_
          exact hE _ _ _ () _ _ _ dX4_check_95 rfl (by simp [chk, c12, c33, c40, c61, c79, ring_0 c91]) rfl (Nat.le_refl _) (Nat.le_refl _)
      · refine z_aln (pc := 64) hC 1 rfl dX4_check_64 ?_
        refine z_get (pc := 65) hC fX4_12 0 rfl rfl dX4_check_65 ?_
        refine z_get (pc := 68) hC fX4_144 1 rfl rfl dX4_check_68 ?_
        refine z_iln (pc := 71) hC 3 rfl dX4_check_71 ?_
        refine z_zald (pc := 72) hC 5 rfl dX4_check_72 r rfl (by omega) (by decide) ?_
        refine z_ifeq (pc := 73) hC 78 (by decide) dX4_check_73 (fun c73 => ?_) (fun c73 => ?_)
        · refine z_iln (pc := 78) hC 0 rfl dX4_check_78 ?_
          refine z_ifeq (pc := 79) hC 96 (by decide) dX4_check_79 (fun c79 => ?_) (fun c79 => absurd c61 c79)
          refine z_iconst (pc := 96) (v := 0) hC dX4_check_96 (by decide) ?_
          exact hE _ _ _ () _ _ _ dX4_check_97 rfl (by simp [chk, c12, c33, c40, c61, ring_0 c73, c79]) rfl (Nat.le_refl _) (Nat.le_refl _)
        · refine z_iconst (pc := 76) (v := 3) hC dX4_check_76 (by decide) ?_
          exact hE _ _ _ () _ _ _ dX4_check_77 rfl (by simp [chk, c12, c33, c40, c61, ring_1 hg c73]) rfl (Nat.le_refl _) (Nat.le_refl _)
    · refine z_iconst (pc := 36) (v := 1) hC dX4_check_36 (by decide) ?_
      exact hE _ _ _ () _ _ _ dX4_check_37 rfl (by simp [chk, c12, c33]) rfl (Nat.le_refl _) (Nat.le_refl _)
