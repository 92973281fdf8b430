/-! KI stays; a minute counted first or last is the same -/
theorem ki_of {R R' : St} {n : Nat} (h : KI R n) (h6 : R' 6 = R 6) (h9 : R' 9 = R 9) (h5 : ∀ r, r < 12 → R' 5 r = R 5 r ∨ R' 5 r = -1 ∨ 0 ≤ R' 5 r) (h8 : R' 14 8 = R 14 8) : KI R' n := by
  refine ⟨fun j hj => by rw [h6, h9]; exact h.1 j hj, fun r hr => ?_, by rw [h8]; exact h.2.2⟩
  rcases h5 r hr with e | e
  · rw [e]; exact h.2.1 r hr
  · exact e
theorem ki_n {R : St} {n k : Nat} {x : Int32} (hk : k ≠ 8) (h : KI R n) : KI (setS R 14 k x) n := ki_of h rfl rfl (fun _ _ => Or.inl rfl) (setS_j R 14 x (Ne.symm hk))
theorem blk_6 {R : St} {j r : Nat} : blk R j r 6 = R 6 := by funext i; exact blk_c (by decide) (by decide) (by decide)
theorem blk_9 {R : St} {j r : Nat} : blk R j r 9 = R 9 := by funext i; exact blk_c (by decide) (by decide) (by decide)
theorem blk_5 {R : St} {j r i : Nat} : blk R j r 5 i = R 5 i := blk_c (by decide) (by decide) (by decide)
theorem blk_148 {R : St} {j r : Nat} : blk R j r 14 8 = R 14 8 := by
  unfold blk; split
  · rfl
  · split <;> rfl
theorem toff_5 {R : St} {j r i : Nat} : toff R j r 5 i = R 5 i ∨ toff R j r 5 i = -1 := by
  unfold toff
  rw [setS_c _ _ _ (by decide), setS_at]
  split
  · exact Or.inr rfl
  · exact Or.inl rfl
theorem ki_stp {R : St} {n j : Nat} (h : KI R n) : KI (stp R j).1 n := by
  unfold stp; split
  · split
    · refine ki_of h ?_ ?_ (fun r _ => ?_) ?_
      · show toff (setS (blk R j (rl R j)) 10 j 2) j (rl R j) 6 = R 6
        exact blk_6
      · show toff (setS (blk R j (rl R j)) 10 j 2) j (rl R j) 9 = R 9
        exact blk_9
      · rcases toff_5 (R := setS (blk R j (rl R j)) 10 j 2) (j := j) (r := rl R j) (i := r) with e | e
        · exact Or.inl (e.trans blk_5)
        · exact Or.inr (Or.inl e)
      · show toff (setS (blk R j (rl R j)) 10 j 2) j (rl R j) 14 8 = R 14 8
        exact blk_148
    · exact ki_of h blk_6 blk_9 (fun r _ => Or.inl blk_5) blk_148
  · exact h
theorem ki_jl {n : Nat} : ∀ (k j : Nat) (s : St × Int32), KI s.1 n → KI (jl j k s).1 n
  | 0, _, _, h => h
  | k + 1, j, s, h => ki_jl k (j + 1) _ (ki_stp h)
theorem ki_srv2 {R : St} {n j r d : Nat} (hd : d < 3) (h : KI R n) : KI (srv2 R j r (nI d)) n := by
  unfold srv2; split
  · unfold mnt; split
    · refine ki_of h rfl rfl (fun q _ => ?_) rfl
      show setS R 5 r (nI d) 5 q = R 5 q ∨ setS R 5 r (nI d) 5 q = -1 ∨ 0 ≤ setS R 5 r (nI d) 5 q
      rw [setS_at]; split
      · exact Or.inr (Or.inr (nI_pos' (by omega)))
      · exact Or.inl rfl
    · refine ki_of h rfl rfl (fun q _ => ?_) rfl
      show setS R 5 r (nI d) 5 q = R 5 q ∨ setS R 5 r (nI d) 5 q = -1 ∨ 0 ≤ setS R 5 r (nI d) 5 q
      rw [setS_at]; split
      · exact Or.inr (Or.inr (nI_pos' (by omega)))
      · exact Or.inl rfl
  · exact ki_of h rfl rfl (fun _ _ => Or.inl rfl) rfl
theorem ki_sstep {R : St} {n : Nat} (h : KI R n) : KI (sstep R n) n := by
  unfold sstep; split
  · rename_i hc
    obtain ⟨d, hd, he, -⟩ := edr_ok hc.2
    rw [he]
    unfold srv; split
    · exact ki_srv2 hd (ki_n (by decide) (ki_n (by decide) h))
    · exact ki_srv2 hd (ki_of h rfl rfl (fun _ _ => Or.inl rfl) rfl)
  · exact h
theorem ki_minu {R : St} {n : Nat} (h : KI R n) : KI (minu R n).1 n := ki_n (by decide) (ki_sstep (ki_jl n 0 (R, 0) h))
theorem ki_pas {n : Nat} : ∀ (k : Nat) (s : St × Int32), KI s.1 n → KI (pas n k s).1 n
  | 0, _, h => h
  | k + 1, s, h => ki_pas k _ (ki_minu h)
/-! the minutes counted ahead -/
section TC
variable {R : St} {x : Int32}
theorem tc {c j : Nat} {v : Int32} (h : 14 ≠ c ∨ 1 ≠ j) : setS (setS R 14 1 x) c j v = setS (setS R c j v) 14 1 x := setS_comm R x v h
theorem blk_T {j r : Nat} : blk (setS R 14 1 x) j r = setS (blk R j r) 14 1 x := by
  have e1 : setS R 14 1 x 6 j = R 6 j := rfl
  have e2 : setS R 14 1 x 4 r = R 4 r := rfl
  unfold blk
  rw [e1, e2]
  split
  · rw [tc (Or.inr (by decide)), tc (Or.inl (by decide))]; rfl
  · split
    · rw [tc (Or.inr (by decide)), tc (Or.inl (by decide))]; rfl
    · rw [tc (Or.inl (by decide)), tc (Or.inr (by decide)), tc (Or.inl (by decide))]; rfl
theorem toff_T {j r : Nat} : toff (setS R 14 1 x) j r = setS (toff R j r) 14 1 x := by
  unfold toff; rw [tc (Or.inl (by decide)), tc (Or.inl (by decide))]
theorem stp_T {j : Nat} : stp (setS R 14 1 x) j = (setS (stp R j).1 14 1 x, (stp R j).2) := by
  have e1 : setS R 14 1 x 10 j = R 10 j := rfl
  have e2 : setS R 14 1 x 11 j = R 11 j := rfl
  have e3 : setS R 14 1 x 8 j = R 8 j := rfl
  have e4 : rl (setS R 14 1 x) j = rl R j := rfl
  unfold stp
  rw [e1, e2, e3, e4]
  split
  · split
    · rw [blk_T, tc (Or.inl (by decide)), toff_T]
    · rw [blk_T]
  · rfl
theorem jl_T {x : Int32} : ∀ (k j : Nat) (R : St) (y : Int32), jl j k (setS R 14 1 x, y) = (setS (jl j k (R, y)).1 14 1 x, (jl j k (R, y)).2)
  | 0, _, _, _ => rfl
  | k + 1, j, R, y => by
    simp only [jl, stp_T]
    exact jl_T k (j + 1) (stp R j).1 (y + (stp R j).2)
theorem best_T : ∀ (k j : Nat), best (setS R 14 1 x) j k = best R j k
  | 0, _ => rfl
  | k + 1, j => by
    have e1 : elig (setS R 14 1 x) j = elig R j := rfl
    have e2 : ∀ q, setS R 14 1 x 9 q = R 9 q := fun _ => rfl
    simp only [best, e1, e2, best_T k (j + 1)]
theorem chk_T {j r : Nat} : chk (setS R 14 1 x) j r = chk R j r := rfl
theorem srv2_T {j r : Nat} {d : Int32} : srv2 (setS R 14 1 x) j r d = setS (srv2 R j r d) 14 1 x := by
  unfold srv2
  rw [chk_T]
  split
  · have e1 : setS R 14 1 x 6 j = R 6 j := rfl
    unfold mnt
    rw [e1]
    split
    · rw [tc (Or.inl (by decide)), tc (Or.inl (by decide)), tc (Or.inl (by decide)), tc (Or.inl (by decide)), tc (Or.inl (by decide)), tc (Or.inl (by decide)), tc (Or.inl (by decide))]; rfl
    · rw [tc (Or.inl (by decide)), tc (Or.inl (by decide)), tc (Or.inl (by decide))]
  · unfold sbk
    rw [tc (Or.inl (by decide)), tc (Or.inl (by decide)), tc (Or.inr (by decide))]; rfl
theorem srv_T {j : Nat} {d : Int32} : srv (setS R 14 1 x) j d = setS (srv R j d) 14 1 x := by
  have e1 : slp (setS R 14 1 x) (setS R 14 1 x 14 2 + 1) = slp R (R 14 2 + 1) := rfl
  unfold srv
  rw [e1]
  split
  · rw [tc (Or.inr (by decide)), tc (Or.inr (by decide)), srv2_T]; rfl
  · rw [tc (Or.inr (by decide)), tc (Or.inl (by decide)), srv2_T]; rfl
theorem sstep_T {n : Nat} : sstep (setS R 14 1 x) n = setS (sstep R n) 14 1 x := by
  have e1 : nxt (setS R 14 1 x) n = nxt R n := best_T n 0
  have e2 : edr (setS R 14 1 x) = edr R := rfl
  unfold sstep
  rw [e1, e2]
  split
  · exact srv_T
  · rfl
theorem num1_stp {j : Nat} : (stp R j).1 14 1 = R 14 1 := by
  have hb : ∀ r, blk R j r 14 1 = R 14 1 := fun r => by
    unfold blk; split
    · rfl
    · split <;> rfl
  unfold stp; split
  · split
    · exact hb _
    · exact hb _
  · rfl
theorem num1_jl : ∀ (k j : Nat) (s : St × Int32), (jl j k s).1 14 1 = s.1 14 1
  | 0, _, _ => rfl
  | k + 1, j, s => (num1_jl k (j + 1) _).trans num1_stp
theorem num1_srv2 {j r : Nat} {d : Int32} : srv2 R j r d 14 1 = R 14 1 := by
  unfold srv2; split
  · unfold mnt; split <;> rfl
  · rfl
theorem num1_sstep {n : Nat} : sstep R n 14 1 = R 14 1 := by
  unfold sstep; split
  · unfold srv; split
    · exact num1_srv2
    · exact num1_srv2
  · rfl
theorem minu_L1 {n : Nat} : sstep (jl 0 n (setS R 14 1 (R 14 1 + 1), 0)).1 n = (minu R n).1 := by
  rw [jl_T]
  show sstep (setS (jl 0 n (R, 0)).1 14 1 (R 14 1 + 1)) n = setS (sstep (jl 0 n (R, 0)).1 n) 14 1 (sstep (jl 0 n (R, 0)).1 n 14 1 + 1)
  rw [sstep_T, num1_sstep, num1_jl]
theorem minu_L2 {n : Nat} : (jl 0 n (setS R 14 1 (R 14 1 + 1), 0)).2 = (minu R n).2 := by
  rw [jl_T]; rfl
end TC
theorem tk_ne {R : St} {j : Nat} {q : Int32} (h : ¬ fnd R j = -1) : ∃ r, r < 12 ∧ tk R j q = nI r ∧ onSh R r = true := by
  obtain ⟨r, hr, hf, hs⟩ := fnd_ne h
  unfold tk; split
  · exact aft_ok hr hs
  · exact ⟨r, hr, hf, hs⟩
theorem chk_0 {R : St} {j r : Nat} (h : chk R j r ≤ 0) : chk R j r = 0 := by
  unfold chk at h ⊢
  split at h
  · exact absurd h (by decide)
  · split at h
    · exact absurd h (by decide)
    · split at h
      · exact absurd h (by decide)
      · split at h
        · exact absurd h (by decide)
        · rename_i h1 h2 h3 h4
          rw [if_neg h1, if_neg h2, if_neg h3, if_neg h4]
theorem sbk_L {R : St} {j r : Nat} {x y z : Int32} : setS (setS (setS R 14 4 x) 13 j y) 1 r z = setS (setS (setS R 1 r z) 13 j y) 14 4 x := by
  rw [setS_comm _ y z (Or.inl (by decide)), setS_comm R x z (Or.inl (by decide)), setS_comm _ x y (Or.inl (by decide))]
theorem srv_L1 {R : St} {j r : Nat} {d : Int32} (hs : slp R (R 14 2 + 1) = true) (hr : tk R j (R 14 2 + 1) = nI r) (h12 : r < 12) : srv2 (setS (setS R 14 2 (R 14 2 + 1)) 14 3 (R 14 3 + 1)) j r d = srv R j d := by
  rw [tk, if_pos hs] at hr
  rw [srv, if_pos hs, hr, nI_clamp (by omega)]
theorem srv_L0 {R : St} {j r : Nat} {d : Int32} (hs : slp R (R 14 2 + 1) = false) (hr : tk R j (R 14 2 + 1) = nI r) (h12 : r < 12) : srv2 (setS (setS R 14 2 (R 14 2 + 1)) 2 r (if R 6 j = 0 then 0 else 1)) j r d = srv R j d := by
  have hs' : ¬ slp R (R 14 2 + 1) = true := by rw [hs]; decide
  rw [tk, if_neg hs'] at hr
  rw [srv, if_neg hs', hr, nI_clamp (by omega)]
theorem kd_pos {x : Int32} (h : x = 0 ∨ x = 1 ∨ x = 2) : x ≤ 0 ↔ x = 0 := by
  rcases h with h | h | h <;> subst h <;> decide
