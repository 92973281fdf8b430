/-! WHEN JOBS WOULD BE DONE -/
def it (n : Nat) : Nat → St → St
  | 0, R => R
  | k + 1, R => (minu (it n k R) n).1
def wn (n : Nat) (R : St) : Nat → Nat → Int32
  | 0, j => if R 10 j = 2 then 0 else -1
  | M + 1, j => if wn n R M j < 0 ∧ it n (M + 1) R 10 j = 2 then nI (M + 1) else wn n R M j
theorem inv_it {R : St} {n : Nat} (h : Inv R n) : ∀ k, Inv (it n k R) n
  | 0 => h
  | k + 1 => inv_minu (inv_it h k)
theorem ki_it {R : St} {n : Nat} (h : KI R n) : ∀ k, KI (it n k R) n
  | 0 => h
  | k + 1 => ki_minu (ki_it h k)
theorem wn_t {R : St} {n M j : Nat} (h : ¬ 0 ≤ wn n R M j) (h2 : it n (M + 1) R 10 j = 2) : nI (M + 1) = wn n R (M + 1) j := by
  simp only [wn]; rw [if_pos ⟨Int32.not_le.mp h, h2⟩]
theorem wn_f1 {R : St} {n M j : Nat} (h : 0 ≤ wn n R M j) : wn n R M j = wn n R (M + 1) j := by
  simp only [wn]; rw [if_neg (fun q => absurd q.1 (Int32.not_lt.mpr h))]
theorem wn_f2 {R : St} {n M j : Nat} (h : ¬ it n (M + 1) R 10 j = 2) : wn n R M j = wn n R (M + 1) j := by
  simp only [wn]; rw [if_neg (fun q => h q.2)]
theorem wn_stay {R : St} {n m j : Nat} (h : 0 ≤ wn n R m j) : ∀ k, wn n R (m + k) j = wn n R m j
  | 0 => rfl
  | k + 1 => by
    have e := wn_stay h k
    rw [← e] at h
    rw [← e, show m + (k + 1) = m + k + 1 by omega]
    exact (wn_f1 h).symm
theorem c3_stp {R : St} {i j : Nat} (h : R 10 j = 3) : (stp R i).1 10 j = 3 := by
  by_cases hi : R 10 i = 1
  · have hij : j ≠ i := fun e => by rw [e, hi] at h; exact absurd h (by decide)
    unfold stp
    rw [if_pos hi]
    split
    · show setS (blk R i (rl R i)) 10 i 2 10 j = 3
      rw [setS_j _ _ _ hij, blk_c (by decide) (by decide) (by decide)]; exact h
    · show blk R i (rl R i) 10 j = 3
      rw [blk_c (by decide) (by decide) (by decide)]; exact h
  · rw [stp_0 hi]; exact h
theorem c3_jl {j : Nat} : ∀ (k i : Nat) (s : St × Int32), s.1 10 j = 3 → (jl i k s).1 10 j = 3
  | 0, _, _, h => h
  | k + 1, i, s, h => c3_jl k (i + 1) _ (c3_stp h)
theorem c3_srv2 {R : St} {i j r : Nat} {d : Int32} (hij : j ≠ i) (h : R 10 j = 3) : srv2 R i r d 10 j = 3 := by
  unfold srv2; split
  · unfold mnt; split
    · show setS (setS R 5 r d) 10 i 1 10 j = 3
      rw [setS_j _ _ _ hij]; exact h
    · show setS (setS R 5 r d) 10 i 1 10 j = 3
      rw [setS_j _ _ _ hij]; exact h
  · exact h
theorem c3_sstep {R : St} {n j : Nat} (hn : n ≤ 12) (h : R 10 j = 3) : sstep R n 10 j = 3 := by
  unfold sstep; split
  · rename_i hc
    obtain ⟨q, hq, he, hq10, -⟩ := nxt_ok hc.1
    rw [he, nI_clamp (by omega)]
    have hij : j ≠ q := fun e => by rw [e, hq10] at h; exact absurd h (by decide)
    unfold srv; split
    · exact c3_srv2 hij h
    · exact c3_srv2 hij h
  · exact h
theorem c3_minu {R : St} {n j : Nat} (hn : n ≤ 12) (h : R 10 j = 3) : (minu R n).1 10 j = 3 := c3_sstep hn (c3_jl n 0 (R, 0) h)
theorem c3_wn {R : St} {n m j : Nat} (hn : n ≤ 12) (h : it n m R 10 j = 3) : ∀ k, it n (m + k) R 10 j = 3 ∧ wn n R (m + k) j = wn n R m j
  | 0 => ⟨h, rfl⟩
  | k + 1 => by
    obtain ⟨h1, h2⟩ := c3_wn hn h k
    have h3 : it n (m + k + 1) R 10 j = 3 := c3_minu hn h1
    rw [show m + (k + 1) = m + k + 1 by omega]
    exact ⟨h3, (wn_f2 (by rw [h3]; decide)).symm.trans h2⟩
theorem wn_mtd {R : St} {n j : Nat} (hI : Inv R n) (hj : j < n) : ∀ (k m : Nat), m + k < 2 ^ 31 → wn n R m j = (if it n m R 10 j = 2 then nI m else -1) → mtd n j k m (it n m R) = wn n R (m + k) j
  | 0, m, _, h => by rw [mtd_x (Or.inl rfl)]; exact h.symm
  | k + 1, m, hb, h => by
    have hJ := ((inv_it hI m).2.2.1 j hj).2.2.2.2
    by_cases h2 : it n m R 10 j = 2
    · rw [mtd_x (Or.inr (by rw [h2]; decide)), if_pos h2]
      rw [if_pos h2] at h
      rw [wn_stay (by rw [h]; exact nI_pos' (by omega)) (k + 1), h]
    · rw [if_neg h2] at h
      by_cases h3 : it n m R 10 j = 3
      · rw [mtd_x (Or.inr (by rw [h3]; decide)), if_neg h2, (c3_wn hI.1 h3 (k + 1)).2, h]
      · have hlt : it n m R 10 j < 2 := by
          rcases hJ with q | q | q | q
          · rw [q]; decide
          · rw [q]; decide
          · exact absurd q h2
          · exact absurd q h3
        have e : mtd n j (k + 1) m (it n m R) = mtd n j k (m + 1) (it n (m + 1) R) := by
          simp only [mtd, if_pos hlt]; rfl
        rw [e, wn_mtd hI hj k (m + 1) (by omega) ?_, show m + 1 + k = m + (k + 1) by omega]
        by_cases h4 : it n (m + 1) R 10 j = 2
        · rw [if_pos h4]; exact (wn_t (by rw [h]; decide) h4).symm
        · rw [if_neg h4, ← wn_f2 h4, h]
theorem wn_all {R : St} {n j : Nat} (hI : Inv R n) (hj : j < n) : mtd n j 300 0 R = wn n R 300 j := by
  have := wn_mtd hI hj 300 0 (by omega) (by simp only [wn, it]; rfl)
  rw [Nat.zero_add] at this
  exact this
theorem all_upd {f F : Nat → Int32} {m : Nat} {x : Int32} (h : ∀ j, j < m → f j = F j) (hx : x = F m) : ∀ j, j < m + 1 → upd f m x j = F j := fun j hj => by
  simp only [upd]
  by_cases e : j = m
  · rw [if_pos e, hx, e]
  · rw [if_neg e]; exact h j (by omega)
theorem upd_ne' {f : Nat → Int32} {m j : Nat} {x : Int32} (h : j ≠ m) : upd f m x j = f j := if_neg h
theorem it_J {R : St} {n : Nat} : ∀ k, fJ (it n k R) = fJ R
  | 0 => rfl
  | k + 1 => by
    refine Eq.trans ?_ (it_J (R := R) (n := n) k)
    have key : ∀ (Q : St) c, 5 < c → c < 10 → (minu Q n).1 c = Q c := fun Q c h1 h2 => by
      have hs : ∀ (Q : St) i, (stp Q i).1 c = Q c := fun Q i => by
        unfold stp; split
        · have hb : ∀ r, blk Q i r c = Q c := fun r => by funext q; exact blk_c (by omega) (by omega) (by omega)
          split
          · funext q
            show toff (setS (blk Q i (rl Q i)) 10 i 2) i (rl Q i) c q = Q c q
            unfold toff
            rw [setS_c _ _ _ (by omega), setS_c _ _ _ (by omega), setS_c _ _ _ (by omega), hb]
          · exact hb _
        · rfl
      have hj : ∀ (k j : Nat) (s : St × Int32), (jl j k s).1 c = s.1 c := fun k => by
        induction k with
        | zero => intro j s; rfl
        | succ k ih => intro j s; exact (ih (j + 1) _).trans (hs _ _)
      have h2' : ∀ (Q : St) i r d, srv2 Q i r d c = Q c := fun Q i r d => by
        funext q
        unfold srv2; split
        · unfold mnt; split
          · simp only [setS_at]; repeat rw [if_neg (by omega)]
          · simp only [setS_at]; repeat rw [if_neg (by omega)]
        · unfold sbk
          simp only [setS_at]; repeat rw [if_neg (by omega)]
      have h3 : ∀ (Q : St), sstep Q n c = Q c := fun Q => by
        unfold sstep; split
        · unfold srv; split
          · rw [h2']; funext q; simp only [setS_at]; repeat rw [if_neg (by omega)]
          · rw [h2']; funext q; simp only [setS_at]; repeat rw [if_neg (by omega)]
        · rfl
      funext q
      show setS (sstep (jl 0 n (Q, 0)).1 n) 14 1 _ c q = Q c q
      rw [setS_c _ _ _ (by omega), h3, hj]
    funext q
    show fJ (minu (it n k R) n).1 q = fJ (it n k R) q
    unfold fJ
    rw [key _ _ (by omega) (by omega)]
/-- the law's cells but the jobs' -/
def oW (i : Nat → ClassId) (v : Nat → Nat) (R : St) : va_W := [(v 0, .inl (i 0, 36, .inl (fA R))), (v 1, .inl (i 0, 36, .inl (fB R))), (v 3, .inl (i 0, 48, .inl (fK R))), (v 4, .inl (i 0, 11, .inl (R 14)))]
section PW
variable {A B J K N a b k n w : Nat × va_E} {X : va_W}
theorem perm_w1 : (((((([A, B, J, K, N] ++ X) ++ [a]) ++ [b]) ++ [k]) ++ [n]) ++ [w]).Perm ([A, a] ++ ([B, b] ++ ([K, k] ++ ([N, n] ++ ([J, w] ++ X))))) := by
  have e : (((((([A, B, J, K, N] ++ X) ++ [a]) ++ [b]) ++ [k]) ++ [n]) ++ [w]) = [A, B, J, K, N] ++ (X ++ [a, b, k, n, w]) := by simp
  rw [e]
  refine (List.Perm.append_left [A, B, J, K, N] (List.perm_append_comm (l₁ := X) (l₂ := [a, b, k, n, w]))).trans ?_
  show (A :: ([B, J, K, N] ++ a :: ([b, k, n, w] ++ X))).Perm (A :: a :: B :: b :: K :: k :: N :: n :: J :: w :: X)
  refine List.Perm.cons A ((List.perm_middle (l₁ := [B, J, K, N]) (l₂ := [b, k, n, w] ++ X)).trans (List.Perm.cons a (List.Perm.cons B ?_)))
  show ([J, K, N] ++ b :: ([k, n, w] ++ X)).Perm _
  refine (List.perm_middle (l₁ := [J, K, N]) (l₂ := [k, n, w] ++ X)).trans (List.Perm.cons b ?_)
  show ([J] ++ K :: ([N, k, n, w] ++ X)).Perm _
  refine (List.perm_middle (l₁ := [J]) (l₂ := [N, k, n, w] ++ X)).trans (List.Perm.cons K ?_)
  show ([J, N] ++ k :: ([n, w] ++ X)).Perm _
  refine (List.perm_middle (l₁ := [J, N]) (l₂ := [n, w] ++ X)).trans (List.Perm.cons k ?_)
  show ([J] ++ N :: ([n, w] ++ X)).Perm _
  refine (List.perm_middle (l₁ := [J]) (l₂ := [n, w] ++ X)).trans (List.Perm.cons N ?_)
  exact List.perm_middle (l₁ := [J]) (l₂ := [w] ++ X)
theorem perm_w2 : ([A, a] ++ ([B, b] ++ ([K, k] ++ ([N, n] ++ ([J, w] ++ X))))).Perm ([a, b, J, k, n] ++ ([A, B, K, N] ++ ([w] ++ X))) := by
  refine List.Perm.symm ?_
  show ([a, b, J, k, n] ++ A :: ([B, K, N] ++ ([w] ++ X))).Perm (A :: a :: B :: b :: K :: k :: N :: n :: J :: w :: X)
  refine (List.perm_middle (l₁ := [a, b, J, k, n]) (l₂ := [B, K, N] ++ ([w] ++ X))).trans (List.Perm.cons A (List.Perm.cons a ?_))
  show ([b, J, k, n] ++ B :: ([K, N] ++ ([w] ++ X))).Perm _
  refine (List.perm_middle (l₁ := [b, J, k, n]) (l₂ := [K, N] ++ ([w] ++ X))).trans (List.Perm.cons B (List.Perm.cons b ?_))
  show ([J, k, n] ++ K :: ([N] ++ ([w] ++ X))).Perm _
  refine (List.perm_middle (l₁ := [J, k, n]) (l₂ := [N] ++ ([w] ++ X))).trans (List.Perm.cons K ?_)
  show ([J] ++ k :: ([n, N] ++ ([w] ++ X))).Perm _
  refine (List.perm_middle (l₁ := [J]) (l₂ := [n, N] ++ ([w] ++ X))).trans (List.Perm.cons k ?_)
  show ([J, n] ++ N :: ([w] ++ X)).Perm _
  refine (List.perm_middle (l₁ := [J, n]) (l₂ := [w] ++ X)).trans (List.Perm.cons N ?_)
  exact List.perm_middle (l₁ := [J]) (l₂ := [w] ++ X)
theorem drop_w : ([J] ++ ([A, B, K, N] ++ X)).Sublist ([a, b, J, k, n] ++ ([A, B, K, N] ++ ([w] ++ X))) := by
  refine List.Sublist.cons a (List.Sublist.cons b (List.Sublist.cons₂ J (List.Sublist.cons k (List.Sublist.cons n ?_))))
  exact List.Sublist.append_left (List.sublist_append_right [w] X) [A, B, K, N]
theorem perm_w3 : ([J] ++ ([A, B, K, N] ++ X)).Perm ([A, B, J, K, N] ++ X) := (List.perm_middle (l₁ := [A, B]) (a := J) (l₂ := [K, N] ++ X)).symm
end PW
theorem ctx_m2 (X Y Z : va_W) : isCtx (fun w => X ++ (Y ++ (w ++ Z))) := ⟨X ++ Y, Z, fun w => by rw [List.append_assoc]⟩
theorem ctx_m3 (X Y V Z : va_W) : isCtx (fun w => X ++ (Y ++ (V ++ (w ++ Z)))) := ⟨X ++ (Y ++ V), Z, fun w => by rw [List.append_assoc, List.append_assoc]⟩
theorem ctx_r3 (X Y Z : va_W) : isCtx (fun w => X ++ (Y ++ (Z ++ w))) := ⟨X ++ (Y ++ Z), [], fun w => by rw [List.append_nil, List.append_assoc, List.append_assoc]⟩
