theorem ne3_stp {R : St} {i j : Nat} (h : ¬ R 10 j = 3) : ¬ (stp R i).1 10 j = 3 := by
  unfold stp
  split
  · split
    · simp only [toff, setS_at]
      by_cases hij : j = i
      · simp [hij]
      · simp [hij]; rw [blk_c (by decide) (by decide) (by decide)]; exact h
    · show ¬ blk R i (rl R i) 10 j = 3
      rw [blk_c (by decide) (by decide) (by decide)]; exact h
  · exact h
theorem ne3_jl {j : Nat} : ∀ (k i : Nat) (s : St × Int32), ¬ s.1 10 j = 3 → ¬ (jl i k s).1 10 j = 3
  | 0, _, _, h => h
  | k + 1, i, s, h => ne3_jl k (i + 1) _ (ne3_stp h)
theorem ne3_srv2 {R : St} {i j r : Nat} {d : Int32} (h : ¬ R 10 j = 3) : ¬ srv2 R i r d 10 j = 3 := by
  unfold srv2
  split
  · unfold mnt
    by_cases hij : j = i
    · split <;> simp [setS_at, hij]
    · split <;> simp [setS_at, hij] <;> exact h
  · simp [sbk, setS_at]; exact h
theorem ne3_sstep {R : St} {n j : Nat} (h : ¬ R 10 j = 3) : ¬ sstep R n 10 j = 3 := by
  unfold sstep
  split
  · unfold srv
    split
    · exact ne3_srv2 (by simp [setS_at]; exact h)
    · exact ne3_srv2 (by simp [setS_at]; exact h)
  · exact h
theorem ne3_minu {R : St} {n j : Nat} (h : ¬ R 10 j = 3) : ¬ (minu R n).1 10 j = 3 := by
  have h1 := ne3_sstep (n := n) (ne3_jl n 0 (R, 0) h)
  intro e
  apply h1
  rw [← e]; simp [minu, setS_at]
theorem lt2_of {x : Int32} (h : x = 0 ∨ x = 1 ∨ x = 2 ∨ x = 3) (h2 : ¬ x = 2) (h3 : ¬ x = 3) : x < 2 := by
  rcases h with h | h | h | h <;> subst h <;> first | decide | exact absurd rfl h2 | exact absurd rfl h3

set_option maxRecDepth 100000 in
set_option maxHeartbeats 4000000 in
theorem k_minutesToDone {g : zG} {x : Nat} {u c a h : Nat → Nat} {e : Nat → Nat → Nat} {Q P : Nat → Int32} {T R : St} {s p : Nat} {K : Nat → St} {H : Nat → St} {t : Nat → Nat} {L : Nat} (hG : GR R) (hX : xR H s t L (Q, P, T, p, K)) {y : Int32} (h0 : cIs R y = 0) : FI (S := XS) g yX5_minutesToDone cX5_minutesToDone 3 .int 8 0 0 [.ref x, .int y] (xW g.2 x u c a h e Q P T R (nI s) (nI p) K) (fun r S => cIs R y = 0 ∧ r = mtd (nn R) (ix y) 300 0 R ∧ xR H s t L S) (fun S => xW g.2 x u c a h e S.1 S.2.1 S.2.2.1 R (nI s) (nI S.2.2.2.1) S.2.2.2.2) := by
  refine fg_entry (px := (fun E S => (((cIs R y) = 1 ∧ E = "java/lang/IndexOutOfBoundsException")) ∧ xR H s t L S)) (wx := (fun S => xW g.2 x u c a h e S.1 S.2.1 S.2.2.1 R (nI s) (nI S.2.2.2.1) S.2.2.2.2)) (fun E S hp => by simp [h0] at hp) (by decide) (Nat.le_of_ble_eq_true rfl) (fun C hC hm hE hT hTW => ?_)
  refine z_aln (pc := 0) hC 0 rfl dX5_minutesToDone_0 ?_
  refine z_get (pc := 1) hC fX5_10 0 rfl rfl dX5_minutesToDone_1 ?_
  refine z_get (pc := 4) hC fX5_57 20 rfl rfl dX5_minutesToDone_4 ?_
  refine z_iln (pc := 7) hC 1 rfl dX5_minutesToDone_7 ?_
  refine z_g (pc := 8) (rest := []) hC vX2_has lX5_67 dX5_minutesToDone_8 c_has (xKr g.2 x u c a h e Q P T (nI s) (nI p) K) xKr_ctx rfl 2 2 rfl rfl rfl rfl rfl (by decide) (Nat.le_of_ble_eq_true rfl) ⟨Nat.zero_le _, Nat.zero_le _⟩ ?_
  refine z_ifne (pc := 11) hC 24 (by decide) dX5_minutesToDone_11 (fun c11 => ?_) (fun c11 => ?_)
  · have h1 : isJob R y = true := bI_n.mp c11
    obtain ⟨hjn, hj, hx⟩ := job_ix hG h1
    refine z_aln (pc := 24) hC 0 rfl dX5_minutesToDone_24 ?_
    refine z_get (pc := 25) hC fX5_10 0 rfl rfl dX5_minutesToDone_25 ?_
    refine z_get (pc := 28) hC fX5_57 20 rfl rfl dX5_minutesToDone_28 ?_
    refine z_get (pc := 31) hC fX5_76 22 rfl rfl dX5_minutesToDone_31 ?_
    refine z_iln (pc := 34) hC 1 rfl dX5_minutesToDone_34 ?_
    refine z_is_ (y := nI (ix y)) hx ?_
    refine z_iald (pc := 35) hC 33 rfl dX5_minutesToDone_35 (ix y) rfl (by omega) (by decide) ?_
    refine z_iconst (pc := 36) (v := 2) hC dX5_minutesToDone_36 (by decide) ?_
    refine z_icne (pc := 37) hC 42 (by decide) dX5_minutesToDone_37 (fun c37 => ?_) (fun c37 => ?_)
    · refine z_aln (pc := 42) hC 0 rfl dX5_minutesToDone_42 ?_
      refine z_get (pc := 43) hC fX5_10 0 rfl rfl dX5_minutesToDone_43 ?_
      refine z_get (pc := 46) hC fX5_57 20 rfl rfl dX5_minutesToDone_46 ?_
      refine z_get (pc := 49) hC fX5_76 22 rfl rfl dX5_minutesToDone_49 ?_
      refine z_iln (pc := 52) hC 1 rfl dX5_minutesToDone_52 ?_
      refine z_is_ (y := nI (ix y)) hx ?_
      refine z_iald (pc := 53) hC 33 rfl dX5_minutesToDone_53 (ix y) rfl (by omega) (by decide) ?_
      refine z_iconst (pc := 54) (v := 3) hC dX5_minutesToDone_54 (by decide) ?_
      refine z_icne (pc := 55) hC 60 (by decide) dX5_minutesToDone_55 (fun c55 => ?_) (fun c55 => ?_)
      · have hlt : R 10 (ix y) < 2 := lt2_of (hG.1.2.2.1 _ hjn).2.2.2.2 c37 c55
        refine z_aln (pc := 60) hC 0 rfl dX5_minutesToDone_60 ?_
        refine z_get (pc := 61) hC fX5_16 0 rfl rfl dX5_minutesToDone_61 ?_
        refine z_aln (pc := 64) hC 0 rfl dX5_minutesToDone_64 ?_
        refine z_get (pc := 65) hC fX5_10 0 rfl rfl dX5_minutesToDone_65 ?_
        refine z_gv (pc := 68) (rest := []) hC vX4_copyFrom lX5_254 dX5_minutesToDone_68 (c_copyFrom hG.ring) (xKd g.2 x u c a h e Q P (nI s) (nI p) K) xKd_ctx rfl 0 4 rfl rfl rfl rfl rfl (by decide) (Nat.le_of_ble_eq_true rfl) ⟨Nat.zero_le _, Nat.zero_le _⟩ ?_
        refine z_iconst (pc := 71) (v := nI 1) hC dX5_minutesToDone_71 (by decide) ?_
        refine z_isn (pc := 72) (lv' := [(2, .int (nI 1)), (0, .ref x), (1, .int y)]) hC hm (by decide) rfl dX5_minutesToDone_72 ?_
        have loop : ∀ (k m : Nat) (Y : St), m + k = 300 → Inv Y (nn R) → Y 10 (ix y) < 2 → mtd (nn R) (ix y) k m Y = mtd (nn R) (ix y) 300 0 R → Z g C 0 0 (xW g.2 x u c a h e Q P Y R (nI s) (nI p) K) [(2, .int (nI (m + 1))), (0, .ref x), (1, .int y)] 73 [] := by
          intro k
          induction k with
          | zero =>
            intro m Y hmk hI hz hp
            refine z_iln (pc := 73) hC 0 rfl dX5_minutesToDone_73 ?_
            refine z_sipush (pc := 74) (v := nI 300) hC dX5_minutesToDone_74 (by decide) ?_
            refine z_icgt (pc := 77) hC 112 (by decide) dX5_minutesToDone_77 (fun c77 => ?_) (fun c77 => absurd (nI_lt (by omega) (by omega)) c77)
            refine z_iconst (pc := 112) (v := -1) hC dX5_minutesToDone_112 (by decide) ?_
            exact hE _ _ _ (Q, P, Y, p, K) _ _ _ dX5_minutesToDone_113 rfl ⟨by simp [cIs, h1], by rw [← hp]; simp only [mtd]; rw [if_neg (fun e => by rw [e] at hz; exact absurd hz (by decide))], xR_P hX hX.2.1⟩ rfl (Nat.zero_le _) (Nat.zero_le _)
          | succ k ih =>
            intro m Y hmk hI hz hp
            refine z_iln (pc := 73) hC 0 rfl dX5_minutesToDone_73 ?_
            refine z_sipush (pc := 74) (v := nI 300) hC dX5_minutesToDone_74 (by decide) ?_
            refine z_icgt (pc := 77) hC 112 (by decide) dX5_minutesToDone_77 (fun c77 => absurd c77 (nI_nlt (by omega) (by omega))) (fun c77 => ?_)
            refine z_aln (pc := 80) hC 1 rfl dX5_minutesToDone_80 ?_
            refine z_get (pc := 81) hC fX5_16 0 rfl rfl dX5_minutesToDone_81 ?_
            refine z_g (pc := 84) (rest := []) hC vX4_runMinute lX5_257 dX5_minutesToDone_84 (c_runMinute hI) (xKc g.2 x u c a h e Q P R (nI s) (nI p) K) xKc_ctx rfl 0 4 rfl rfl rfl rfl rfl (by decide) (Nat.le_of_ble_eq_true rfl) ⟨Nat.zero_le _, Nat.zero_le _⟩ ?_
            refine z_pop (pc := 87) hC rfl dX5_minutesToDone_87 ?_
            refine z_aln (pc := 88) hC 1 rfl dX5_minutesToDone_88 ?_
            refine z_get (pc := 89) hC fX5_16 0 rfl rfl dX5_minutesToDone_89 ?_
            refine z_get (pc := 92) hC fX5_57 3 rfl rfl dX5_minutesToDone_92 ?_
            refine z_get (pc := 95) hC fX5_76 5 rfl rfl dX5_minutesToDone_95 ?_
            refine z_iln (pc := 98) hC 2 rfl dX5_minutesToDone_98 ?_
            refine z_is_ (y := nI (ix y)) hx ?_
            refine z_iald (pc := 99) hC 16 rfl dX5_minutesToDone_99 (ix y) rfl (by omega) (by decide) ?_
            refine z_iconst (pc := 100) (v := 2) hC dX5_minutesToDone_100 (by decide) ?_
            refine z_icne (pc := 101) hC 106 (by decide) dX5_minutesToDone_101 (fun c101 => ?_) (fun c101 => ?_)
            · have hlt2 : (minu Y (nn R)).1 10 (ix y) < 2 := lt2_of ((inv_minu hI).2.2.1 _ hjn).2.2.2.2 c101 (ne3_minu (fun e => by rw [e] at hz; exact absurd hz (by decide)))
              refine z_iinc (pc := 106) (v := nI (m + 1 + 1)) (j := 0) (lv' := [(2, .int (nI (m + 1 + 1))), (0, .ref x), (1, .int y)]) hC hm (by decide) rfl (up_step _) rfl dX5_minutesToDone_106 ?_
              refine z_goto (pc := 109) hC 73 (by decide) dX5_minutesToDone_109 ?_
              refine z_lv [0, 1, 2] rfl ?_
              exact ih (m + 1) _ (by omega) (inv_minu hI) hlt2 (by rw [← hp]; simp only [mtd]; rw [if_pos hz])
            · refine z_iln (pc := 104) hC 0 rfl dX5_minutesToDone_104 ?_
              exact hE _ _ _ (Q, P, (minu Y (nn R)).1, p, K) _ _ _ dX5_minutesToDone_105 rfl ⟨by simp [cIs, h1], by rw [← hp]; simp only [mtd]; rw [if_pos hz, mtd_x (Or.inr (by rw [c101]; decide)), if_pos c101], xR_P hX hX.2.1⟩ rfl (Nat.zero_le _) (Nat.zero_le _)
        refine z_lv [0, 1, 2] rfl ?_
        exact loop 300 0 R rfl hG.1 hlt rfl
      · refine z_iconst (pc := 58) (v := -1) hC dX5_minutesToDone_58 (by decide) ?_
        exact hE _ _ _ (Q, P, T, p, K) _ _ _ dX5_minutesToDone_59 rfl ⟨by simp [cIs, h1], by rw [mtd_x (Or.inr (by rw [c55]; decide)), if_neg c37], hX⟩ rfl (Nat.zero_le _) (Nat.zero_le _)
    · refine z_iconst (pc := 40) (v := 0) hC dX5_minutesToDone_40 (by decide) ?_
      exact hE _ _ _ (Q, P, T, p, K) _ _ _ dX5_minutesToDone_41 rfl ⟨by simp [cIs, h1], by rw [mtd_x (Or.inr (by rw [c37]; decide)), if_pos c37]; rfl, hX⟩ rfl (Nat.zero_le _) (Nat.zero_le _)
  · have h1 : isJob R y = false := bI_0.mp c11
    exact hT 14 _ _ _ _ "no such job" _ _ xIOE dX5_minutesToDone_14 dX5_minutesToDone_17 dX5_minutesToDone_18 dX5_minutesToDone_20 dX5_minutesToDone_23 (by decide) (Q, P, T, p, K) ⟨⟨(if_pos h1), rfl⟩, hX⟩ rfl
