theorem cfl_job {c : Cmd} {P : Nat → Int32} (h : cfl c P) (he : c.1 = 114 ∨ c.1 = 119 ∨ c.1 = 99) : P 3 = kd c.1 ∧ P 4 = nI c.2.1 ∧ P 5 = nI c.2.2.1 ∧ P 6 = nI c.2.2.2 := h.2.2 (by simp [isJ]; omega)

set_option maxRecDepth 100000 in
set_option maxHeartbeats 4000000 in
theorem k_execute {g : zG} {x : Nat} {u c_ a h : Nat → Nat} {e : Nat → Nat → Nat} {Q P : Nat → Int32} {T R : St} {z p : Int32} {K : Nat → St} {c : Cmd} (hG : GR R) (hP : cfl c P) (hc : cOK c) : Gi g yX5_execute cX5_execute 1 .boolean 6 [.ref x] (xW g.2 x u c_ a h e Q P T R z p K) (bI (exC c R).isSome) (xW g.2 x u c_ a h e Q P T ((exC c R).getD R) z p K) := by
  refine fi_entry (by decide) (Nat.le_of_ble_eq_true rfl) (fun C hC hm hE => ?_)
  refine z_aln (pc := 0) hC 0 rfl dX5_execute_0 ?_
  refine z_get (pc := 1) hC fX5_29 0 rfl rfl dX5_execute_1 ?_
  rcases hc with he | he | ⟨he, hv⟩
  · refine z_get (pc := 4) hC fX5_170 1 rfl rfl dX5_execute_4 ?_
    refine z_is_ (y := 116) (by rw [hP.1, he.1]; rfl) ?_
    refine z_lookup (pc := 7) (off := 25) hC 32 dX5_execute_7 (by decide) (by decide) (by decide) ?_
    refine z_aln (pc := 32) hC 0 rfl dX5_execute_32 ?_
    refine z_get (pc := 33) hC fX5_10 0 rfl rfl dX5_execute_33 ?_
    refine z_aln (pc := 36) hC 0 rfl dX5_execute_36 ?_
    refine z_get (pc := 37) hC fX5_29 0 rfl rfl dX5_execute_37 ?_
    refine z_get (pc := 40) hC fX5_173 1 rfl rfl dX5_execute_40 ?_
    refine z_is_ (y := nI c.2.1) (hP.2.1 he.1) ?_
    refine z_g (pc := 43) (rest := []) hC vX4_runMinutes lX5_116 dX5_execute_43 (c_runMinutes hG.1 (by omega)) (xKr g.2 x u c_ a h e Q P T z p K) xKr_ctx rfl 0 4 rfl rfl rfl rfl rfl (by decide) (Nat.le_of_ble_eq_true rfl) ⟨Nat.zero_le _, Nat.zero_le _⟩ ?_
    refine z_pop (pc := 46) hC rfl dX5_execute_46 ?_
    refine z_iconst (pc := 47) (v := 1) hC dX5_execute_47 (by decide) ?_
    exact hE _ _ _ () _ _ _ dX5_execute_48 rfl (by simp [exC, he.1, bI]) (by simp [exC, he.1]; try rfl) (Nat.zero_le _) (Nat.zero_le _)
  · refine z_get (pc := 4) hC fX5_170 1 rfl rfl dX5_execute_4 ?_
    refine z_is_ (y := 100) (by rw [hP.1, he]; rfl) ?_
    refine z_lookup (pc := 7) (off := 42) hC 49 dX5_execute_7 (by decide) (by decide) (by decide) ?_
    refine z_aln (pc := 49) hC 0 rfl dX5_execute_49 ?_
    refine z_get (pc := 50) hC fX5_10 0 rfl rfl dX5_execute_50 ?_
    refine z_g (pc := 53) (rest := []) hC vX4_hasNextDay lX5_120 dX5_execute_53 c_hasNextDay (xKr g.2 x u c_ a h e Q P T z p K) xKr_ctx rfl 0 4 rfl rfl rfl rfl rfl (by decide) (Nat.le_of_ble_eq_true rfl) ⟨Nat.zero_le _, Nat.zero_le _⟩ ?_
    refine z_ifne (pc := 56) hC 61 (by decide) dX5_execute_56 (fun c56 => ?_) (fun c56 => ?_)
    · have hd : R 14 0 < 999 := by simpa using bI_n.mp c56
      have he1 : c.1 = 100 := by rw [he]
      refine z_aln (pc := 61) hC 0 rfl dX5_execute_61 ?_
      refine z_get (pc := 62) hC fX5_10 0 rfl rfl dX5_execute_62 ?_
      refine z_dup (pc := 65) hC rfl dX5_execute_65 ?_
      refine z_get (pc := 66) hC fX5_126 20 rfl rfl dX5_execute_66 ?_
      refine z_iconst (pc := 69) (v := 1) hC dX5_execute_69 (by decide) ?_
      refine z_iadd (pc := 70) (v := (R 14 0) + 1) hC rfl dX5_execute_70 ?_
      refine z_put (pc := 71) (ws' := xW g.2 x u c_ a h e Q P T (setS R 14 0 ((R 14 0) + 1)) z p K) hC fX5_126 p4_2 20 rfl (Nat.le_of_ble_eq_true rfl) rfl dX5_execute_71 ?_
      refine z_iconst (pc := 74) (v := 1) hC dX5_execute_74 (by decide) ?_
      exact hE _ _ _ () _ _ _ dX5_execute_75 rfl (by simp [exC, he1, hd, bI]) (by simp [exC, he1, hd]; try rfl) (Nat.zero_le _) (Nat.zero_le _)
    · have hd : ¬ R 14 0 < 999 := by simpa using bI_0.mp c56
      have he1 : c.1 = 100 := by rw [he]
      refine z_iconst (pc := 59) (v := 0) hC dX5_execute_59 (by decide) ?_
      exact hE _ _ _ () _ _ _ dX5_execute_60 rfl (by simp [exC, he1, hd, bI]) (by simp [exC, he1, hd]; try rfl) (Nat.zero_le _) (Nat.zero_le _)
  · have n116 : ¬ nI c.1 = 116 := by rcases he with h | h | h <;> rw [h] <;> decide
    have n100 : ¬ nI c.1 = 100 := by rcases he with h | h | h <;> rw [h] <;> decide
    have k116 : ¬ c.1 = 116 := by omega
    have k100 : ¬ c.1 = 100 := by omega
    obtain ⟨f3, f4, f5, f6⟩ := cfl_job hP he
    refine z_get (pc := 4) hC fX5_170 1 rfl rfl dX5_execute_4 ?_
    refine z_is_ (y := nI c.1) hP.1 ?_
    refine z_lookup (pc := 7) (off := 69) hC 76 dX5_execute_7 (by decide) (by decide) ((lv_osw n100 (by decide)).trans (lv_osw n116 (by decide))) ?_
    refine z_aln (pc := 76) hC 0 rfl dX5_execute_76 ?_
    refine z_get (pc := 77) hC fX5_10 0 rfl rfl dX5_execute_77 ?_
    refine z_aln (pc := 80) hC 0 rfl dX5_execute_80 ?_
    refine z_get (pc := 81) hC fX5_29 0 rfl rfl dX5_execute_81 ?_
    refine z_get (pc := 84) hC fX5_176 1 rfl rfl dX5_execute_84 ?_
    refine z_is_ (y := kd c.1) f3 ?_
    refine z_aln (pc := 87) hC 0 rfl dX5_execute_87 ?_
    refine z_get (pc := 88) hC fX5_29 0 rfl rfl dX5_execute_88 ?_
    refine z_get (pc := 91) hC fX5_179 1 rfl rfl dX5_execute_91 ?_
    refine z_is_ (y := nI c.2.1) f4 ?_
    refine z_g (pc := 94) (rest := []) hC vX4_takesJob lX5_44 dX5_execute_94 (c_takesJob hG.num hG.n12) (xKr g.2 x u c_ a h e Q P T z p K) xKr_ctx rfl 0 4 rfl rfl rfl rfl rfl (by decide) (Nat.le_of_ble_eq_true rfl) ⟨Nat.zero_le _, Nat.zero_le _⟩ ?_
    refine z_ifne (pc := 97) hC 102 (by decide) dX5_execute_97 (fun c97 => ?_) (fun c97 => ?_)
    · have h2 : canS R (nn R) (kd c.1) (nI c.2.1) = true := bI_n.mp c97
      refine z_aln (pc := 102) hC 0 rfl dX5_execute_102 ?_
      refine z_get (pc := 103) hC fX5_10 0 rfl rfl dX5_execute_103 ?_
      refine z_get (pc := 106) hC fX5_57 20 rfl rfl dX5_execute_106 ?_
      refine z_aln (pc := 109) hC 0 rfl dX5_execute_109 ?_
      refine z_get (pc := 110) hC fX5_29 0 rfl rfl dX5_execute_110 ?_
      refine z_get (pc := 113) hC fX5_176 1 rfl rfl dX5_execute_113 ?_
      refine z_is_ (y := kd c.1) f3 ?_
      refine z_aln (pc := 116) hC 0 rfl dX5_execute_116 ?_
      refine z_get (pc := 117) hC fX5_29 0 rfl rfl dX5_execute_117 ?_
      refine z_get (pc := 120) hC fX5_179 1 rfl rfl dX5_execute_120 ?_
      refine z_is_ (y := nI c.2.1) f4 ?_
      refine z_aln (pc := 123) hC 0 rfl dX5_execute_123 ?_
      refine z_get (pc := 124) hC fX5_29 0 rfl rfl dX5_execute_124 ?_
      refine z_get (pc := 127) hC fX5_173 1 rfl rfl dX5_execute_127 ?_
      refine z_is_ (y := nI c.2.2.1) f5 ?_
      refine z_aln (pc := 130) hC 0 rfl dX5_execute_130 ?_
      refine z_get (pc := 131) hC fX5_29 0 rfl rfl dX5_execute_131 ?_
      refine z_get (pc := 134) hC fX5_182 1 rfl rfl dX5_execute_134 ?_
      refine z_is_ (y := nI c.2.2.2) f6 ?_
      refine z_g (pc := 137) (rest := []) hC vX2_add lX5_61 dX5_execute_137 (c_add hG.num (canS_n h2)) (xKr g.2 x u c_ a h e Q P T z p K) xKr_ctx rfl 2 2 rfl rfl rfl rfl rfl (by decide) (Nat.le_of_ble_eq_true rfl) ⟨Nat.zero_le _, Nat.zero_le _⟩ ?_
      refine z_pop (pc := 140) hC rfl dX5_execute_140 ?_
      refine z_iconst (pc := 141) (v := 1) hC dX5_execute_141 (by decide) ?_
      exact hE _ _ _ () _ _ _ dX5_execute_142 rfl (by simp [exC, k116, k100, h2, bI]) (by simp [exC, k116, k100, h2]; try rfl) (Nat.zero_le _) (Nat.zero_le _)
    · have h2 : canS R (nn R) (kd c.1) (nI c.2.1) = false := bI_0.mp c97
      refine z_iconst (pc := 100) (v := 0) hC dX5_execute_100 (by decide) ?_
      exact hE _ _ _ () _ _ _ dX5_execute_101 rfl (by simp [exC, k116, k100, h2, bI]) (by simp [exC, k116, k100, h2]; try rfl) (Nat.zero_le _) (Nat.zero_le _)

theorem prs_le {t : Nat → Nat} {L : Nat} : ∀ (k p : Nat) {e : Nat}, p ≤ L → (prs t L k p).2 = some e → e ≤ L
  | 0, p, e, hp, h => by simp [prs] at h; omega
  | k + 1, p, e, hp, h => by
    have hle := rdC_le (t := t) hp
    rcases hc : rdC t L p with ⟨_ | x, q⟩
    · rw [hc] at hle; simp [prs, hc] at h; dsimp only at hle; omega
    · rw [hc] at hle; dsimp only at hle
      simp only [prs, hc] at h
      split at h
      · cases h
      · split at h
        · cases h; exact hle
        · exact prs_le k (q + 1) (by omega) h

set_option maxRecDepth 100000 in
set_option maxHeartbeats 4000000 in
theorem k_runText {g : zG} {x : Nat} {u c a h : Nat → Nat} {e : Nat → Nat → Nat} {Q P : Nat → Int32} {T R : St} {s p : Nat} {K : Nat → St} {H : Nat → St} {t : Nat → Nat} {L : Nat} (hG : GR R) (hX : xR H s t L (Q, P, T, p, K)) : FX (S := XS) g yX5_runText cX5_runText 2 .int 8 [.ref x] (xW g.2 x u c a h e Q P T R (nI s) (nI p) K) (fun E S => (((cRun t L) = 1 ∧ E = "java/lang/IllegalStateException")) ∧ xR H s t L S) (fun S => xW g.2 x u c a h e S.1 S.2.1 S.2.2.1 R (nI s) (nI S.2.2.2.1) S.2.2.2.2) (fun r S => cRun t L = 0 ∧ r = nI (runC (prs t L 80 0).1 R 0).2 ∧ xR (pushH H s R) (pushN s) t L S) (fun S => xW g.2 x u c a h e S.1 S.2.1 S.2.2.1 (runC (prs t L 80 0).1 R 0).1 (nI (pushN s)) (nI S.2.2.2.1) S.2.2.2.2) := by
  refine fx_entry (by decide) rfl (by decide) (Nat.le_of_ble_eq_true rfl) (fun C hC hm hE hT hTW => ?_)
  refine z_aln (pc := 0) hC 0 rfl dX5_runText_0 ?_
  refine z_get (pc := 1) hC fX5_29 0 rfl rfl dX5_runText_1 ?_
  refine z_ik (pc := 4) (rest := []) hC vX0_findError lX5_151 dX5_runText_4 (c_findError hX.1 hX.2.2.1 hX.2.1) (xKt g.2 x u c a h e T R (nI s) (nI p) K) xKt_ctx rfl 0 0 rfl rfl rfl rfl rfl (by decide) (Nat.le_of_ble_eq_true rfl) ⟨Nat.zero_le _, Nat.zero_le _⟩ (fun r P' hr => ?_)
  obtain ⟨rfl, hP0⟩ := hr
  refine z_iconst (pc := 7) (v := -1) hC dX5_runText_7 (by decide) ?_
  refine z_iceq (pc := 8) hC 21 (by decide) dX5_runText_8 (fun c8 => ?_) (fun c8 => ?_)
  · have hn : (prs t L 80 0).2 = none := by
      cases h : (prs t L 80 0).2 with
      | none => rfl
      | some q => rw [h] at c8; exact absurd c8 (nI_ne (by have := prs_le 80 0 (Nat.zero_le L) h; have := hX.2.2.1; omega))
    have hcd : cRun t L = 0 := if_pos hn
    refine z_aln (pc := 21) hC 0 rfl dX5_runText_21 ?_
    refine z_get (pc := 22) hC fX5_22 0 rfl rfl dX5_runText_22 ?_
    refine z_aln (pc := 25) hC 0 rfl dX5_runText_25 ?_
    refine z_get (pc := 26) hC fX5_10 0 rfl rfl dX5_runText_26 ?_
    refine z_gv (pc := 29) (rest := []) hC vX1_save lX5_53 dX5_runText_29 (c_save hG.ring hX.2.2.2.2.1 hX.2.2.2.1) (xKs g.2 x u c a h Q P' T) xKs_ctx rfl 17 1 rfl rfl rfl rfl rfl (by decide) (Nat.le_of_ble_eq_true rfl) ⟨Nat.zero_le _, Nat.zero_le _⟩ ?_
    refine z_w (ws' := xW g.2 x u c a h e Q P' T R (nI (pushN s)) (nI ((p + 1) % 6)) (upK K p R)) (by rw [pushN_if hX.2.2.2.1]; rfl) ?_
    refine z_aln (pc := 32) hC 0 rfl dX5_runText_32 ?_
    refine z_get (pc := 33) hC fX5_29 0 rfl rfl dX5_runText_33 ?_
    refine z_gv (pc := 36) (rest := []) hC vX0_rewind lX5_157 dX5_runText_36 c_rewind (xKt g.2 x u c a h e T R (nI (pushN s)) (nI ((p + 1) % 6)) (upK K p R)) xKt_ctx rfl 0 0 rfl rfl rfl rfl rfl (by decide) (Nat.le_of_ble_eq_true rfl) ⟨Nat.zero_le _, Nat.zero_le _⟩ ?_
    refine z_iconst (pc := 39) (v := nI 0) hC dX5_runText_39 (by decide) ?_
    refine z_isn (pc := 40) (lv' := [(1, .int (nI 0)), (0, .ref x)]) hC hm (by decide) rfl dX5_runText_40 ?_
    have done_ : ∀ (m q : Nat) (R2 : St) (P2 : Nat → Int32), P2 0 = nI L → P2 1 = nI q → q ≤ L → L ≤ q → runC [] R2 m = runC (prs t L 80 0).1 R 0 → Z g C 0 0 (xW g.2 x u c a h e Q P2 T R2 (nI (pushN s)) (nI ((p + 1) % 6)) (upK K p R)) [(1, .int (nI m)), (0, .ref x)] 41 [] := by
      intro m q R2 P2 hP0 hP1 hq hLq hr
      refine z_iln (pc := 41) hC 0 rfl dX5_runText_41 ?_
      refine z_bipush (pc := 42) (v := nI 80) hC dX5_runText_42 (by decide) ?_
      refine z_icge (pc := 44) hC 80 (by decide) dX5_runText_44 (fun c44 => ?_) (fun c44 => ?_)
      · refine z_iln (pc := 80) hC 0 rfl dX5_runText_80 ?_
        exact hE _ _ _ (Q, P2, T, (p + 1) % 6, upK K p R) _ _ _ dX5_runText_81 rfl ⟨hcd, by rw [← hr]; rfl, xR_P (xR_save hX) hP0⟩ (by rw [← hr]; rfl) (Nat.zero_le _) (Nat.zero_le _)
      · refine z_aln (pc := 47) hC 1 rfl dX5_runText_47 ?_
        refine z_get (pc := 48) hC fX5_29 0 rfl rfl dX5_runText_48 ?_
        refine z_ik (pc := 51) (rest := []) hC vX0_readCommand lX5_160 dX5_runText_51 (c_readCommand (p := q) hX.1 hX.2.2.1 hP0 hP1 hq) (xKt g.2 x u c a h e T R2 (nI (pushN s)) (nI ((p + 1) % 6)) (upK K p R)) xKt_ctx rfl 0 0 rfl rfl rfl rfl rfl (by decide) (Nat.le_of_ble_eq_true rfl) ⟨Nat.zero_le _, Nat.zero_le _⟩ (fun r P' hrd => ?_)
        obtain ⟨rfl, q0, q1, q2⟩ := hrd
        rw [rdC_end (show ¬ q < L by omega)]
        refine z_is_ (y := 0) rfl ?_
        have hP0' := q0
        refine z_ifeq (pc := 54) hC 80 (by decide) dX5_runText_54 (fun c54 => ?_) (fun c54 => absurd c54 (by decide))
        refine z_iln (pc := 80) hC 0 rfl dX5_runText_80 ?_
        exact hE _ _ _ (Q, P', T, (p + 1) % 6, upK K p R) _ _ _ dX5_runText_81 rfl ⟨hcd, by rw [← hr]; rfl, xR_P (xR_save hX) hP0'⟩ (by rw [← hr]; rfl) (Nat.zero_le _) (Nat.zero_le _)
    have loop : ∀ (k m q : Nat) (cs : List Cmd) (R2 : St) (P2 : Nat → Int32), m + k = 80 → L - q ≤ k → P2 0 = nI L → P2 1 = nI q → q ≤ L → GR R2 → prs t L k q = (cs, none) → runC cs R2 m = runC (prs t L 80 0).1 R 0 → Z g C 0 0 (xW g.2 x u c a h e Q P2 T R2 (nI (pushN s)) (nI ((p + 1) % 6)) (upK K p R)) [(1, .int (nI m)), (0, .ref x)] 41 [] := by
      intro k
      induction k using Nat.strongRecOn with
      | _ k ih =>
        intro m q cs R2 P2 hmk hk hP0 hP1 hq hG2 hp hr
        have hk0 : 0 < k := by
          rcases Nat.eq_zero_or_pos k with h0 | h0
          · rw [h0] at hp; simp [prs] at hp
          · exact h0
        refine z_iln (pc := 41) hC 0 rfl dX5_runText_41 ?_
        refine z_bipush (pc := 42) (v := nI 80) hC dX5_runText_42 (by decide) ?_
        refine z_icge (pc := 44) hC 80 (by decide) dX5_runText_44 (fun c44 => absurd c44 (nI_ge (by omega) (by omega))) (fun c44 => ?_)
        refine z_aln (pc := 47) hC 1 rfl dX5_runText_47 ?_
        refine z_get (pc := 48) hC fX5_29 0 rfl rfl dX5_runText_48 ?_
        refine z_ik (pc := 51) (rest := []) hC vX0_readCommand lX5_160 dX5_runText_51 (c_readCommand (p := q) hX.1 hX.2.2.1 hP0 hP1 hq) (xKt g.2 x u c a h e T R2 (nI (pushN s)) (nI ((p + 1) % 6)) (upK K p R)) xKt_ctx rfl 0 0 rfl rfl rfl rfl rfl (by decide) (Nat.le_of_ble_eq_true rfl) ⟨Nat.zero_le _, Nat.zero_le _⟩ (fun r P' hrd => ?_)
        obtain ⟨rfl, q0, q1, q2⟩ := hrd
        have hle := rdC_le (t := t) hq
        rcases hcq : rdC t L q with ⟨_ | c0, q'⟩
        · have hpn := prs_n hcq hk hq
          rw [hpn] at hp
          cases hp
        · rw [hcq] at q1 q2 hle
          dsimp only at q1 q2 hle
          have hfl := q2 c0 rfl
          have hok := rdC_ok hcq
          obtain ⟨k', hk', hpc⟩ := prs_c hcq hk hq
          rw [hpc] at hp
          have hgt := rdC_gt hcq
          refine z_is_ (y := 1) rfl ?_
          refine z_ifeq (pc := 54) hC 80 (by decide) dX5_runText_54 (fun c54 => absurd c54 (by decide)) (fun c54 => ?_)
          refine z_aln (pc := 57) hC 1 rfl dX5_runText_57 ?_
          refine z_g (pc := 58) (rest := []) hC vX5_execute lX5_163 dX5_runText_58 (k_execute hG2 hfl hok) (fun w => w) isCtx_id rfl 0 5 rfl rfl rfl rfl rfl (by decide) (Nat.le_of_ble_eq_true rfl) ⟨Nat.zero_le _, Nat.zero_le _⟩ ?_
          rcases hex : exC c0 R2 with _ | R3
          · refine z_w (ws' := xW g.2 x u c a h e Q P' T R2 (nI (pushN s)) (nI ((p + 1) % 6)) (upK K p R)) rfl ?_
            refine z_is_ (y := 0) rfl ?_
            refine z_ifeq (pc := 61) hC 80 (by decide) dX5_runText_61 (fun c61 => ?_) (fun c61 => absurd c61 (by decide))
            refine z_iln (pc := 80) hC 0 rfl dX5_runText_80 ?_
            exact hE _ _ _ (Q, P', T, (p + 1) % 6, upK K p R) _ _ _ dX5_runText_81 rfl ⟨hcd, by rw [← hr, ← (show c0 :: (aftr t L k' q').1 = cs from congrArg Prod.fst hp), runC_n hex], xR_P (xR_save hX) q0⟩ (by rw [← hr, ← (show c0 :: (aftr t L k' q').1 = cs from congrArg Prod.fst hp), runC_n hex]; try rfl) (Nat.zero_le _) (Nat.zero_le _)
          · refine z_w (ws' := xW g.2 x u c a h e Q P' T R3 (nI (pushN s)) (nI ((p + 1) % 6)) (upK K p R)) rfl ?_
            have hG3 := gr_exC hG2 hok hex
            refine z_is_ (y := 1) rfl ?_
            refine z_ifeq (pc := 61) hC 80 (by decide) dX5_runText_61 (fun c61 => absurd c61 (by decide)) (fun c61 => ?_)
            refine z_iinc (pc := 64) (v := nI (m + 1)) (j := 0) (lv' := [(1, .int (nI (m + 1))), (0, .ref x)]) hC hm (by decide) rfl (up_step m) rfl dX5_runText_64 ?_
            refine z_aln (pc := 67) hC 1 rfl dX5_runText_67 ?_
            refine z_get (pc := 68) hC fX5_29 0 rfl rfl dX5_runText_68 ?_
            refine z_bipush (pc := 71) (v := nI 59) hC dX5_runText_71 (by decide) ?_
            refine z_g (pc := 73) (rest := []) hC vX0_skip lX5_166 dX5_runText_73 (c_skip (P := P') (p := q') (x := 59) hX.1 hX.2.2.1 q0 q1 hle (by omega)) (xKt g.2 x u c a h e T R3 (nI (pushN s)) (nI ((p + 1) % 6)) (upK K p R)) xKt_ctx rfl 0 0 rfl rfl rfl rfl rfl (by decide) (Nat.le_of_ble_eq_true rfl) ⟨Nat.zero_le _, Nat.zero_le _⟩ ?_
            refine z_pop (pc := 76) hC rfl dX5_runText_76 ?_
            refine z_goto (pc := 77) hC 41 (by decide) dX5_runText_77 ?_
            by_cases hLq : L ≤ q'
            · have ha : ¬ at_ t L q' 59 = true := fun z => absurd (at_s z).1 (by omega)
              have eaf : aftr t L k' q' = ([], none) := by simp [aftr, hLq]
              rw [eaf] at hp
              have e2 : cs = [c0] := (congrArg Prod.fst hp).symm
              refine z_w (ws' := xW g.2 x u c a h e Q P' T R3 (nI (pushN s)) (nI ((p + 1) % 6)) (upK K p R)) (by rw [if_neg ha]; rfl) ?_
              refine z_lv [0, 1] rfl ?_
              exact done_ (m + 1) q' R3 P' q0 q1 hle hLq (by rw [← hr, e2, runC_s hex])
            · cases ha : at_ t L q' 59 with
              | false =>
                have eaf : aftr t L k' q' = ([], some q') := by simp [aftr, hLq, ha]
                rw [eaf] at hp
                cases congrArg Prod.snd hp
              | true =>
                have eaf : aftr t L k' q' = prs t L k' (q' + 1) := by simp [aftr, hLq, ha]
                rw [eaf] at hp
                have hs2 := congrArg Prod.snd hp
                refine z_w (ws' := xW g.2 x u c a h e Q (upd P' 1 (nI (q' + 1))) T R3 (nI (pushN s)) (nI ((p + 1) % 6)) (upK K p R)) (by rw [if_pos rfl]; rfl) ?_
                refine z_lv [0, 1] rfl ?_
                exact ih k' (by omega) (m + 1) (q' + 1) (prs t L k' (q' + 1)).1 R3 (upd P' 1 (nI (q' + 1))) (by omega) (by omega) (by simp [upd, q0]) (by simp [upd]) (by omega) hG3 (Prod.ext rfl hs2) (by rw [← hr, ← (show c0 :: (prs t L k' (q' + 1)).1 = cs from congrArg Prod.fst hp), runC_s hex])
    refine z_lv [0, 1] rfl ?_
    exact loop 80 0 0 (prs t L 80 0).1 R (upd P' 1 0) rfl (by have := hX.2.2.1; omega) (by simp [upd, hP0]) (by simp [upd]; rfl) (Nat.zero_le _) hG (Prod.ext rfl hn) rfl
  · have hn : ¬ (prs t L 80 0).2 = none := fun z => c8 (by rw [z]; rfl)
    have hcd : cRun t L = 1 := if_neg hn
    exact hT 11 _ _ _ _ "the text is not valid" _ _ xISE dX5_runText_11 dX5_runText_14 dX5_runText_15 dX5_runText_17 dX5_runText_20 (by decide) (Q, P', T, p, K) ⟨⟨hcd, rfl⟩, (xR_P hX hP0)⟩ rfl
