theorem rdJ_le {t : Nat → Nat} {L p : Nat} (hp : p ≤ L) : (rdJ t L p).2 ≤ L := by
  obtain ⟨p1, v, e1⟩ : ∃ p1 v, rdN t L 99 (L - p) p 0 = (p1, v) := ⟨_, _, rfl⟩
  obtain ⟨_, g1, _⟩ := rdN_ok t L 99 (L - p) p 0 (by omega) hp
  rw [e1] at g1; dsimp only at g1
  simp only [rdJ, e1]
  split
  · exact g1
  · split
    · exact g1
    · rename_i ha
      have ha := (at_s (by simpa using ha)).1
      obtain ⟨p2, m, e2⟩ : ∃ p2 m, rdN t L 20 (L - (p1 + 1)) (p1 + 1) 0 = (p2, m) := ⟨_, _, rfl⟩
      obtain ⟨_, g2, _⟩ := rdN_ok t L 20 (L - (p1 + 1)) (p1 + 1) 0 (by omega) (by omega)
      rw [e2] at g2; dsimp only at g2
      simp only [rdM, e2]
      split
      · exact g2
      · split
        · exact g2
        · rename_i hb
          have hb := (at_s (by simpa using hb)).1
          split
          · dsimp only; omega
          · rename_i hd
            have hd := (dgO_s (by simpa using hd)).1
            dsimp only; omega
theorem rdC_le {t : Nat → Nat} {L p : Nat} (hp : p ≤ L) : (rdC t L p).2 ≤ L := by
  unfold rdC
  split
  · exact hp
  · rename_i h
    split
    · exact rdJ_le (by omega)
    · split
      · have := rdN_ok t L 99 (L - (p + 1)) (p + 1) 0 (by omega) (by omega)
        split
        · exact this.2.1
        · exact this.2.1
      · split
        · dsimp only; omega
        · exact hp
theorem cmd_cases {t : Nat → Nat} {L p : Nat} (ht : ∀ q, q < L → t q < 1000) : (p < L ∧ t p = 114) ∨ (p < L ∧ t p = 119) ∨ (p < L ∧ t p = 99) ∨ (p < L ∧ t p = 116) ∨ (p < L ∧ t p = 100) ∨ ((¬ chC t L p = 114 ∧ ¬ chC t L p = 119 ∧ ¬ chC t L p = 99 ∧ ¬ chC t L p = 116 ∧ ¬ chC t L p = 100) ∧ rdC t L p = (none, p)) := by
  by_cases h : p < L
  · by_cases h1 : t p = 114
    · exact Or.inl ⟨h, h1⟩
    by_cases h2 : t p = 119
    · exact Or.inr (Or.inl ⟨h, h2⟩)
    by_cases h3 : t p = 99
    · exact Or.inr (Or.inr (Or.inl ⟨h, h3⟩))
    by_cases h4 : t p = 116
    · exact Or.inr (Or.inr (Or.inr (Or.inl ⟨h, h4⟩)))
    by_cases h5 : t p = 100
    · exact Or.inr (Or.inr (Or.inr (Or.inr (Or.inl ⟨h, h5⟩))))
    have hk : ∀ x : Nat, x < 1000 → ¬ t p = x → ¬ chC t L p = nI x := fun x hx hne e => hne (at_s ((chC_eq ht hx).mp e)).2
    exact Or.inr (Or.inr (Or.inr (Or.inr (Or.inr ⟨⟨hk 114 (by omega) h1, hk 119 (by omega) h2, hk 99 (by omega) h3, hk 116 (by omega) h4, hk 100 (by omega) h5⟩, by simp [rdC, h, isJ, h1, h2, h3, h4, h5]⟩))))
  · have hk : ∀ x : Nat, x < 1000 → ¬ chC t L p = nI x := fun x hx e => h (at_s ((chC_eq ht hx).mp e)).1
    exact Or.inr (Or.inr (Or.inr (Or.inr (Or.inr ⟨⟨hk 114 (by omega), hk 119 (by omega), hk 99 (by omega), hk 116 (by omega), hk 100 (by omega)⟩, by simp [rdC, h]⟩))))
theorem chC_is {t : Nat → Nat} {L p x : Nat} (h : p < L ∧ t p = x) : chC t L p = nI x := by rw [chC, if_pos h.1, h.2]
theorem rdC_job {t : Nat → Nat} {L p x : Nat} (h : p < L ∧ t p = x) (hx : isJ x = true) : rdC t L p = ((rdJ t L (p + 1)).1.map (fun z => (x, z)), (rdJ t L (p + 1)).2) := by
  unfold rdC; rw [if_neg (by omega), h.2, if_pos hx]
theorem rdC_t {t : Nat → Nat} {L p q v : Nat} (h : p < L ∧ t p = 116) (e : rdN t L 99 (L - (p + 1)) (p + 1) 0 = (q, v)) : rdC t L p = if v = 0 then (none, q) else (some (116, v, 0, 0), q) := by
  unfold rdC; rw [if_neg (by omega), h.2, if_neg (by decide), if_pos rfl, e]
theorem rdC_d {t : Nat → Nat} {L p : Nat} (h : p < L ∧ t p = 100) : rdC t L p = (some (100, 0, 0, 0), p + 1) := by
  unfold rdC; rw [if_neg (by omega), h.2, if_neg (by decide), if_neg (by decide), if_pos rfl]
theorem rdC_v {t : Nat → Nat} {L p : Nat} {c : Cmd} (h : (rdC t L p).1 = some c) : c.1 = 114 ∨ c.1 = 119 ∨ c.1 = 99 ∨ (c.1 = 116 ∧ c.2.2.1 = 0 ∧ c.2.2.2 = 0) ∨ c = (100, 0, 0, 0) := by
  unfold rdC at h
  split at h
  · cases h
  · split at h
    · rename_i hj
      obtain ⟨z, hz, rfl⟩ := Option.map_eq_some_iff.mp h
      simp [isJ] at hj
      dsimp only
      omega
    · split at h
      · split at h
        · cases h
        · cases h; exact Or.inr (Or.inr (Or.inr (Or.inl ⟨rfl, rfl, rfl⟩)))
      · split at h
        · cases h; exact Or.inr (Or.inr (Or.inr (Or.inr rfl)))
        · cases h

set_option maxRecDepth 100000 in
set_option maxHeartbeats 4000000 in
theorem c_rewind {g : zG} {u : Nat → Nat} {Q P : Nat → Int32} : Gv g yX0_rewind cX0_rewind 1 0 [.ref (u 0)] (tW g.2 u Q P) (tW g.2 u Q (upd P 1 0)) := by
  refine fv_entry (by decide) (Nat.le_of_ble_eq_true rfl) (fun C hC hm _ hE => ?_)
  refine z_aln (pc := 0) hC 0 rfl dX0_rewind_0 ?_
  refine z_iconst (pc := 1) (v := 0) hC dX0_rewind_1 (by decide) ?_
  refine z_put (pc := 2) (ws' := tW g.2 u Q (upd P 1 0)) hC fX0_19 p0_2 0 rfl (Nat.le_of_ble_eq_true rfl) (tW_P 1 (by decide)) dX0_rewind_2 ?_
  exact hE _ _ () _ _ _ dX0_rewind_5 trivial rfl (Nat.le_refl _) (Nat.le_refl _)

set_option maxRecDepth 100000 in
set_option maxHeartbeats 4000000 in
theorem c_append {g : zG} {u : Nat → Nat} {Q P : Nat → Int32} {L : Nat} {x : Int32} (hL : L < 80) (h0 : P 0 = nI L) : Gv g yX0_append cX0_append 2 0 [.ref (u 0), .int x] (tW g.2 u Q P) (tW g.2 u (upd Q L x) (upd P 0 (nI (L + 1)))) := by
  refine fv_entry (by decide) (Nat.le_of_ble_eq_true rfl) (fun C hC hm _ hE => ?_)
  refine z_aln (pc := 0) hC 0 rfl dX0_append_0 ?_
  refine z_get (pc := 1) hC fX0_15 0 rfl rfl dX0_append_1 ?_
  refine z_is_ (y := nI L) h0 ?_
  refine z_bipush (pc := 4) (v := nI 80) hC dX0_append_4 (by decide) ?_
  refine z_icge (pc := 6) hC 29 (by decide) dX0_append_6 (fun c6 => absurd c6 (nI_ge (by omega) (by omega))) (fun c6 => ?_)
  refine z_aln (pc := 9) hC 0 rfl dX0_append_9 ?_
  refine z_get (pc := 10) hC fX0_9 0 rfl rfl dX0_append_10 ?_
  refine z_aln (pc := 13) hC 0 rfl dX0_append_13 ?_
  refine z_get (pc := 14) hC fX0_15 0 rfl rfl dX0_append_14 ?_
  refine z_is_ (y := nI L) h0 ?_
  refine z_iln (pc := 17) hC 1 rfl dX0_append_17 ?_
  refine z_iast (pc := 18) (ws' := tW g.2 u (upd Q L x) P) hC 1 rfl dX0_append_18 L rfl (by omega) (by decide) tW_C ?_
  refine z_aln (pc := 19) hC 0 rfl dX0_append_19 ?_
  refine z_dup (pc := 20) hC rfl dX0_append_20 ?_
  refine z_get (pc := 21) hC fX0_15 0 rfl rfl dX0_append_21 ?_
  refine z_is_ (y := nI L) h0 ?_
  refine z_iconst (pc := 24) (v := 1) hC dX0_append_24 (by decide) ?_
  refine z_iadd (pc := 25) (v := nI (L + 1)) hC (nI_1 L) dX0_append_25 ?_
  refine z_put (pc := 26) (ws' := tW g.2 u (upd Q L x) (upd P 0 (nI (L + 1)))) hC fX0_15 p0_1 0 rfl (Nat.le_of_ble_eq_true rfl) (tW_P 0 (by decide)) dX0_append_26 ?_
  exact hE _ _ () _ _ _ dX0_append_29 trivial rfl (Nat.le_refl _) (Nat.le_refl _)

set_option maxRecDepth 100000 in
set_option maxHeartbeats 4000000 in
theorem c_readCommand {g : zG} {u : Nat → Nat} {Q P : Nat → Int32} {t : Nat → Nat} {L p : Nat} (hT : tOK Q t L) (hL : L ≤ 80) (h0 : P 0 = nI L) (h1 : P 1 = nI p) (hp : p ≤ L) : FI (S := Nat → Int32) g yX0_readCommand cX0_readCommand 1 .boolean 5 0 0 [.ref (u 0)] (tW g.2 u Q P) (fun r (P' : Nat → Int32) => r = bI (rdC t L p).1.isSome ∧ P' 0 = nI L ∧ P' 1 = nI (rdC t L p).2 ∧ ∀ c, (rdC t L p).1 = some c → cfl c P') (fun P' => tW g.2 u Q P') := by
  refine fi_entry (by decide) (Nat.le_of_ble_eq_true rfl) (fun C hC hm hE => ?_)
  refine z_aln (pc := 0) hC 0 rfl dX0_readCommand_0 ?_
  refine z_aln (pc := 1) hC 0 rfl dX0_readCommand_1 ?_
  refine z_g (pc := 2) (rest := [.ref (u 0)]) hC vX0_characterHere lX0_48 dX0_readCommand_2 (c_characterHere hT hL h0 h1 hp) (fun w => w) isCtx_id rfl 0 0 rfl rfl rfl rfl rfl (by decide) (Nat.le_of_ble_eq_true rfl) ⟨Nat.le_refl _, Nat.le_refl _⟩ ?_
  refine z_put (pc := 5) (ws' := tW g.2 u Q (upd P 2 (chC t L p))) hC fX0_22 p0_3 0 rfl (Nat.le_of_ble_eq_true rfl) (tW_P 2 (by decide)) dX0_readCommand_5 ?_
  refine z_aln (pc := 8) hC 0 rfl dX0_readCommand_8 ?_
  refine z_get (pc := 9) hC fX0_22 0 rfl rfl dX0_readCommand_9 ?_
  refine z_is_ (y := chC t L p) (upd_eq _ _ _) ?_
  rcases cmd_cases (p := p) hT.lt with he | he | he | he | he | he
  · refine z_lookup (pc := 12) (off := 52) hC 64 dX0_readCommand_12 (by decide) (by decide) (sw_hit (k := 114) (chC_is he) (by decide)) ?_
    refine z_aln (pc := 64) hC 0 rfl dX0_readCommand_64 ?_
    refine z_iconst (pc := 65) (v := 0) hC dX0_readCommand_65 (by decide) ?_
    refine z_i0 (pc := 66) (rest := []) hC vX0_readSubmission lX0_52 dX0_readCommand_66 (c_readSubmission (P := upd P 2 (chC t L p)) (s := 0) hT hL (by simp [upd, h0]) (by simp [upd, h1]) he.1) rfl 0 0 rfl rfl rfl rfl rfl (by decide) (Nat.le_of_ble_eq_true rfl) ⟨Nat.le_refl _, Nat.le_refl _⟩ (fun r P1 hp => ?_)
    obtain ⟨rfl, q0, q1, q2, q3⟩ := hp
    exact hE _ _ _ _ _ _ _ dX0_readCommand_69 (bI_nar _) (by rw [rdC_job he (by decide)]; exact ⟨by rw [Option.isSome_map], q0, q1, fun c hc => by
    obtain ⟨z, hz, rfl⟩ := Option.map_eq_some_iff.mp hc
    obtain ⟨a3, a4, a5, a6⟩ := q3 z hz
    exact ⟨by rw [q2]; exact (upd_eq _ _ _).trans (chC_is he), fun e => absurd e (show ¬ (114 : Nat) = 116 by decide), fun _ => ⟨a3, a4, a5, a6⟩⟩⟩) rfl (Nat.le_refl _) (Nat.le_refl _)
  · refine z_lookup (pc := 12) (off := 58) hC 70 dX0_readCommand_12 (by decide) (by decide) (sw_hit (k := 119) (chC_is he) (by decide)) ?_
    refine z_aln (pc := 70) hC 0 rfl dX0_readCommand_70 ?_
    refine z_iconst (pc := 71) (v := 1) hC dX0_readCommand_71 (by decide) ?_
    refine z_i0 (pc := 72) (rest := []) hC vX0_readSubmission lX0_52 dX0_readCommand_72 (c_readSubmission (P := upd P 2 (chC t L p)) (s := 1) hT hL (by simp [upd, h0]) (by simp [upd, h1]) he.1) rfl 0 0 rfl rfl rfl rfl rfl (by decide) (Nat.le_of_ble_eq_true rfl) ⟨Nat.le_refl _, Nat.le_refl _⟩ (fun r P1 hp => ?_)
    obtain ⟨rfl, q0, q1, q2, q3⟩ := hp
    exact hE _ _ _ _ _ _ _ dX0_readCommand_75 (bI_nar _) (by rw [rdC_job he (by decide)]; exact ⟨by rw [Option.isSome_map], q0, q1, fun c hc => by
    obtain ⟨z, hz, rfl⟩ := Option.map_eq_some_iff.mp hc
    obtain ⟨a3, a4, a5, a6⟩ := q3 z hz
    exact ⟨by rw [q2]; exact (upd_eq _ _ _).trans (chC_is he), fun e => absurd e (show ¬ (119 : Nat) = 116 by decide), fun _ => ⟨a3, a4, a5, a6⟩⟩⟩) rfl (Nat.le_refl _) (Nat.le_refl _)
  · refine z_lookup (pc := 12) (off := 64) hC 76 dX0_readCommand_12 (by decide) (by decide) (sw_hit (k := 99) (chC_is he) (by decide)) ?_
    refine z_aln (pc := 76) hC 0 rfl dX0_readCommand_76 ?_
    refine z_iconst (pc := 77) (v := 2) hC dX0_readCommand_77 (by decide) ?_
    refine z_i0 (pc := 78) (rest := []) hC vX0_readSubmission lX0_52 dX0_readCommand_78 (c_readSubmission (P := upd P 2 (chC t L p)) (s := 2) hT hL (by simp [upd, h0]) (by simp [upd, h1]) he.1) rfl 0 0 rfl rfl rfl rfl rfl (by decide) (Nat.le_of_ble_eq_true rfl) ⟨Nat.le_refl _, Nat.le_refl _⟩ (fun r P1 hp => ?_)
    obtain ⟨rfl, q0, q1, q2, q3⟩ := hp
    exact hE _ _ _ _ _ _ _ dX0_readCommand_81 (bI_nar _) (by rw [rdC_job he (by decide)]; exact ⟨by rw [Option.isSome_map], q0, q1, fun c hc => by
    obtain ⟨z, hz, rfl⟩ := Option.map_eq_some_iff.mp hc
    obtain ⟨a3, a4, a5, a6⟩ := q3 z hz
    exact ⟨by rw [q2]; exact (upd_eq _ _ _).trans (chC_is he), fun e => absurd e (show ¬ (99 : Nat) = 116 by decide), fun _ => ⟨a3, a4, a5, a6⟩⟩⟩) rfl (Nat.le_refl _) (Nat.le_refl _)
  · refine z_lookup (pc := 12) (off := 70) hC 82 dX0_readCommand_12 (by decide) (by decide) (sw_hit (k := 116) (chC_is he) (by decide)) ?_
    refine z_aln (pc := 82) hC 0 rfl dX0_readCommand_82 ?_
    refine z_dup (pc := 83) hC rfl dX0_readCommand_83 ?_
    refine z_get (pc := 84) hC fX0_19 0 rfl rfl dX0_readCommand_84 ?_
    refine z_is_ (y := nI p) ((upd_ne _ _ (by decide)).trans h1) ?_
    refine z_iconst (pc := 87) (v := 1) hC dX0_readCommand_87 (by decide) ?_
    refine z_iadd (pc := 88) (v := nI (p + 1)) hC (nI_1 p) dX0_readCommand_88 ?_
    obtain ⟨q, v, e1⟩ : ∃ q v, rdN t L 99 (L - (p + 1)) (p + 1) 0 = (q, v) := ⟨_, _, rfl⟩
    obtain ⟨f1, f2, f3⟩ := rdN_ok t L 99 (L - (p + 1)) (p + 1) 0 (by omega) he.1
    rw [e1] at f1 f2 f3
    dsimp only at f1 f2 f3
    refine z_put (pc := 89) (ws' := tW g.2 u Q (upd (upd P 2 (chC t L p)) 1 (nI (p + 1)))) hC fX0_19 p0_2 0 rfl (Nat.le_of_ble_eq_true rfl) (tW_P 1 (by decide)) dX0_readCommand_89 ?_
    refine z_aln (pc := 92) hC 0 rfl dX0_readCommand_92 ?_
    refine z_aln (pc := 93) hC 0 rfl dX0_readCommand_93 ?_
    refine z_bipush (pc := 94) (v := nI 99) hC dX0_readCommand_94 (by decide) ?_
    refine z_g (pc := 96) (rest := [.ref (u 0)]) hC vX0_readNumber lX0_56 dX0_readCommand_96 (c_readNumber (P := upd (upd P 2 (chC t L p)) 1 (nI (p + 1))) (p := p + 1) (hi := 99) hT hL (by simp [upd, h0]) (by simp [upd]) he.1 (by omega)) (fun w => w) isCtx_id rfl 0 0 rfl rfl rfl rfl rfl (by decide) (Nat.le_of_ble_eq_true rfl) ⟨Nat.le_refl _, Nat.le_refl _⟩ ?_
    simp only [e1]
    refine z_put (pc := 99) (ws' := tW g.2 u Q (upd (upd (upd (upd P 2 (chC t L p)) 1 (nI (p + 1))) 1 (nI q)) 5 (nI v))) hC fX0_31 p0_6 0 rfl (Nat.le_of_ble_eq_true rfl) (tW_P 5 (by decide)) dX0_readCommand_99 ?_
    refine z_aln (pc := 102) hC 0 rfl dX0_readCommand_102 ?_
    refine z_get (pc := 103) hC fX0_31 0 rfl rfl dX0_readCommand_103 ?_
    refine z_ifle (pc := 106) hC 113 (by decide) dX0_readCommand_106 (fun c106 => ?_) (fun c106 => ?_)
    · have hv : v = 0 := (nI_gt0 (by omega)).mp (by simpa [upd] using c106)
      refine z_iconst (pc := 113) (v := 0) hC dX0_readCommand_113 (by decide) ?_
      exact hE _ _ _ _ _ _ _ dX0_readCommand_114 rfl (by rw [rdC_t he e1, if_pos hv]; exact ⟨rfl, by simp [upd, h0], by simp [upd], fun c hc => by cases hc⟩) rfl (Nat.le_refl _) (Nat.le_refl _)
    · have hv : ¬ v = 0 := fun e => c106 (by simp [upd, e]; decide)
      refine z_iconst (pc := 109) (v := 1) hC dX0_readCommand_109 (by decide) ?_
      refine z_goto (pc := 110) hC 114 (by decide) dX0_readCommand_110 ?_
      exact hE _ _ _ _ _ _ _ dX0_readCommand_114 rfl (by rw [rdC_t he e1, if_neg hv]; exact ⟨rfl, by simp [upd, h0], by simp [upd], fun c hc => by cases hc; exact ⟨by simp [upd, chC_is he], fun _ => by simp [upd], fun e => absurd e (show ¬ isJ 116 = true by decide)⟩⟩) rfl (Nat.le_refl _) (Nat.le_refl _)
  · refine z_lookup (pc := 12) (off := 103) hC 115 dX0_readCommand_12 (by decide) (by decide) (sw_hit (k := 100) (chC_is he) (by decide)) ?_
    refine z_aln (pc := 115) hC 0 rfl dX0_readCommand_115 ?_
    refine z_dup (pc := 116) hC rfl dX0_readCommand_116 ?_
    refine z_get (pc := 117) hC fX0_19 0 rfl rfl dX0_readCommand_117 ?_
    refine z_is_ (y := nI p) ((upd_ne _ _ (by decide)).trans h1) ?_
    refine z_iconst (pc := 120) (v := 1) hC dX0_readCommand_120 (by decide) ?_
    refine z_iadd (pc := 121) (v := nI (p + 1)) hC (nI_1 p) dX0_readCommand_121 ?_
    refine z_put (pc := 122) (ws' := tW g.2 u Q (upd (upd P 2 (chC t L p)) 1 (nI (p + 1)))) hC fX0_19 p0_2 0 rfl (Nat.le_of_ble_eq_true rfl) (tW_P 1 (by decide)) dX0_readCommand_122 ?_
    refine z_iconst (pc := 125) (v := 1) hC dX0_readCommand_125 (by decide) ?_
    exact hE _ _ _ _ _ _ _ dX0_readCommand_126 rfl (by rw [rdC_d he]; exact ⟨rfl, by simp [upd, h0], by simp [upd], fun c hc => by cases hc; exact ⟨by simp [upd, chC_is he], fun e => absurd e (by decide), fun e => absurd e (by decide)⟩⟩) rfl (Nat.le_refl _) (Nat.le_refl _)
  · refine z_lookup (pc := 12) (off := 115) hC 127 dX0_readCommand_12 (by decide) (by decide) ((lv_osw he.1.2.2.1 (by decide)).trans ((lv_osw he.1.2.2.2.2 (by decide)).trans ((lv_osw he.1.1 (by decide)).trans ((lv_osw he.1.2.2.2.1 (by decide)).trans (lv_osw he.1.2.1 (by decide)))))) ?_
    refine z_iconst (pc := 127) (v := 0) hC dX0_readCommand_127 (by decide) ?_
    exact hE _ _ _ _ _ _ _ dX0_readCommand_128 rfl (by rw [he.2]; exact ⟨rfl, by simp [upd, h0], by simp [upd, h1], fun c hc => by cases hc⟩) rfl (Nat.le_refl _) (Nat.le_refl _)

set_option maxRecDepth 100000 in
set_option maxHeartbeats 4000000 in
theorem c_findError {g : zG} {u : Nat → Nat} {Q P : Nat → Int32} {t : Nat → Nat} {L : Nat} (hT : tOK Q t L) (hL : L ≤ 80) (h0 : P 0 = nI L) : FI (S := Nat → Int32) g yX0_findError cX0_findError 2 .int 6 0 0 [.ref (u 0)] (tW g.2 u Q P) (fun r (P' : Nat → Int32) => r = errV (prs t L 80 0).2 ∧ P' 0 = nI L) (fun P' => tW g.2 u Q P') := by
  refine fi_entry (by decide) (Nat.le_of_ble_eq_true rfl) (fun C hC hm hE => ?_)
  have loop : ∀ (k m p : Nat) (P : Nat → Int32), m + k = 80 → p ≤ L → P 0 = nI L → P 1 = nI p → errV (prs t L k p).2 = errV (prs t L 80 0).2 → Z g C 0 0 (tW g.2 u Q P) [(1, .int (nI m)), (0, .ref (u 0))] 6 [] := by
    intro k
    induction k with
    | zero =>
      intro m p P hk hp h0 h1 hr
      refine z_iln (pc := 6) hC 0 rfl dX0_findError_6 ?_
      refine z_bipush (pc := 7) (v := nI 80) hC dX0_findError_7 (by decide) ?_
      refine z_icge (pc := 9) hC 57 (by decide) dX0_findError_9 (fun c9 => ?_) (fun c9 => absurd (nI_le (by omega) (by omega)) c9)
      refine z_aln (pc := 57) hC 1 rfl dX0_findError_57 ?_
      refine z_get (pc := 58) hC fX0_19 0 rfl rfl dX0_findError_58 ?_
      refine z_is_ (y := nI p) h1 ?_
      exact hE _ _ _ _ _ _ _ dX0_findError_61 rfl ⟨by rw [← hr]; rfl, h0⟩ rfl (Nat.le_refl _) (Nat.le_refl _)
    | succ k ih =>
      intro m p P hk hp h0 h1 hr
      refine z_iln (pc := 6) hC 0 rfl dX0_findError_6 ?_
      refine z_bipush (pc := 7) (v := nI 80) hC dX0_findError_7 (by decide) ?_
      refine z_icge (pc := 9) hC 57 (by decide) dX0_findError_9 (fun c9 => absurd c9 (nI_ge (by omega) (by omega))) (fun c9 => ?_)
      refine z_aln (pc := 12) hC 1 rfl dX0_findError_12 ?_
      refine z_i0 (pc := 13) (rest := []) hC vX0_readCommand lX0_40 dX0_findError_13 (c_readCommand hT hL h0 h1 hp) rfl 0 0 rfl rfl rfl rfl rfl (by decide) (Nat.le_of_ble_eq_true rfl) ⟨Nat.le_refl _, Nat.le_refl _⟩ (fun r P1 hq => ?_)
      obtain ⟨rfl, q0, q1, -⟩ := hq
      have hle := rdC_le (t := t) hp
      rcases hc : rdC t L p with ⟨_ | c, q⟩
      · rw [hc] at q1 hle
        dsimp only at q1 hle
        refine z_is_ (y := 0) rfl ?_
        refine z_ifne (pc := 16) hC 24 (by decide) dX0_findError_16 (fun c16 => absurd c16 (by decide)) (fun c16 => ?_)
        refine z_aln (pc := 19) hC 1 rfl dX0_findError_19 ?_
        refine z_get (pc := 20) hC fX0_19 0 rfl rfl dX0_findError_20 ?_
        refine z_is_ (y := nI q) q1 ?_
        exact hE _ _ _ _ _ _ _ dX0_findError_23 rfl ⟨by rw [← hr]; simp [prs, hc, errV], q0⟩ rfl (Nat.le_refl _) (Nat.le_refl _)
      · rw [hc] at q1 hle
        dsimp only at q1 hle
        refine z_is_ (y := 1) rfl ?_
        refine z_ifne (pc := 16) hC 24 (by decide) dX0_findError_16 (fun c16 => ?_) (fun c16 => absurd c16 (by decide))
        refine z_aln (pc := 24) hC 1 rfl dX0_findError_24 ?_
        refine z_get (pc := 25) hC fX0_19 0 rfl rfl dX0_findError_25 ?_
        refine z_is_ (y := nI q) q1 ?_
        refine z_aln (pc := 28) hC 1 rfl dX0_findError_28 ?_
        refine z_get (pc := 29) hC fX0_15 0 rfl rfl dX0_findError_29 ?_
        refine z_is_ (y := nI L) q0 ?_
        refine z_iclt (pc := 32) hC 37 (by decide) dX0_findError_32 (fun c32 => ?_) (fun c32 => ?_)
        · have hlt : q < L := (nI_ltI (by omega) (by omega)).mp c32
          refine z_aln (pc := 37) hC 1 rfl dX0_findError_37 ?_
          refine z_bipush (pc := 38) (v := nI 59) hC dX0_findError_38 (by decide) ?_
          refine z_g (pc := 40) (rest := []) hC vX0_skip lX0_44 dX0_findError_40 (c_skip (P := P1) (p := q) (x := 59) hT hL q0 q1 (by omega) (by omega)) (fun w => w) isCtx_id rfl 0 0 rfl rfl rfl rfl rfl (by decide) (Nat.le_of_ble_eq_true rfl) ⟨Nat.le_refl _, Nat.le_refl _⟩ ?_
          refine z_ifne (pc := 43) hC 51 (by decide) dX0_findError_43 (fun c43 => ?_) (fun c43 => ?_)
          · have ha : at_ t L q 59 = true := bI_n.mp c43
            refine z_w (ws' := tW g.2 u Q (upd P1 1 (nI (q + 1)))) (by rw [if_pos ha]) ?_
            refine z_iinc (pc := 51) (v := nI (m + 1)) (j := 0) (lv' := [(1, .int (nI (m + 1))), (0, .ref (u 0))]) hC hm (by decide) rfl (up_step m) rfl dX0_findError_51 ?_
            refine z_goto (pc := 54) hC 6 (by decide) dX0_findError_54 ?_
            refine z_lv [0, 1] rfl ?_
            exact ih (m + 1) (q + 1) _ (by omega) (by omega) (by simp [upd, q0]) (by simp [upd]) (by rw [← hr]; simp [prs, hc, Nat.not_le.mpr hlt, ha])
          · have ha : at_ t L q 59 = false := bI_0.mp c43
            refine z_w (ws' := tW g.2 u Q P1) (by rw [if_neg (by simp [ha])]) ?_
            refine z_aln (pc := 46) hC 1 rfl dX0_findError_46 ?_
            refine z_get (pc := 47) hC fX0_19 0 rfl rfl dX0_findError_47 ?_
            refine z_is_ (y := nI q) q1 ?_
            exact hE _ _ _ _ _ _ _ dX0_findError_50 rfl ⟨by rw [← hr]; simp [prs, hc, Nat.not_le.mpr hlt, ha, errV], q0⟩ rfl (Nat.le_refl _) (Nat.le_refl _)
        · have hlt : L ≤ q := Nat.le_of_not_lt (fun z => c32 ((nI_ltI (by omega) (by omega)).mpr z))
          refine z_iconst (pc := 35) (v := -1) hC dX0_findError_35 (by decide) ?_
          exact hE _ _ _ _ _ _ _ dX0_findError_36 rfl ⟨by rw [← hr]; simp [prs, hc, hlt, errV], q0⟩ rfl (Nat.le_refl _) (Nat.le_refl _)
  refine z_aln (pc := 0) hC 0 rfl dX0_findError_0 ?_
  refine z_gv (pc := 1) (rest := []) hC vX0_rewind lX0_37 dX0_findError_1 c_rewind (fun w => w) isCtx_id rfl 0 0 rfl rfl rfl rfl rfl (by decide) (Nat.le_of_ble_eq_true rfl) ⟨Nat.le_refl _, Nat.le_refl _⟩ ?_
  refine z_iconst (pc := 4) (v := nI 0) hC dX0_findError_4 (by decide) ?_
  refine z_isn (pc := 5) (lv' := [(1, .int (nI 0)), (0, .ref (u 0))]) hC hm (by decide) rfl dX0_findError_5 ?_
  refine z_lv [0, 1] rfl ?_
  exact loop 80 0 0 _ rfl (Nat.zero_le _) (by simp [upd, h0]) (by simp [upd]; rfl) rfl
