set_option maxRecDepth 100000 in
set_option maxHeartbeats 4000000 in
theorem c_characterHere {g : zG} {u : Nat → Nat} {Q P : Nat → Int32} {t : Nat → Nat} {L p : Nat} (hT : tOK Q t L) (hL : L ≤ 80) (h0 : P 0 = nI L) (h1 : P 1 = nI p) (hp : p ≤ L) : Gi g yX0_characterHere cX0_characterHere 1 .int 1 [.ref (u 0)] (tW g.2 u Q P) (chC t L p) (tW g.2 u Q P) := by
  refine fi_entry (by decide) (Nat.le_of_ble_eq_true rfl) (fun C hC hm hE => ?_)
  refine z_aln (pc := 0) hC 0 rfl dX0_characterHere_0 ?_
  refine z_get (pc := 1) hC fX0_19 0 rfl rfl dX0_characterHere_1 ?_
  refine z_is_ (y := nI p) h1 ?_
  refine z_iflt (pc := 4) hC 30 (by decide) dX0_characterHere_4 (fun c4 => absurd c4 (nI_nlt0 (by omega))) (fun c4 => ?_)
  refine z_aln (pc := 7) hC 0 rfl dX0_characterHere_7 ?_
  refine z_get (pc := 8) hC fX0_19 0 rfl rfl dX0_characterHere_8 ?_
  refine z_is_ (y := nI p) h1 ?_
  refine z_aln (pc := 11) hC 0 rfl dX0_characterHere_11 ?_
  refine z_get (pc := 12) hC fX0_15 0 rfl rfl dX0_characterHere_12 ?_
  refine z_is_ (y := nI L) h0 ?_
  refine z_icge (pc := 15) hC 30 (by decide) dX0_characterHere_15 (fun c15 => ?_) (fun c15 => ?_)
  · have hlt : ¬ p < L := Nat.not_lt.mpr ((nI_leI (by omega) (by omega)).mp c15)
    refine z_iconst (pc := 30) (v := -1) hC dX0_characterHere_30 (by decide) ?_
    exact hE _ _ _ () _ _ _ dX0_characterHere_31 rfl (by simp [chC, hlt]) rfl (Nat.zero_le _) (Nat.zero_le _)
  · have hlt : p < L := Nat.lt_of_not_le (fun q => c15 (nI_le q (by omega)))
    refine z_aln (pc := 18) hC 0 rfl dX0_characterHere_18 ?_
    refine z_get (pc := 19) hC fX0_9 0 rfl rfl dX0_characterHere_19 ?_
    refine z_aln (pc := 22) hC 0 rfl dX0_characterHere_22 ?_
    refine z_get (pc := 23) hC fX0_19 0 rfl rfl dX0_characterHere_23 ?_
    refine z_is_ (y := nI p) h1 ?_
    refine z_iald (pc := 26) hC 1 rfl dX0_characterHere_26 p rfl (by omega) (by decide) ?_
    refine z_is_ (y := nI (t p)) (hT p hlt).1 ?_
    refine z_goto (pc := 27) hC 31 (by decide) dX0_characterHere_27 ?_
    exact hE _ _ _ () _ _ _ dX0_characterHere_31 rfl (by simp [chC, hlt]) rfl (Nat.zero_le _) (Nat.zero_le _)

set_option maxRecDepth 100000 in
set_option maxHeartbeats 4000000 in
theorem c_digitHere {g : zG} {u : Nat → Nat} {Q P : Nat → Int32} {t : Nat → Nat} {L p : Nat} (hT : tOK Q t L) (hL : L ≤ 80) (h0 : P 0 = nI L) (h1 : P 1 = nI p) (hp : p ≤ L) : Gi g yX0_digitHere cX0_digitHere 2 .int 2 [.ref (u 0)] (tW g.2 u Q P) (dgC t L p) (tW g.2 u Q P) := by
  refine fi_entry (by decide) (Nat.le_of_ble_eq_true rfl) (fun C hC hm hE => ?_)
  refine z_aln (pc := 0) hC 0 rfl dX0_digitHere_0 ?_
  refine z_g (pc := 1) (rest := []) hC vX0_characterHere lX0_48 dX0_digitHere_1 (c_characterHere hT hL h0 h1 hp) (fun w => w) isCtx_id rfl 0 0 rfl rfl rfl rfl rfl (by decide) (Nat.le_of_ble_eq_true rfl) ⟨Nat.zero_le _, Nat.zero_le _⟩ ?_
  refine z_isn (pc := 4) (lv' := [(1, .int (chC t L p)), (0, .ref (u 0))]) hC hm (by decide) rfl dX0_digitHere_4 ?_
  refine z_iln (pc := 5) hC 0 rfl dX0_digitHere_5 ?_
  refine z_bipush (pc := 6) (v := 48) hC dX0_digitHere_6 (by decide) ?_
  refine z_bipush (pc := 8) (v := 57) hC dX0_digitHere_8 (by decide) ?_
  refine z_gsN (pc := 10) (rest := []) hC sX5_isWithin nX0_66 dX0_digitHere_10 (c_within (x := chC t L p) (y := 48) (z := 57)) rfl rfl (by decide) (Nat.le_of_ble_eq_true rfl) ⟨Nat.zero_le _, Nat.zero_le _⟩ ?_
  refine z_is_ (y := bI (dgO t L p)) (by rw [inB_dg hT.lt]) ?_
  refine z_ifeq (pc := 13) hC 23 (by decide) dX0_digitHere_13 (fun c13 => ?_) (fun c13 => ?_)
  · refine z_iconst (pc := 23) (v := -1) hC dX0_digitHere_23 (by decide) ?_
    exact hE _ _ _ () _ _ _ dX0_digitHere_24 rfl (by simp [dgC, bI_0.mp c13]) rfl (Nat.zero_le _) (Nat.zero_le _)
  · have hd : dgO t L p = true := bI_n.mp c13
    obtain ⟨hlt, hd1, hd2⟩ : p < L ∧ 48 ≤ t p ∧ t p ≤ 57 := by simpa [dgO] using hd
    refine z_iln (pc := 16) hC 0 rfl dX0_digitHere_16 ?_
    refine z_bipush (pc := 17) (v := 48) hC dX0_digitHere_17 (by decide) ?_
    refine z_isub (pc := 19) (v := nI (t p - 48)) hC (by rw [show chC t L p = nI (t p) from if_pos hlt]; exact pk_sub hd1) dX0_digitHere_19 ?_
    refine z_goto (pc := 20) hC 24 (by decide) dX0_digitHere_20 ?_
    exact hE _ _ _ () _ _ _ dX0_digitHere_24 rfl (by simp [dgC, hd]) rfl (Nat.zero_le _) (Nat.zero_le _)

set_option maxRecDepth 100000 in
set_option maxHeartbeats 4000000 in
theorem c_skip {g : zG} {u : Nat → Nat} {Q P : Nat → Int32} {t : Nat → Nat} {L p : Nat} {x : Nat} (hT : tOK Q t L) (hL : L ≤ 80) (h0 : P 0 = nI L) (h1 : P 1 = nI p) (hp : p ≤ L) (hx : x < 1000) : Gi g yX0_skip cX0_skip 2 .boolean 2 [.ref (u 0), .int (nI x)] (tW g.2 u Q P) (bI (at_ t L p x)) (tW g.2 u Q (if at_ t L p x = true then upd P 1 (nI (p + 1)) else P)) := by
  refine fi_entry (by decide) (Nat.le_of_ble_eq_true rfl) (fun C hC hm hE => ?_)
  refine z_aln (pc := 0) hC 0 rfl dX0_skip_0 ?_
  refine z_g (pc := 1) (rest := []) hC vX0_characterHere lX0_48 dX0_skip_1 (c_characterHere hT hL h0 h1 hp) (fun w => w) isCtx_id rfl 0 0 rfl rfl rfl rfl rfl (by decide) (Nat.le_of_ble_eq_true rfl) ⟨Nat.zero_le _, Nat.zero_le _⟩ ?_
  refine z_iln (pc := 4) hC 1 rfl dX0_skip_4 ?_
  refine z_iceq (pc := 5) hC 10 (by decide) dX0_skip_5 (fun c5 => ?_) (fun c5 => ?_)
  · refine z_aln (pc := 10) hC 0 rfl dX0_skip_10 ?_
    refine z_dup (pc := 11) hC rfl dX0_skip_11 ?_
    refine z_get (pc := 12) hC fX0_19 0 rfl rfl dX0_skip_12 ?_
    refine z_is_ (y := nI p) h1 ?_
    refine z_iconst (pc := 15) (v := 1) hC dX0_skip_15 (by decide) ?_
    refine z_iadd (pc := 16) (v := nI (p + 1)) hC (nI_1 p) dX0_skip_16 ?_
    refine z_put (pc := 17) (ws' := tW g.2 u Q (upd P 1 (nI (p + 1)))) hC fX0_19 p0_2 0 rfl (Nat.le_of_ble_eq_true rfl) (tW_P 1 (by decide)) dX0_skip_17 ?_
    refine z_iconst (pc := 20) (v := 1) hC dX0_skip_20 (by decide) ?_
    exact hE _ _ _ () _ _ _ dX0_skip_21 rfl (bI_t ((chC_eq hT.lt hx).mp c5)) (by rw [if_pos ((chC_eq hT.lt hx).mp c5)]) (Nat.zero_le _) (Nat.zero_le _)
  · refine z_iconst (pc := 8) (v := 0) hC dX0_skip_8 (by decide) ?_
    exact hE _ _ _ () _ _ _ dX0_skip_9 rfl (bI_f (by simpa using fun z => c5 ((chC_eq hT.lt hx).mpr z))) (by rw [if_neg (fun z => c5 ((chC_eq hT.lt hx).mpr z))]) (Nat.zero_le _) (Nat.zero_le _)

set_option maxRecDepth 100000 in
set_option maxHeartbeats 4000000 in
theorem c_readPriority {g : zG} {u : Nat → Nat} {Q P : Nat → Int32} {t : Nat → Nat} {L p : Nat} (hT : tOK Q t L) (hL : L ≤ 80) (h0 : P 0 = nI L) (h1 : P 1 = nI p) (hp : p ≤ L) : Gi g yX0_readPriority cX0_readPriority 2 .boolean 3 [.ref (u 0)] (tW g.2 u Q P) (bI (dgO t L p)) (tW g.2 u Q (if dgO t L p = true then upd (upd P 6 (nI (t p - 48))) 1 (nI (p + 1)) else P)) := by
  refine fi_entry (by decide) (Nat.le_of_ble_eq_true rfl) (fun C hC hm hE => ?_)
  refine z_aln (pc := 0) hC 0 rfl dX0_readPriority_0 ?_
  refine z_g (pc := 1) (rest := []) hC vX0_digitHere lX0_63 dX0_readPriority_1 (c_digitHere hT hL h0 h1 hp) (fun w => w) isCtx_id rfl 0 0 rfl rfl rfl rfl rfl (by decide) (Nat.le_of_ble_eq_true rfl) ⟨Nat.zero_le _, Nat.zero_le _⟩ ?_
  refine z_isn (pc := 4) (lv' := [(1, .int (dgC t L p)), (0, .ref (u 0))]) hC hm (by decide) rfl dX0_readPriority_4 ?_
  refine z_iln (pc := 5) hC 0 rfl dX0_readPriority_5 ?_
  refine z_iconst (pc := 6) (v := -1) hC dX0_readPriority_6 (by decide) ?_
  refine z_icne (pc := 7) hC 12 (by decide) dX0_readPriority_7 (fun c7 => ?_) (fun c7 => ?_)
  · have hd : dgO t L p = true := by
      apply Classical.byContradiction
      intro z
      exact c7 (by rw [dgC, if_neg z])
    refine z_aln (pc := 12) hC 1 rfl dX0_readPriority_12 ?_
    refine z_iln (pc := 13) hC 0 rfl dX0_readPriority_13 ?_
    refine z_put (pc := 14) (ws' := tW g.2 u Q (upd P 6 (dgC t L p))) hC fX0_34 p0_7 0 rfl (Nat.le_of_ble_eq_true rfl) (tW_P 6 (by decide)) dX0_readPriority_14 ?_
    refine z_aln (pc := 17) hC 1 rfl dX0_readPriority_17 ?_
    refine z_dup (pc := 18) hC rfl dX0_readPriority_18 ?_
    refine z_get (pc := 19) hC fX0_19 0 rfl rfl dX0_readPriority_19 ?_
    refine z_is_ (y := nI p) ((upd_ne _ _ (by decide)).trans h1) ?_
    refine z_iconst (pc := 22) (v := 1) hC dX0_readPriority_22 (by decide) ?_
    refine z_iadd (pc := 23) (v := nI (p + 1)) hC (nI_1 p) dX0_readPriority_23 ?_
    refine z_put (pc := 24) (ws' := tW g.2 u Q (upd (upd P 6 (dgC t L p)) 1 (nI (p + 1)))) hC fX0_19 p0_2 0 rfl (Nat.le_of_ble_eq_true rfl) (tW_P 1 (by decide)) dX0_readPriority_24 ?_
    refine z_iconst (pc := 27) (v := 1) hC dX0_readPriority_27 (by decide) ?_
    exact hE _ _ _ () _ _ _ dX0_readPriority_28 rfl (bI_t hd) (by rw [if_pos hd, dgC, if_pos hd]) (Nat.zero_le _) (Nat.zero_le _)
  · have hd : ¬ dgO t L p = true := fun z => by
      rw [dgC, if_pos z] at c7
      have hq : p < L := by simp [dgO] at z; exact z.1
      exact nI_ne (n := t p - 48) (by have := (hT p hq).2.2; omega) c7
    refine z_iconst (pc := 10) (v := 0) hC dX0_readPriority_10 (by decide) ?_
    exact hE _ _ _ () _ _ _ dX0_readPriority_11 rfl (bI_f (by simpa using hd)) (by rw [if_neg hd]) (Nat.zero_le _) (Nat.zero_le _)

set_option maxRecDepth 100000 in
set_option maxHeartbeats 4000000 in
theorem c_readNumber {g : zG} {u : Nat → Nat} {Q P : Nat → Int32} {t : Nat → Nat} {L p : Nat} {hi : Nat} (hT : tOK Q t L) (hL : L ≤ 80) (h0 : P 0 = nI L) (h1 : P 1 = nI p) (hp : p ≤ L) (hhi : hi ≤ 99) : Gi g yX0_readNumber cX0_readNumber 5 .int 3 [.ref (u 0), .int (nI hi)] (tW g.2 u Q P) (nI (rdN t L hi (L - p) p 0).2) (tW g.2 u Q (upd P 1 (nI (rdN t L hi (L - p) p 0).1))) := by
  refine fi_entry (by decide) (Nat.le_of_ble_eq_true rfl) (fun C hC hm hE => ?_)
  obtain ⟨rr, hrr⟩ : ∃ rr, rr = rdN t L hi (L - p) p 0 := ⟨_, rfl⟩
  rw [← hrr] at hE
  have loop : ∀ (k p n : Nat), L - p = k → p ≤ L → n ≤ hi → rdN t L hi k p n = rr → Z g C 0 0 (tW g.2 u Q (upd P 1 (nI p))) [(2, .int (nI n)), (0, .ref (u 0)), (1, .int (nI hi))] 2 [] := by
    intro k
    induction k with
    | zero =>
      intro p n hk hp hn hr
      refine z_aln (pc := 2) hC 1 rfl dX0_readNumber_2 ?_
      refine z_get (pc := 3) hC fX0_19 0 rfl rfl dX0_readNumber_3 ?_
      refine z_is_ (y := nI p) (upd_eq _ _ _) ?_
      refine z_aln (pc := 6) hC 1 rfl dX0_readNumber_6 ?_
      refine z_get (pc := 7) hC fX0_15 0 rfl rfl dX0_readNumber_7 ?_
      refine z_is_ (y := nI L) ((upd_ne _ _ (by decide)).trans h0) ?_
      refine z_icge (pc := 10) hC 61 (by decide) dX0_readNumber_10 (fun c10 => ?_) (fun c10 => absurd (nI_le (by omega) (by omega)) c10)
      refine z_iln (pc := 61) hC 0 rfl dX0_readNumber_61 ?_
      exact hE _ _ _ () _ _ _ dX0_readNumber_62 rfl (by rw [← hr, rdN_f (Or.inl rfl)]) (by rw [← hr, rdN_f (Or.inl rfl)]) (Nat.zero_le _) (Nat.zero_le _)
    | succ k ih =>
      intro p n hk hp hn hr
      refine z_aln (pc := 2) hC 1 rfl dX0_readNumber_2 ?_
      refine z_get (pc := 3) hC fX0_19 0 rfl rfl dX0_readNumber_3 ?_
      refine z_is_ (y := nI p) (upd_eq _ _ _) ?_
      refine z_aln (pc := 6) hC 1 rfl dX0_readNumber_6 ?_
      refine z_get (pc := 7) hC fX0_15 0 rfl rfl dX0_readNumber_7 ?_
      refine z_is_ (y := nI L) ((upd_ne _ _ (by decide)).trans h0) ?_
      refine z_icge (pc := 10) hC 61 (by decide) dX0_readNumber_10 (fun c10 => absurd c10 (nI_ge (by omega) (by omega))) (fun c10 => ?_)
      refine z_aln (pc := 13) hC 1 rfl dX0_readNumber_13 ?_
      refine z_g (pc := 14) (rest := []) hC vX0_digitHere lX0_63 dX0_readNumber_14 (c_digitHere (P := upd P 1 (nI p)) hT hL ((upd_ne _ _ (by decide)).trans h0) (upd_eq _ _ _) hp) (fun w => w) isCtx_id rfl 0 0 rfl rfl rfl rfl rfl (by decide) (Nat.le_of_ble_eq_true rfl) ⟨Nat.zero_le _, Nat.zero_le _⟩ ?_
      by_cases hd : dgO t L p = true
      · obtain ⟨hlt, hd1, hd2⟩ : p < L ∧ 48 ≤ t p ∧ t p ≤ 57 := by simpa [dgO] using hd
        refine z_is_ (y := nI (t p - 48)) (by rw [dgC, if_pos hd]) ?_
        refine z_isn (pc := 17) (lv' := [(3, .int (nI (t p - 48))), (2, .int (nI n)), (0, .ref (u 0)), (1, .int (nI hi))]) hC hm (by decide) rfl dX0_readNumber_17 ?_
        refine z_iln (pc := 18) hC 1 rfl dX0_readNumber_18 ?_
        refine z_bipush (pc := 19) (v := nI 10) hC dX0_readNumber_19 (by decide) ?_
        refine z_imul (pc := 21) (v := nI (n * 10)) hC (pk_mul n 10) dX0_readNumber_21 ?_
        refine z_iln (pc := 22) hC 0 rfl dX0_readNumber_22 ?_
        refine z_iadd (pc := 23) (v := nI (10 * n + (t p - 48))) hC (by rw [nI_add, Nat.mul_comm]) dX0_readNumber_23 ?_
        refine z_is (pc := 24) (lv' := [(4, .int (nI (10 * n + (t p - 48)))), (3, .int (nI (t p - 48))), (2, .int (nI n)), (0, .ref (u 0)), (1, .int (nI hi))]) hC hm (by decide) rfl dX0_readNumber_24 ?_
        refine z_iln (pc := 26) hC 1 rfl dX0_readNumber_26 ?_
        refine z_iconst (pc := 27) (v := -1) hC dX0_readNumber_27 (by decide) ?_
        refine z_iceq (pc := 28) hC 61 (by decide) dX0_readNumber_28 (fun c28 => absurd c28 (nI_ne (by omega))) (fun c28 => ?_)
        refine z_il (pc := 31) hC 0 rfl dX0_readNumber_31 ?_
        refine z_ifeq (pc := 33) hC 61 (by decide) dX0_readNumber_33 (fun c33 => ?_) (fun c33 => ?_)
        · refine z_iln (pc := 61) hC 2 rfl dX0_readNumber_61 ?_
          exact hE _ _ _ () _ _ _ dX0_readNumber_62 rfl (by rw [← hr, rdN_f (Or.inr (fun z => z.2.1 (nI_inj (b := 0) (by omega) (by omega) c33)))]) (by rw [← hr, rdN_f (Or.inr (fun z => z.2.1 (nI_inj (b := 0) (by omega) (by omega) c33)))]) (Nat.zero_le _) (Nat.zero_le _)
        · have hz : ¬ 10 * n + (t p - 48) = 0 := fun e => c33 (by rw [e]; rfl)
          refine z_il (pc := 36) hC 0 rfl dX0_readNumber_36 ?_
          refine z_iln (pc := 38) hC 4 rfl dX0_readNumber_38 ?_
          refine z_icle (pc := 39) hC 45 (by decide) dX0_readNumber_39 (fun c39 => ?_) (fun c39 => ?_)
          · have hh : 10 * n + (t p - 48) ≤ hi := (nI_leI (by omega) (by omega)).mp c39
            refine z_il (pc := 45) hC 0 rfl dX0_readNumber_45 ?_
            refine z_isn (pc := 47) (lv' := [(2, .int (nI (10 * n + (t p - 48)))), (4, .int (nI (10 * n + (t p - 48)))), (3, .int (nI (t p - 48))), (0, .ref (u 0)), (1, .int (nI hi))]) hC hm (by decide) rfl dX0_readNumber_47 ?_
            refine z_aln (pc := 48) hC 3 rfl dX0_readNumber_48 ?_
            refine z_dup (pc := 49) hC rfl dX0_readNumber_49 ?_
            refine z_get (pc := 50) hC fX0_19 0 rfl rfl dX0_readNumber_50 ?_
            refine z_is_ (y := nI p) (upd_eq _ _ _) ?_
            refine z_iconst (pc := 53) (v := 1) hC dX0_readNumber_53 (by decide) ?_
            refine z_iadd (pc := 54) (v := nI (p + 1)) hC (nI_1 p) dX0_readNumber_54 ?_
            refine z_put (pc := 55) (ws' := tW g.2 u Q (upd (upd P 1 (nI p)) 1 (nI (p + 1)))) hC fX0_19 p0_2 0 rfl (Nat.le_of_ble_eq_true rfl) (tW_P 1 (by decide)) dX0_readNumber_55 ?_
            refine z_goto (pc := 58) hC 2 (by decide) dX0_readNumber_58 ?_
            refine z_w (ws' := tW g.2 u Q (upd P 1 (nI (p + 1)))) (by rw [upd_upd]) ?_
            refine z_lv [0, 3, 4] rfl ?_
            exact ih (p + 1) (10 * n + (t p - 48)) (by omega) (by omega) hh (by rw [← hr, rdN_t hd hz hh])
          · refine z_goto (pc := 42) hC 61 (by decide) dX0_readNumber_42 ?_
            refine z_iln (pc := 61) hC 2 rfl dX0_readNumber_61 ?_
            exact hE _ _ _ () _ _ _ dX0_readNumber_62 rfl (by rw [← hr, rdN_f (Or.inr (fun z => c39 (nI_le z.2.2 (by omega))))]) (by rw [← hr, rdN_f (Or.inr (fun z => c39 (nI_le z.2.2 (by omega))))]) (Nat.zero_le _) (Nat.zero_le _)
      · refine z_is_ (y := -1) (by rw [dgC, if_neg hd]) ?_
        refine z_isn (pc := 17) (lv' := [(3, .int (-1)), (2, .int (nI n)), (0, .ref (u 0)), (1, .int (nI hi))]) hC hm (by decide) rfl dX0_readNumber_17 ?_
        refine z_iln (pc := 18) hC 1 rfl dX0_readNumber_18 ?_
        refine z_bipush (pc := 19) (v := nI 10) hC dX0_readNumber_19 (by decide) ?_
        refine z_imul (pc := 21) (v := nI (n * 10)) hC (pk_mul n 10) dX0_readNumber_21 ?_
        refine z_iln (pc := 22) hC 0 rfl dX0_readNumber_22 ?_
        refine z_iadd (pc := 23) (v := (nI (n * 10)) + (-1)) hC rfl dX0_readNumber_23 ?_
        refine z_is (pc := 24) (lv' := [(4, .int ((nI (n * 10)) + (-1))), (3, .int (-1)), (2, .int (nI n)), (0, .ref (u 0)), (1, .int (nI hi))]) hC hm (by decide) rfl dX0_readNumber_24 ?_
        refine z_iln (pc := 26) hC 1 rfl dX0_readNumber_26 ?_
        refine z_iconst (pc := 27) (v := -1) hC dX0_readNumber_27 (by decide) ?_
        refine z_iceq (pc := 28) hC 61 (by decide) dX0_readNumber_28 (fun c28 => ?_) (fun c28 => absurd c28 (by decide))
        refine z_iln (pc := 61) hC 2 rfl dX0_readNumber_61 ?_
        exact hE _ _ _ () _ _ _ dX0_readNumber_62 rfl (by rw [← hr, rdN_f (Or.inr (fun z => hd z.1))]) (by rw [← hr, rdN_f (Or.inr (fun z => hd z.1))]) (Nat.zero_le _) (Nat.zero_le _)
  refine z_iconst (pc := 0) (v := nI 0) hC dX0_readNumber_0 (by decide) ?_
  refine z_isn (pc := 1) (lv' := [(2, .int (nI 0)), (0, .ref (u 0)), (1, .int (nI hi))]) hC hm (by decide) rfl dX0_readNumber_1 ?_
  refine z_w (ws' := tW g.2 u Q (upd P 1 (nI p))) (by rw [← h1, upd_self]) ?_
  refine z_lv [0, 1, 2] rfl ?_
  exact loop (L - p) p 0 (by omega) hp (by omega) hrr.symm

def kd (x : Nat) : Int32 := if x = 114 then 0 else if x = 119 then 1 else 2
/-- what a command leaves in the reader -/
def cfl (c : Cmd) (P : Nat → Int32) : Prop := P 2 = nI c.1 ∧ (c.1 = 116 → P 5 = nI c.2.1) ∧ (isJ c.1 = true → P 3 = kd c.1 ∧ P 4 = nI c.2.1 ∧ P 5 = nI c.2.2.1 ∧ P 6 = nI c.2.2.2)
theorem dgO_s {t : Nat → Nat} {L p : Nat} (h : dgO t L p = true) : p < L ∧ 48 ≤ t p ∧ t p ≤ 57 := by simpa [dgO] using h
theorem at_s {t : Nat → Nat} {L p x : Nat} (h : at_ t L p x = true) : p < L ∧ t p = x := by simpa [at_] using h
theorem nI_gt0 {n : Nat} (hn : n < 2 ^ 31) : nI n ≤ 0 ↔ n = 0 := by
  rw [show (nI n ≤ 0) = (nI n ≤ nI 0) from rfl, nI_leI hn (by omega)]; omega

set_option maxRecDepth 100000 in
set_option maxHeartbeats 4000000 in
theorem c_readSubmission {g : zG} {u : Nat → Nat} {Q P : Nat → Int32} {t : Nat → Nat} {L p : Nat} {s : Int32} (hT : tOK Q t L) (hL : L ≤ 80) (h0 : P 0 = nI L) (h1 : P 1 = nI p) (hpL : p + 1 ≤ L) : FI (S := Nat → Int32) g yX0_readSubmission cX0_readSubmission 2 .boolean 4 0 0 [.ref (u 0), .int s] (tW g.2 u Q P) (fun r (P' : Nat → Int32) => r = bI (rdJ t L (p + 1)).1.isSome ∧ P' 0 = nI L ∧ P' 1 = nI (rdJ t L (p + 1)).2 ∧ P' 2 = P 2 ∧ ∀ x, (rdJ t L (p + 1)).1 = some x → P' 3 = s ∧ P' 4 = nI x.1 ∧ P' 5 = nI x.2.1 ∧ P' 6 = nI x.2.2) (fun P' => tW g.2 u Q P') := by
  refine fi_entry (by decide) (Nat.le_of_ble_eq_true rfl) (fun C hC hm hE => ?_)
  obtain ⟨p1, v, e1⟩ : ∃ p1 v, rdN t L 99 (L - (p + 1)) (p + 1) 0 = (p1, v) := ⟨_, _, rfl⟩
  obtain ⟨f1, hp1, f3⟩ := rdN_ok t L 99 (L - (p + 1)) (p + 1) 0 (by omega) hpL
  rw [e1] at f1 hp1 f3
  dsimp only at f1 hp1 f3
  refine z_aln (pc := 0) hC 0 rfl dX0_readSubmission_0 ?_
  refine z_dup (pc := 1) hC rfl dX0_readSubmission_1 ?_
  refine z_get (pc := 2) hC fX0_19 0 rfl rfl dX0_readSubmission_2 ?_
  refine z_is_ (y := nI p) h1 ?_
  refine z_iconst (pc := 5) (v := 1) hC dX0_readSubmission_5 (by decide) ?_
  refine z_iadd (pc := 6) (v := nI (p + 1)) hC (nI_1 p) dX0_readSubmission_6 ?_
  refine z_put (pc := 7) (ws' := tW g.2 u Q (upd P 1 (nI (p + 1)))) hC fX0_19 p0_2 0 rfl (Nat.le_of_ble_eq_true rfl) (tW_P 1 (by decide)) dX0_readSubmission_7 ?_
  refine z_aln (pc := 10) hC 0 rfl dX0_readSubmission_10 ?_
  refine z_iln (pc := 11) hC 1 rfl dX0_readSubmission_11 ?_
  refine z_put (pc := 12) (ws' := tW g.2 u Q (upd (upd P 1 (nI (p + 1))) 3 s)) hC fX0_25 p0_4 0 rfl (Nat.le_of_ble_eq_true rfl) (tW_P 3 (by decide)) dX0_readSubmission_12 ?_
  refine z_aln (pc := 15) hC 0 rfl dX0_readSubmission_15 ?_
  refine z_aln (pc := 16) hC 0 rfl dX0_readSubmission_16 ?_
  refine z_bipush (pc := 17) (v := nI 99) hC dX0_readSubmission_17 (by decide) ?_
  refine z_g (pc := 19) (rest := [.ref (u 0)]) hC vX0_readNumber lX0_56 dX0_readSubmission_19 (c_readNumber (P := upd (upd P 1 (nI (p + 1))) 3 s) (p := p + 1) (hi := 99) hT hL (by simp [upd, h0]) (by simp [upd]) hpL (by omega)) (fun w => w) isCtx_id rfl 0 0 rfl rfl rfl rfl rfl (by decide) (Nat.le_of_ble_eq_true rfl) ⟨Nat.zero_le _, Nat.zero_le _⟩ ?_
  simp only [e1]
  refine z_put (pc := 22) (ws' := tW g.2 u Q (upd (upd (upd (upd P 1 (nI (p + 1))) 3 s) 1 (nI p1)) 4 (nI v))) hC fX0_28 p0_5 0 rfl (Nat.le_of_ble_eq_true rfl) (tW_P 4 (by decide)) dX0_readSubmission_22 ?_
  refine z_aln (pc := 25) hC 0 rfl dX0_readSubmission_25 ?_
  refine z_get (pc := 26) hC fX0_28 0 rfl rfl dX0_readSubmission_26 ?_
  refine z_ifeq (pc := 29) hC 41 (by decide) dX0_readSubmission_29 (fun c29 => ?_) (fun c29 => ?_)
  · have hv : v = 0 := nI_inj (b := 0) (by omega) (by omega) ((upd_eq _ _ _).symm.trans c29)
    refine z_iconst (pc := 41) (v := 0) hC dX0_readSubmission_41 (by decide) ?_
    exact hE _ _ _ _ _ _ _ dX0_readSubmission_42 rfl (by have eJ := (show rdJ t L (p + 1) = (none, p1) by simp [rdJ, e1, hv]); rw [eJ]; exact ⟨rfl, by simp [upd, h0], by simp [upd], by simp [upd], fun x hx => by simp at hx⟩) rfl (Nat.zero_le _) (Nat.zero_le _)
  · have hv : ¬ v = 0 := fun e => c29 (by rw [upd_eq, e]; rfl)
    refine z_aln (pc := 32) hC 0 rfl dX0_readSubmission_32 ?_
    refine z_bipush (pc := 33) (v := 42) hC dX0_readSubmission_33 (by decide) ?_
    refine z_g (pc := 35) (rest := []) hC vX0_skip lX0_44 dX0_readSubmission_35 (c_skip (P := upd (upd (upd (upd P 1 (nI (p + 1))) 3 s) 1 (nI p1)) 4 (nI v)) (p := p1) (x := 42) hT hL (by simp [upd, h0]) (by simp [upd]) hp1 (by omega)) (fun w => w) isCtx_id rfl 0 0 rfl rfl rfl rfl rfl (by decide) (Nat.le_of_ble_eq_true rfl) ⟨Nat.zero_le _, Nat.zero_le _⟩ ?_
    refine z_ifne (pc := 38) hC 43 (by decide) dX0_readSubmission_38 (fun c38 => ?_) (fun c38 => ?_)
    · have ha : at_ t L p1 42 = true := bI_n.mp c38
      refine z_w (ws' := tW g.2 u Q (upd (upd (upd (upd (upd P 1 (nI (p + 1))) 3 s) 1 (nI p1)) 4 (nI v)) 1 (nI (p1 + 1)))) (by rw [if_pos ha]) ?_
      obtain ⟨p2, m, e2⟩ : ∃ p2 m, rdN t L 20 (L - (p1 + 1)) (p1 + 1) 0 = (p2, m) := ⟨_, _, rfl⟩
      obtain ⟨g1, g2, g3⟩ := rdN_ok t L 20 (L - (p1 + 1)) (p1 + 1) 0 (by omega) (at_s ha).1
      rw [e2] at g1 g2 g3
      dsimp only at g1 g2 g3
      refine z_aln (pc := 43) hC 0 rfl dX0_readSubmission_43 ?_
      refine z_aln (pc := 44) hC 0 rfl dX0_readSubmission_44 ?_
      refine z_bipush (pc := 45) (v := nI 20) hC dX0_readSubmission_45 (by decide) ?_
      refine z_g (pc := 47) (rest := [.ref (u 0)]) hC vX0_readNumber lX0_56 dX0_readSubmission_47 (c_readNumber (P := upd (upd (upd (upd (upd P 1 (nI (p + 1))) 3 s) 1 (nI p1)) 4 (nI v)) 1 (nI (p1 + 1))) (p := p1 + 1) (hi := 20) hT hL (by simp [upd, h0]) (by simp [upd]) (at_s ha).1 (by omega)) (fun w => w) isCtx_id rfl 0 0 rfl rfl rfl rfl rfl (by decide) (Nat.le_of_ble_eq_true rfl) ⟨Nat.zero_le _, Nat.zero_le _⟩ ?_
      simp only [e2]
      refine z_put (pc := 50) (ws' := tW g.2 u Q (upd (upd (upd (upd (upd (upd (upd P 1 (nI (p + 1))) 3 s) 1 (nI p1)) 4 (nI v)) 1 (nI (p1 + 1))) 1 (nI p2)) 5 (nI m))) hC fX0_31 p0_6 0 rfl (Nat.le_of_ble_eq_true rfl) (tW_P 5 (by decide)) dX0_readSubmission_50 ?_
      refine z_aln (pc := 53) hC 0 rfl dX0_readSubmission_53 ?_
      refine z_iconst (pc := 54) (v := 0) hC dX0_readSubmission_54 (by decide) ?_
      refine z_put (pc := 55) (ws' := tW g.2 u Q (upd (upd (upd (upd (upd (upd (upd (upd P 1 (nI (p + 1))) 3 s) 1 (nI p1)) 4 (nI v)) 1 (nI (p1 + 1))) 1 (nI p2)) 5 (nI m)) 6 0)) hC fX0_34 p0_7 0 rfl (Nat.le_of_ble_eq_true rfl) (tW_P 6 (by decide)) dX0_readSubmission_55 ?_
      refine z_aln (pc := 58) hC 0 rfl dX0_readSubmission_58 ?_
      refine z_get (pc := 59) hC fX0_31 0 rfl rfl dX0_readSubmission_59 ?_
      refine z_ifle (pc := 62) hC 85 (by decide) dX0_readSubmission_62 (fun c62 => ?_) (fun c62 => ?_)
      · have hmz : m = 0 := (nI_gt0 (by omega)).mp (by simpa [upd] using c62)
        refine z_iconst (pc := 85) (v := 0) hC dX0_readSubmission_85 (by decide) ?_
        exact hE _ _ _ _ _ _ _ dX0_readSubmission_86 rfl (by have eJ := (show rdJ t L (p + 1) = (none, p2) by simp [rdJ, rdM, e1, e2, hv, ha, hmz]); rw [eJ]; exact ⟨rfl, by simp [upd, h0], by simp [upd], by simp [upd], fun x hx => by simp at hx⟩) rfl (Nat.zero_le _) (Nat.zero_le _)
      · have hmz : ¬ m = 0 := fun e => c62 (by simp [upd, e]; decide)
        refine z_aln (pc := 65) hC 0 rfl dX0_readSubmission_65 ?_
        refine z_bipush (pc := 66) (v := 33) hC dX0_readSubmission_66 (by decide) ?_
        refine z_g (pc := 68) (rest := []) hC vX0_skip lX0_44 dX0_readSubmission_68 (c_skip (P := upd (upd (upd (upd (upd (upd (upd (upd P 1 (nI (p + 1))) 3 s) 1 (nI p1)) 4 (nI v)) 1 (nI (p1 + 1))) 1 (nI p2)) 5 (nI m)) 6 0) (p := p2) (x := 33) hT hL (by simp [upd, h0]) (by simp [upd]) g2 (by omega)) (fun w => w) isCtx_id rfl 0 0 rfl rfl rfl rfl rfl (by decide) (Nat.le_of_ble_eq_true rfl) ⟨Nat.zero_le _, Nat.zero_le _⟩ ?_
        refine z_ifeq (pc := 71) hC 81 (by decide) dX0_readSubmission_71 (fun c71 => ?_) (fun c71 => ?_)
        · have hb : at_ t L p2 33 = false := bI_0.mp c71
          refine z_w (ws' := tW g.2 u Q (upd (upd (upd (upd (upd (upd (upd (upd P 1 (nI (p + 1))) 3 s) 1 (nI p1)) 4 (nI v)) 1 (nI (p1 + 1))) 1 (nI p2)) 5 (nI m)) 6 0)) (by rw [if_neg (by simp [hb])]) ?_
          refine z_iconst (pc := 81) (v := 1) hC dX0_readSubmission_81 (by decide) ?_
          refine z_goto (pc := 82) hC 86 (by decide) dX0_readSubmission_82 ?_
          exact hE _ _ _ _ _ _ _ dX0_readSubmission_86 rfl (by have eJ := (show rdJ t L (p + 1) = (some (v, m, 0), p2) by simp [rdJ, rdM, e1, e2, hv, ha, hmz, hb]); rw [eJ]; exact ⟨rfl, by simp [upd, h0], by simp [upd], by simp [upd], fun x hx => by simp at hx; subst hx; exact ⟨by simp [upd], by simp [upd], by simp [upd], by simp [upd]; rfl⟩⟩) rfl (Nat.zero_le _) (Nat.zero_le _)
        · have hb : at_ t L p2 33 = true := bI_n.mp c71
          refine z_w (ws' := tW g.2 u Q (upd (upd (upd (upd (upd (upd (upd (upd (upd P 1 (nI (p + 1))) 3 s) 1 (nI p1)) 4 (nI v)) 1 (nI (p1 + 1))) 1 (nI p2)) 5 (nI m)) 6 0) 1 (nI (p2 + 1)))) (by rw [if_pos hb]) ?_
          refine z_aln (pc := 74) hC 0 rfl dX0_readSubmission_74 ?_
          refine z_g (pc := 75) (rest := []) hC vX0_readPriority lX0_60 dX0_readSubmission_75 (c_readPriority (P := upd (upd (upd (upd (upd (upd (upd (upd (upd P 1 (nI (p + 1))) 3 s) 1 (nI p1)) 4 (nI v)) 1 (nI (p1 + 1))) 1 (nI p2)) 5 (nI m)) 6 0) 1 (nI (p2 + 1))) (p := p2 + 1) hT hL (by simp [upd, h0]) (by simp [upd]) (at_s hb).1) (fun w => w) isCtx_id rfl 0 0 rfl rfl rfl rfl rfl (by decide) (Nat.le_of_ble_eq_true rfl) ⟨Nat.zero_le _, Nat.zero_le _⟩ ?_
          refine z_ifeq (pc := 78) hC 85 (by decide) dX0_readSubmission_78 (fun c78 => ?_) (fun c78 => ?_)
          · refine z_iconst (pc := 85) (v := 0) hC dX0_readSubmission_85 (by decide) ?_
            exact hE _ _ _ _ _ _ _ dX0_readSubmission_86 rfl (by have eJ := (show rdJ t L (p + 1) = (none, p2 + 1) by simp [rdJ, rdM, e1, e2, hv, ha, hmz, hb, bI_0.mp c78]); rw [eJ, if_neg (by simp [bI_0.mp c78])]; exact ⟨rfl, by simp [upd, h0], by simp [upd], by simp [upd], fun x hx => by simp at hx⟩) rfl (Nat.zero_le _) (Nat.zero_le _)
          · refine z_iconst (pc := 81) (v := 1) hC dX0_readSubmission_81 (by decide) ?_
            refine z_goto (pc := 82) hC 86 (by decide) dX0_readSubmission_82 ?_
            exact hE _ _ _ _ _ _ _ dX0_readSubmission_86 rfl (by have eJ := (show rdJ t L (p + 1) = (some (v, m, t (p2 + 1) - 48), p2 + 2) by simp [rdJ, rdM, e1, e2, hv, ha, hmz, hb, bI_n.mp c78]); rw [eJ, if_pos (bI_n.mp c78)]; exact ⟨rfl, by simp [upd, h0], by simp [upd], by simp [upd], fun x hx => by simp at hx; subst hx; exact ⟨by simp [upd], by simp [upd], by simp [upd], by simp [upd]⟩⟩) rfl (Nat.zero_le _) (Nat.zero_le _)
    · have ha : at_ t L p1 42 = false := bI_0.mp c38
      refine z_w (ws' := tW g.2 u Q (upd (upd (upd (upd P 1 (nI (p + 1))) 3 s) 1 (nI p1)) 4 (nI v))) (by rw [if_neg (by simp [ha])]) ?_
      refine z_iconst (pc := 41) (v := 0) hC dX0_readSubmission_41 (by decide) ?_
      exact hE _ _ _ _ _ _ _ dX0_readSubmission_42 rfl (by have eJ := (show rdJ t L (p + 1) = (none, p1) by simp [rdJ, e1, hv, ha]); rw [eJ]; exact ⟨rfl, by simp [upd, h0], by simp [upd], by simp [upd], fun x hx => by simp at hx⟩) rfl (Nat.zero_le _) (Nat.zero_le _)
