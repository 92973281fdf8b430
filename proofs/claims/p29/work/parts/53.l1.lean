set_option maxRecDepth 100000 in
set_option maxHeartbeats 4000000 in
theorem l_low {g : zG} {x : Int32} {n : Nat} (hn : 0 < n) (hn2 : n < 2 ^ 31) : Gi g yL_low cL_low 2 .int 0 [.int x, .int (nI n)] ([]) (nI (lo x n)) ([]) := by
  refine fi_entry (by decide) (Nat.le_of_ble_eq_true rfl) (fun C hC hm hE => ?_)
  refine z_iln (pc := 0) hC 0 rfl dL_low_0 ?_
  refine z_ldc (pc := 1) (v := 2147483647) hC kL_8 dL_low_1 ?_
  refine z_iand (pc := 3) (v := nI (x.toBitVec.toNat % 2 ^ 31)) hC (pk_and x 31 (by decide)) dL_low_3 ?_
  refine z_iln (pc := 4) hC 1 rfl dL_low_4 ?_
  refine z_irem (pc := 5) (v := nI (lo x n)) hC (nI_ne0 hn hn2) (pk_rem (Nat.mod_lt _ (by decide)) hn hn2) dL_low_5 ?_
  exact hE _ _ _ () _ _ _ dL_low_6 rfl rfl rfl (Nat.zero_le _) (Nat.zero_le _)

set_option maxRecDepth 100000 in
set_option maxHeartbeats 4000000 in
theorem l_scratch {g : zG} {v : Nat → Nat} {R : St} {r : Nat} (hr : r < 12) : Gi g yL_scratch cL_scratch 4 .boolean 0 [.ref (v 0), .ref (v 1), .ref (v 4), .int (nI r)] (lgW g.2 v R) (bI (scr R r)) (lgW g.2 v R) := by
  refine fi_entry (by decide) (Nat.le_of_ble_eq_true rfl) (fun C hC hm hE => ?_)
  refine z_aln (pc := 0) hC 0 rfl dL_scratch_0 ?_
  refine z_iconst (pc := 1) (v := nI 3) hC dL_scratch_1 (by decide) ?_
  refine z_iln (pc := 2) hC 3 rfl dL_scratch_2 ?_
  refine z_imul (pc := 3) (v := nI (3 * r)) hC (pk_mul _ _) dL_scratch_3 ?_
  refine z_iald (pc := 4) hC 0 rfl dL_scratch_4 (3 * r + 0) rfl (by omega) (by decide) ?_
  refine z_is_ (y := R 0 r) (fA_at (by decide) _) ?_
  refine z_ifeq (pc := 5) hC 19 (by decide) dL_scratch_5 (fun c5 => ?_) (fun c5 => ?_)
  · refine z_iconst (pc := 19) (v := 1) hC dL_scratch_19 (by decide) ?_
    refine z_goto (pc := 20) hC 24 (by decide) dL_scratch_20 ?_
    exact hE _ _ _ () _ _ _ dL_scratch_24 rfl (bI_t (by first | (simp [scr, c5]; done) | (simp [scr, Int32.not_le.mp c16]; done))) rfl (Nat.zero_le _) (Nat.zero_le _)
  · refine z_aln (pc := 8) hC 2 rfl dL_scratch_8 ?_
    refine z_iconst (pc := 9) (v := 0) hC dL_scratch_9 (by decide) ?_
    refine z_iald (pc := 10) hC 4 rfl dL_scratch_10 0 rfl (by omega) (by decide) ?_
    refine z_aln (pc := 11) hC 1 rfl dL_scratch_11 ?_
    refine z_iconst (pc := 12) (v := nI 3) hC dL_scratch_12 (by decide) ?_
    refine z_iln (pc := 13) hC 3 rfl dL_scratch_13 ?_
    refine z_imul (pc := 14) (v := nI (3 * r)) hC (pk_mul _ _) dL_scratch_14 ?_
    refine z_iald (pc := 15) hC 1 rfl dL_scratch_15 (3 * r + 0) rfl (by omega) (by decide) ?_
    refine z_is_ (y := R 3 r) (fB_at (by decide) _) ?_
    refine z_icle (pc := 16) hC 23 (by decide) dL_scratch_16 (fun c16 => ?_) (fun c16 => ?_)
    · refine z_iconst (pc := 23) (v := 0) hC dL_scratch_23 (by decide) ?_
      exact hE _ _ _ () _ _ _ dL_scratch_24 rfl (bI_f (by simp [scr, c5, Int32.not_lt.mpr c16])) rfl (Nat.zero_le _) (Nat.zero_le _)
    · refine z_iconst (pc := 19) (v := 1) hC dL_scratch_19 (by decide) ?_
      refine z_goto (pc := 20) hC 24 (by decide) dL_scratch_20 ?_
      exact hE _ _ _ () _ _ _ dL_scratch_24 rfl (bI_t (by first | (simp [scr, c5]; done) | (simp [scr, Int32.not_le.mp c16]; done))) rfl (Nat.zero_le _) (Nat.zero_le _)

set_option maxRecDepth 100000 in
set_option maxHeartbeats 4000000 in
theorem l_looks {g : zG} {v : Nat → Nat} {R : St} {n i : Nat} (hK : KI R n) (hi : i < 12) : Gi g yL_looks cL_looks 5 .int 0 [.ref (v 0), .ref (v 1), .ref (v 2), .int (nI i)] (lgW g.2 v R) (fnd R i) (lgW g.2 v R) := by
  refine fi_entry (by decide) (Nat.le_of_ble_eq_true rfl) (fun C hC hm hE => ?_)
  have loop : ∀ k m : Nat, m + k = 12 → (∀ j, j < m → (fun r => onSh R r && decide (R 1 r = want R i)) j = false) → Z g C 0 0 (lgW g.2 v R) [(4, .int (nI m)), (0, .ref (v 0)), (1, .ref (v 1)), (2, .ref (v 2)), (3, .int (nI i))] 3 [] := by
    intro k
    induction k with
    | zero =>
      intro m hm2 hp
      refine z_il (pc := 3) hC 0 rfl dL_looks_3 ?_
      refine z_bipush (pc := 5) (v := nI 12) hC dL_looks_5 (by decide) ?_
      refine z_icge (pc := 7) hC 61 (by decide) dL_looks_7 (fun c7 => ?_) (fun c7 => absurd (nI_le (by omega) (by omega)) c7)
      refine z_iconst (pc := 61) (v := -1) hC dL_looks_61 (by decide) ?_
      exact hE _ _ _ () _ _ _ dL_looks_62 rfl (fst_miss (by rw [show (12 : Nat) = m by omega]; exact hp)).symm rfl (Nat.zero_le _) (Nat.zero_le _)
    | succ k ih =>
      intro m hm2 hp
      refine z_il (pc := 3) hC 0 rfl dL_looks_3 ?_
      refine z_bipush (pc := 5) (v := nI 12) hC dL_looks_5 (by decide) ?_
      refine z_icge (pc := 7) hC 61 (by decide) dL_looks_7 (fun c7 => absurd c7 (nI_ge (by omega) (by omega))) (fun c7 => ?_)
      refine z_aln (pc := 10) hC 2 rfl dL_looks_10 ?_
      refine z_iconst (pc := 11) (v := nI 3) hC dL_looks_11 (by decide) ?_
      refine z_il (pc := 12) hC 0 rfl dL_looks_12 ?_
      refine z_imul (pc := 14) (v := nI (3 * m)) hC (pk_mul _ _) dL_looks_14 ?_
      refine z_iconst (pc := 15) (v := nI 2) hC dL_looks_15 (by decide) ?_
      refine z_iadd (pc := 16) (v := nI (3 * m + 2)) hC (nI_add _ _) dL_looks_16 ?_
      refine z_iald (pc := 17) hC 1 rfl dL_looks_17 (3 * m + 2) rfl (by omega) (by decide) ?_
      refine z_is_ (y := R 5 m) (fB_at (by decide) _) ?_
      refine z_ifge (pc := 18) hC 55 (by decide) dL_looks_18 (fun c18 => ?_) (fun c18 => ?_)
      · refine z_iinc (pc := 55) (v := nI (m + 1)) (j := 0) (lv' := [(4, .int (nI (m + 1))), (0, .ref (v 0)), (1, .ref (v 1)), (2, .ref (v 2)), (3, .int (nI i))]) hC hm (by decide) rfl (up_step _) rfl dL_looks_55 ?_
        refine z_goto (pc := 58) hC 3 (by decide) dL_looks_58 ?_
        refine z_lv [0, 1, 2, 3, 4] rfl ?_
        exact ih (m + 1) (by omega) (all_s hp (by first | (simp [sh_f c18]; done) | (simp [want, c35, c49]; done)))
      · refine z_aln (pc := 21) hC 1 rfl dL_looks_21 ?_
        refine z_iconst (pc := 22) (v := nI 3) hC dL_looks_22 (by decide) ?_
        refine z_il (pc := 23) hC 0 rfl dL_looks_23 ?_
        refine z_imul (pc := 25) (v := nI (3 * m)) hC (pk_mul _ _) dL_looks_25 ?_
        refine z_iconst (pc := 26) (v := nI 1) hC dL_looks_26 (by decide) ?_
        refine z_iadd (pc := 27) (v := nI (3 * m + 1)) hC (nI_add _ _) dL_looks_27 ?_
        refine z_iald (pc := 28) hC 0 rfl dL_looks_28 (3 * m + 1) rfl (by omega) (by decide) ?_
        refine z_is_ (y := R 1 m) (fA_at (by decide) _) ?_
        refine z_aln (pc := 29) hC 3 rfl dL_looks_29 ?_
        refine z_iconst (pc := 30) (v := nI 4) hC dL_looks_30 (by decide) ?_
        refine z_iln (pc := 31) hC 4 rfl dL_looks_31 ?_
        refine z_imul (pc := 32) (v := nI (4 * i)) hC (pk_mul _ _) dL_looks_32 ?_
        refine z_iald (pc := 33) hC 2 rfl dL_looks_33 (4 * i + 0) rfl (by omega) (by decide) ?_
        refine z_is_ (y := R 6 i) (fJ_at (by decide) _) ?_
        refine z_iconst (pc := 34) (v := 2) hC dL_looks_34 (by decide) ?_
        refine z_icne (pc := 35) hC 42 (by decide) dL_looks_35 (fun c35 => ?_) (fun c35 => ?_)
        · refine z_aln (pc := 42) hC 3 rfl dL_looks_42 ?_
          refine z_iconst (pc := 43) (v := nI 4) hC dL_looks_43 (by decide) ?_
          refine z_iln (pc := 44) hC 4 rfl dL_looks_44 ?_
          refine z_imul (pc := 45) (v := nI (4 * i)) hC (pk_mul _ _) dL_looks_45 ?_
          refine z_iconst (pc := 46) (v := nI 1) hC dL_looks_46 (by decide) ?_
          refine z_iadd (pc := 47) (v := nI (4 * i + 1)) hC (nI_add _ _) dL_looks_47 ?_
          refine z_iald (pc := 48) hC 2 rfl dL_looks_48 (4 * i + 1) rfl (by omega) (by decide) ?_
          refine z_is_ (y := R 7 i) (fJ_at (by decide) _) ?_
          refine z_icne (pc := 49) hC 55 (by decide) dL_looks_49 (fun c49 => ?_) (fun c49 => ?_)
          · refine z_iinc (pc := 55) (v := nI (m + 1)) (j := 0) (lv' := [(4, .int (nI (m + 1))), (0, .ref (v 0)), (1, .ref (v 1)), (2, .ref (v 2)), (3, .int (nI i))]) hC hm (by decide) rfl (up_step _) rfl dL_looks_55 ?_
            refine z_goto (pc := 58) hC 3 (by decide) dL_looks_58 ?_
            refine z_lv [0, 1, 2, 3, 4] rfl ?_
            exact ih (m + 1) (by omega) (all_s hp (by first | (simp [sh_f c18]; done) | (simp [want, c35, c49]; done)))
          · refine z_il (pc := 52) hC 0 rfl dL_looks_52 ?_
            exact hE _ _ _ () _ _ _ dL_looks_54 rfl (fst_hit hp (by simp [sh_t hK (show m < 12 by omega) c18, want, c35, c49]) (by omega)).symm rfl (Nat.zero_le _) (Nat.zero_le _)
        · refine z_iconst (pc := 38) (v := 0) hC dL_looks_38 (by decide) ?_
          refine z_goto (pc := 39) hC 49 (by decide) dL_looks_39 ?_
          refine z_icne (pc := 49) hC 55 (by decide) dL_looks_49 (fun c49 => ?_) (fun c49 => ?_)
          · refine z_iinc (pc := 55) (v := nI (m + 1)) (j := 0) (lv' := [(4, .int (nI (m + 1))), (0, .ref (v 0)), (1, .ref (v 1)), (2, .ref (v 2)), (3, .int (nI i))]) hC hm (by decide) rfl (up_step _) rfl dL_looks_55 ?_
            refine z_goto (pc := 58) hC 3 (by decide) dL_looks_58 ?_
            refine z_lv [0, 1, 2, 3, 4] rfl ?_
            exact ih (m + 1) (by omega) (all_s hp (by first | (simp [sh_f c18]; done) | (simp [want, c35, c49]; done)))
          · refine z_il (pc := 52) hC 0 rfl dL_looks_52 ?_
            exact hE _ _ _ () _ _ _ dL_looks_54 rfl (fst_hit hp (by simp [sh_t hK (show m < 12 by omega) c18, want, c35, c49]) (by omega)).symm rfl (Nat.zero_le _) (Nat.zero_le _)
  refine z_iconst (pc := 0) (v := nI 0) hC dL_looks_0 (by decide) ?_
  refine z_is (pc := 1) (lv' := [(4, .int (nI 0)), (0, .ref (v 0)), (1, .ref (v 1)), (2, .ref (v 2)), (3, .int (nI i))]) hC hm (by decide) rfl dL_looks_1 ?_
  refine z_lv [0, 1, 2, 3, 4] rfl ?_
  exact loop 12 0 rfl (fun j h => absurd h (Nat.not_lt_zero j))

set_option maxRecDepth 100000 in
set_option maxHeartbeats 4000000 in
theorem l_on {g : zG} {v : Nat → Nat} {R : St} {x : Int32} (hD : DI R) (hx : ¬ x = -1) : Gi g yL_on cL_on 3 .int 0 [.ref (v 1), .int x] (lgW g.2 v R) (onDr R x) (lgW g.2 v R) := by
  refine fi_entry (by decide) (Nat.le_of_ble_eq_true rfl) (fun C hC hm hE => ?_)
  have loop : ∀ k m : Nat, m + k = 12 → (∀ j, j < m → (fun r => decide (R 5 r = x)) j = false) → Z g C 0 0 (lgW g.2 v R) [(2, .int (nI m)), (0, .ref (v 1)), (1, .int x)] 2 [] := by
    intro k
    induction k with
    | zero =>
      intro m hm2 hp
      refine z_iln (pc := 2) hC 0 rfl dL_on_2 ?_
      refine z_bipush (pc := 3) (v := nI 12) hC dL_on_3 (by decide) ?_
      refine z_icge (pc := 5) hC 27 (by decide) dL_on_5 (fun c5 => ?_) (fun c5 => absurd (nI_le (by omega) (by omega)) c5)
      refine z_iconst (pc := 27) (v := -1) hC dL_on_27 (by decide) ?_
      exact hE _ _ _ () _ _ _ dL_on_28 rfl ((fst_miss (by rw [show (12 : Nat) = m by omega]; exact hp)).symm.trans (fst_lst hD hx)) rfl (Nat.zero_le _) (Nat.zero_le _)
    | succ k ih =>
      intro m hm2 hp
      refine z_iln (pc := 2) hC 0 rfl dL_on_2 ?_
      refine z_bipush (pc := 3) (v := nI 12) hC dL_on_3 (by decide) ?_
      refine z_icge (pc := 5) hC 27 (by decide) dL_on_5 (fun c5 => absurd c5 (nI_ge (by omega) (by omega))) (fun c5 => ?_)
      refine z_aln (pc := 8) hC 1 rfl dL_on_8 ?_
      refine z_iconst (pc := 9) (v := nI 3) hC dL_on_9 (by decide) ?_
      refine z_iln (pc := 10) hC 0 rfl dL_on_10 ?_
      refine z_imul (pc := 11) (v := nI (3 * m)) hC (pk_mul _ _) dL_on_11 ?_
      refine z_iconst (pc := 12) (v := nI 2) hC dL_on_12 (by decide) ?_
      refine z_iadd (pc := 13) (v := nI (3 * m + 2)) hC (nI_add _ _) dL_on_13 ?_
      refine z_iald (pc := 14) hC 1 rfl dL_on_14 (3 * m + 2) rfl (by omega) (by decide) ?_
      refine z_is_ (y := R 5 m) (fB_at (by decide) _) ?_
      refine z_iln (pc := 15) hC 2 rfl dL_on_15 ?_
      refine z_icne (pc := 16) hC 21 (by decide) dL_on_16 (fun c16 => ?_) (fun c16 => ?_)
      · refine z_iinc (pc := 21) (v := nI (m + 1)) (j := 0) (lv' := [(2, .int (nI (m + 1))), (0, .ref (v 1)), (1, .int x)]) hC hm (by decide) rfl (up_step _) rfl dL_on_21 ?_
        refine z_goto (pc := 24) hC 2 (by decide) dL_on_24 ?_
        refine z_lv [0, 1, 2] rfl ?_
        exact ih (m + 1) (by omega) (all_s hp (by simp [c16]))
      · refine z_iln (pc := 19) hC 0 rfl dL_on_19 ?_
        exact hE _ _ _ () _ _ _ dL_on_20 rfl ((fst_hit hp (by simp [c16]) (by omega)).symm.trans (fst_lst hD hx)) rfl (Nat.zero_le _) (Nat.zero_le _)
  refine z_iconst (pc := 0) (v := nI 0) hC dL_on_0 (by decide) ?_
  refine z_isn (pc := 1) (lv' := [(2, .int (nI 0)), (0, .ref (v 1)), (1, .int x)]) hC hm (by decide) rfl dL_on_1 ?_
  refine z_lv [0, 1, 2] rfl ?_
  exact loop 12 0 rfl (fun j h => absurd h (Nat.not_lt_zero j))

set_option maxRecDepth 100000 in
set_option maxHeartbeats 4000000 in
theorem l_checks {g : zG} {v : Nat → Nat} {R : St} {i r : Nat} (hi : i < 12) (hr : r < 12) (hk : R 6 i = 0 ∨ R 6 i = 1 ∨ R 6 i = 2) (hr2 : R 2 r = 0 ∨ R 2 r = 1) : Gi g yL_checks cL_checks 7 .int 1 [.ref (v 0), .ref (v 1), .ref (v 2), .ref (v 4), .int (nI i), .int (nI r)] (lgW g.2 v R) (chk R i r) (lgW g.2 v R) := by
  refine fi_entry (by decide) (Nat.le_of_ble_eq_true rfl) (fun C hC hm hE => ?_)
  refine z_aln (pc := 0) hC 2 rfl dL_checks_0 ?_
  refine z_iconst (pc := 1) (v := nI 4) hC dL_checks_1 (by decide) ?_
  refine z_il (pc := 2) hC 4 rfl dL_checks_2 ?_
  refine z_imul (pc := 4) (v := nI (4 * i)) hC (pk_mul _ _) dL_checks_4 ?_
  refine z_iald (pc := 5) hC 2 rfl dL_checks_5 (4 * i + 0) rfl (by omega) (by decide) ?_
  refine z_is_ (y := R 6 i) (fJ_at (by decide) _) ?_
  refine z_is (pc := 6) (lv' := [(6, .int (R 6 i)), (0, .ref (v 0)), (1, .ref (v 1)), (2, .ref (v 2)), (3, .ref (v 4)), (4, .int (nI i)), (5, .int (nI r))]) hC hm (by decide) rfl dL_checks_6 ?_
  refine z_il (pc := 8) hC 0 rfl dL_checks_8 ?_
  refine z_iconst (pc := 10) (v := 2) hC dL_checks_10 (by decide) ?_
  refine z_icge (pc := 11) hC 33 (by decide) dL_checks_11 (fun c11 => ?_) (fun c11 => ?_)
  · refine z_il (pc := 33) hC 0 rfl dL_checks_33 ?_
    refine z_iconst (pc := 35) (v := 2) hC dL_checks_35 (by decide) ?_
    refine z_icne (pc := 36) hC 52 (by decide) dL_checks_36 (fun c36 => ?_) (fun c36 => ?_)
    · refine z_il (pc := 52) hC 0 rfl dL_checks_52 ?_
      refine z_ifne (pc := 54) hC 70 (by decide) dL_checks_54 (fun c54 => ?_) (fun c54 => ?_)
      · refine z_iconst (pc := 70) (v := 4) hC dL_checks_70 (by decide) ?_
        refine z_iconst (pc := 71) (v := 4) hC dL_checks_71 (by decide) ?_
        refine z_aln (pc := 72) hC 1 rfl dL_checks_72 ?_
        refine z_iconst (pc := 73) (v := nI 3) hC dL_checks_73 (by decide) ?_
        refine z_il (pc := 74) hC 6 rfl dL_checks_74 ?_
        refine z_imul (pc := 76) (v := nI (3 * r)) hC (pk_mul _ _) dL_checks_76 ?_
        refine z_iconst (pc := 77) (v := nI 2) hC dL_checks_77 (by decide) ?_
        refine z_iadd (pc := 78) (v := nI (3 * r + 2)) hC (nI_add _ _) dL_checks_78 ?_
        refine z_iald (pc := 79) hC 0 rfl dL_checks_79 (3 * r + 2) rfl (by omega) (by decide) ?_
        refine z_is_ (y := R 2 r) (fA_at (by decide) _) ?_
        refine z_imul (pc := 80) (v := 4 * (R 2 r)) hC rfl dL_checks_80 ?_
        refine z_isub (pc := 81) (v := 4 - (4 * (R 2 r))) hC rfl dL_checks_81 ?_
        exact hE _ _ _ () _ _ _ dL_checks_82 rfl (by rcases hk with h | h | h <;> rcases hr2 with q | q <;> simp_all [chk]) rfl (Nat.zero_le _) (Nat.zero_le _)
      · refine z_iconst (pc := 57) (v := 3) hC dL_checks_57 (by decide) ?_
        refine z_aln (pc := 58) hC 1 rfl dL_checks_58 ?_
        refine z_iconst (pc := 59) (v := nI 3) hC dL_checks_59 (by decide) ?_
        refine z_il (pc := 60) hC 6 rfl dL_checks_60 ?_
        refine z_imul (pc := 62) (v := nI (3 * r)) hC (pk_mul _ _) dL_checks_62 ?_
        refine z_iconst (pc := 63) (v := nI 2) hC dL_checks_63 (by decide) ?_
        refine z_iadd (pc := 64) (v := nI (3 * r + 2)) hC (nI_add _ _) dL_checks_64 ?_
        refine z_iald (pc := 65) hC 0 rfl dL_checks_65 (3 * r + 2) rfl (by omega) (by decide) ?_
        refine z_is_ (y := R 2 r) (fA_at (by decide) _) ?_
        refine z_imul (pc := 66) (v := 3 * (R 2 r)) hC rfl dL_checks_66 ?_
        refine z_goto (pc := 67) hC 82 (by decide) dL_checks_67 ?_
        exact hE _ _ _ () _ _ _ dL_checks_82 rfl (by rcases hk with h | h | h <;> rcases hr2 with q | q <;> simp_all [chk]) rfl (Nat.zero_le _) (Nat.zero_le _)
    · refine z_aln (pc := 39) hC 1 rfl dL_checks_39 ?_
      refine z_aln (pc := 40) hC 2 rfl dL_checks_40 ?_
      refine z_aln (pc := 41) hC 4 rfl dL_checks_41 ?_
      refine z_il (pc := 42) hC 6 rfl dL_checks_42 ?_
      refine z_sg (pc := 44) (rest := []) hC sL_scratch lL_15 dL_checks_44 (l_scratch hr) (fun w => w) isCtx_id rfl rfl rfl (by decide) (Nat.le_of_ble_eq_true rfl) ⟨Nat.zero_le _, Nat.zero_le _⟩ ?_
      have hs0 := @bI_0 (scr R r)
      refine z_ifne (pc := 47) hC 52 (by decide) dL_checks_47 (fun c47 => ?_) (fun c47 => ?_)
      · have hs := bI_n.mp c47
        refine z_il (pc := 52) hC 0 rfl dL_checks_52 ?_
        refine z_ifne (pc := 54) hC 70 (by decide) dL_checks_54 (fun c54 => ?_) (fun c54 => ?_)
        · refine z_iconst (pc := 70) (v := 4) hC dL_checks_70 (by decide) ?_
          refine z_iconst (pc := 71) (v := 4) hC dL_checks_71 (by decide) ?_
          refine z_aln (pc := 72) hC 1 rfl dL_checks_72 ?_
          refine z_iconst (pc := 73) (v := nI 3) hC dL_checks_73 (by decide) ?_
          refine z_il (pc := 74) hC 6 rfl dL_checks_74 ?_
          refine z_imul (pc := 76) (v := nI (3 * r)) hC (pk_mul _ _) dL_checks_76 ?_
          refine z_iconst (pc := 77) (v := nI 2) hC dL_checks_77 (by decide) ?_
          refine z_iadd (pc := 78) (v := nI (3 * r + 2)) hC (nI_add _ _) dL_checks_78 ?_
          refine z_iald (pc := 79) hC 0 rfl dL_checks_79 (3 * r + 2) rfl (by omega) (by decide) ?_
          refine z_is_ (y := R 2 r) (fA_at (by decide) _) ?_
          refine z_imul (pc := 80) (v := 4 * (R 2 r)) hC rfl dL_checks_80 ?_
          refine z_isub (pc := 81) (v := 4 - (4 * (R 2 r))) hC rfl dL_checks_81 ?_
          exact hE _ _ _ () _ _ _ dL_checks_82 rfl (by rcases hk with h | h | h <;> rcases hr2 with q | q <;> simp_all [chk]) rfl (Nat.zero_le _) (Nat.zero_le _)
        · refine z_iconst (pc := 57) (v := 3) hC dL_checks_57 (by decide) ?_
          refine z_aln (pc := 58) hC 1 rfl dL_checks_58 ?_
          refine z_iconst (pc := 59) (v := nI 3) hC dL_checks_59 (by decide) ?_
          refine z_il (pc := 60) hC 6 rfl dL_checks_60 ?_
          refine z_imul (pc := 62) (v := nI (3 * r)) hC (pk_mul _ _) dL_checks_62 ?_
          refine z_iconst (pc := 63) (v := nI 2) hC dL_checks_63 (by decide) ?_
          refine z_iadd (pc := 64) (v := nI (3 * r + 2)) hC (nI_add _ _) dL_checks_64 ?_
          refine z_iald (pc := 65) hC 0 rfl dL_checks_65 (3 * r + 2) rfl (by omega) (by decide) ?_
          refine z_is_ (y := R 2 r) (fA_at (by decide) _) ?_
          refine z_imul (pc := 66) (v := 3 * (R 2 r)) hC rfl dL_checks_66 ?_
          refine z_goto (pc := 67) hC 82 (by decide) dL_checks_67 ?_
          exact hE _ _ _ () _ _ _ dL_checks_82 rfl (by rcases hk with h | h | h <;> rcases hr2 with q | q <;> simp_all [chk]) rfl (Nat.zero_le _) (Nat.zero_le _)
      · have hs := bI_0.mp c47
        refine z_iconst (pc := 50) (v := 2) hC dL_checks_50 (by decide) ?_
        exact hE _ _ _ () _ _ _ dL_checks_51 rfl (by rcases hk with h | h | h <;> rcases hr2 with q | q <;> simp_all [chk]) rfl (Nat.zero_le _) (Nat.zero_le _)
  · refine z_aln (pc := 14) hC 1 rfl dL_checks_14 ?_
    refine z_iconst (pc := 15) (v := nI 3) hC dL_checks_15 (by decide) ?_
    refine z_il (pc := 16) hC 6 rfl dL_checks_16 ?_
    refine z_imul (pc := 18) (v := nI (3 * r)) hC (pk_mul _ _) dL_checks_18 ?_
    refine z_iald (pc := 19) hC 0 rfl dL_checks_19 (3 * r + 0) rfl (by omega) (by decide) ?_
    refine z_is_ (y := R 0 r) (fA_at (by decide) _) ?_
    refine z_aln (pc := 20) hC 3 rfl dL_checks_20 ?_
    refine z_iconst (pc := 21) (v := nI 4) hC dL_checks_21 (by decide) ?_
    refine z_il (pc := 22) hC 5 rfl dL_checks_22 ?_
    refine z_imul (pc := 24) (v := nI (4 * i)) hC (pk_mul _ _) dL_checks_24 ?_
    refine z_iconst (pc := 25) (v := nI 1) hC dL_checks_25 (by decide) ?_
    refine z_iadd (pc := 26) (v := nI (4 * i + 1)) hC (nI_add _ _) dL_checks_26 ?_
    refine z_iald (pc := 27) hC 2 rfl dL_checks_27 (4 * i + 1) rfl (by omega) (by decide) ?_
    refine z_is_ (y := R 7 i) (fJ_at (by decide) _) ?_
    refine z_iceq (pc := 28) hC 33 (by decide) dL_checks_28 (fun c28 => ?_) (fun c28 => ?_)
    · refine z_il (pc := 33) hC 0 rfl dL_checks_33 ?_
      refine z_iconst (pc := 35) (v := 2) hC dL_checks_35 (by decide) ?_
      refine z_icne (pc := 36) hC 52 (by decide) dL_checks_36 (fun c36 => ?_) (fun c36 => ?_)
      · refine z_il (pc := 52) hC 0 rfl dL_checks_52 ?_
        refine z_ifne (pc := 54) hC 70 (by decide) dL_checks_54 (fun c54 => ?_) (fun c54 => ?_)
        · refine z_iconst (pc := 70) (v := 4) hC dL_checks_70 (by decide) ?_
          refine z_iconst (pc := 71) (v := 4) hC dL_checks_71 (by decide) ?_
          refine z_aln (pc := 72) hC 1 rfl dL_checks_72 ?_
          refine z_iconst (pc := 73) (v := nI 3) hC dL_checks_73 (by decide) ?_
          refine z_il (pc := 74) hC 6 rfl dL_checks_74 ?_
          refine z_imul (pc := 76) (v := nI (3 * r)) hC (pk_mul _ _) dL_checks_76 ?_
          refine z_iconst (pc := 77) (v := nI 2) hC dL_checks_77 (by decide) ?_
          refine z_iadd (pc := 78) (v := nI (3 * r + 2)) hC (nI_add _ _) dL_checks_78 ?_
          refine z_iald (pc := 79) hC 0 rfl dL_checks_79 (3 * r + 2) rfl (by omega) (by decide) ?_
          refine z_is_ (y := R 2 r) (fA_at (by decide) _) ?_
          refine z_imul (pc := 80) (v := 4 * (R 2 r)) hC rfl dL_checks_80 ?_
          refine z_isub (pc := 81) (v := 4 - (4 * (R 2 r))) hC rfl dL_checks_81 ?_
          exact hE _ _ _ () _ _ _ dL_checks_82 rfl (by rcases hk with h | h | h <;> rcases hr2 with q | q <;> simp_all [chk]) rfl (Nat.zero_le _) (Nat.zero_le _)
        · refine z_iconst (pc := 57) (v := 3) hC dL_checks_57 (by decide) ?_
          refine z_aln (pc := 58) hC 1 rfl dL_checks_58 ?_
          refine z_iconst (pc := 59) (v := nI 3) hC dL_checks_59 (by decide) ?_
          refine z_il (pc := 60) hC 6 rfl dL_checks_60 ?_
          refine z_imul (pc := 62) (v := nI (3 * r)) hC (pk_mul _ _) dL_checks_62 ?_
          refine z_iconst (pc := 63) (v := nI 2) hC dL_checks_63 (by decide) ?_
          refine z_iadd (pc := 64) (v := nI (3 * r + 2)) hC (nI_add _ _) dL_checks_64 ?_
          refine z_iald (pc := 65) hC 0 rfl dL_checks_65 (3 * r + 2) rfl (by omega) (by decide) ?_
          refine z_is_ (y := R 2 r) (fA_at (by decide) _) ?_
          refine z_imul (pc := 66) (v := 3 * (R 2 r)) hC rfl dL_checks_66 ?_
          refine z_goto (pc := 67) hC 82 (by decide) dL_checks_67 ?_
          exact hE _ _ _ () _ _ _ dL_checks_82 rfl (by rcases hk with h | h | h <;> rcases hr2 with q | q <;> simp_all [chk]) rfl (Nat.zero_le _) (Nat.zero_le _)
      · refine z_aln (pc := 39) hC 1 rfl dL_checks_39 ?_
        refine z_aln (pc := 40) hC 2 rfl dL_checks_40 ?_
        refine z_aln (pc := 41) hC 4 rfl dL_checks_41 ?_
        refine z_il (pc := 42) hC 6 rfl dL_checks_42 ?_
        refine z_sg (pc := 44) (rest := []) hC sL_scratch lL_15 dL_checks_44 (l_scratch hr) (fun w => w) isCtx_id rfl rfl rfl (by decide) (Nat.le_of_ble_eq_true rfl) ⟨Nat.zero_le _, Nat.zero_le _⟩ ?_
        have hs0 := @bI_0 (scr R r)
        refine z_ifne (pc := 47) hC 52 (by decide) dL_checks_47 (fun c47 => ?_) (fun c47 => ?_)
        · have hs := bI_n.mp c47
          refine z_il (pc := 52) hC 0 rfl dL_checks_52 ?_
          refine z_ifne (pc := 54) hC 70 (by decide) dL_checks_54 (fun c54 => ?_) (fun c54 => ?_)
          · refine z_iconst (pc := 70) (v := 4) hC dL_checks_70 (by decide) ?_
            refine z_iconst (pc := 71) (v := 4) hC dL_checks_71 (by decide) ?_
            refine z_aln (pc := 72) hC 1 rfl dL_checks_72 ?_
            refine z_iconst (pc := 73) (v := nI 3) hC dL_checks_73 (by decide) ?_
            refine z_il (pc := 74) hC 6 rfl dL_checks_74 ?_
            refine z_imul (pc := 76) (v := nI (3 * r)) hC (pk_mul _ _) dL_checks_76 ?_
            refine z_iconst (pc := 77) (v := nI 2) hC dL_checks_77 (by decide) ?_
            refine z_iadd (pc := 78) (v := nI (3 * r + 2)) hC (nI_add _ _) dL_checks_78 ?_
            refine z_iald (pc := 79) hC 0 rfl dL_checks_79 (3 * r + 2) rfl (by omega) (by decide) ?_
            refine z_is_ (y := R 2 r) (fA_at (by decide) _) ?_
            refine z_imul (pc := 80) (v := 4 * (R 2 r)) hC rfl dL_checks_80 ?_
            refine z_isub (pc := 81) (v := 4 - (4 * (R 2 r))) hC rfl dL_checks_81 ?_
            exact hE _ _ _ () _ _ _ dL_checks_82 rfl (by rcases hk with h | h | h <;> rcases hr2 with q | q <;> simp_all [chk]) rfl (Nat.zero_le _) (Nat.zero_le _)
          · refine z_iconst (pc := 57) (v := 3) hC dL_checks_57 (by decide) ?_
            refine z_aln (pc := 58) hC 1 rfl dL_checks_58 ?_
            refine z_iconst (pc := 59) (v := nI 3) hC dL_checks_59 (by decide) ?_
            refine z_il (pc := 60) hC 6 rfl dL_checks_60 ?_
            refine z_imul (pc := 62) (v := nI (3 * r)) hC (pk_mul _ _) dL_checks_62 ?_
            refine z_iconst (pc := 63) (v := nI 2) hC dL_checks_63 (by decide) ?_
            refine z_iadd (pc := 64) (v := nI (3 * r + 2)) hC (nI_add _ _) dL_checks_64 ?_
            refine z_iald (pc := 65) hC 0 rfl dL_checks_65 (3 * r + 2) rfl (by omega) (by decide) ?_
            refine z_is_ (y := R 2 r) (fA_at (by decide) _) ?_
            refine z_imul (pc := 66) (v := 3 * (R 2 r)) hC rfl dL_checks_66 ?_
            refine z_goto (pc := 67) hC 82 (by decide) dL_checks_67 ?_
            exact hE _ _ _ () _ _ _ dL_checks_82 rfl (by rcases hk with h | h | h <;> rcases hr2 with q | q <;> simp_all [chk]) rfl (Nat.zero_le _) (Nat.zero_le _)
        · have hs := bI_0.mp c47
          refine z_iconst (pc := 50) (v := 2) hC dL_checks_50 (by decide) ?_
          exact hE _ _ _ () _ _ _ dL_checks_51 rfl (by rcases hk with h | h | h <;> rcases hr2 with q | q <;> simp_all [chk]) rfl (Nat.zero_le _) (Nat.zero_le _)
    · refine z_iconst (pc := 31) (v := 1) hC dL_checks_31 (by decide) ?_
      exact hE _ _ _ () _ _ _ dL_checks_32 rfl (by rcases hk with h | h | h <;> rcases hr2 with q | q <;> simp_all [chk]) rfl (Nat.zero_le _) (Nat.zero_le _)

theorem le_pred {x : Int32} {p : Nat} (hp : p < 2 ^ 30) (h : x < nI (p + 1)) : x ≤ nI p := by
  rw [Int32.lt_iff_toInt_lt, nI_toInt (by omega)] at h
  rw [Int32.le_iff_toInt_le, nI_toInt (by omega)]
  omega
theorem lt_pred {x : Int32} {p : Nat} (hp : p < 2 ^ 30) (h : x < nI (p + 1)) (hn : ¬ x = nI p) : x < nI p := by
  rcases Int32.lt_or_eq_of_le (le_pred hp h) with h1 | h1
  · exact h1
  · exact absurd h1 hn

theorem fnd_lt {R : St} {j : Nat} (h : fnd R j < 0) : fnd R j = -1 := by
  apply Classical.byContradiction
  intro e
  obtain ⟨r, hr, hf, -⟩ := fnd_ne e
  rw [hf] at h
  exact nI_pos (by omega) h

set_option maxRecDepth 100000 in
set_option maxHeartbeats 4000000 in
theorem l_next {g : zG} {v : Nat → Nat} {R : St} {n : Nat} (hI : Inv R n) (hK : KI R n) : Gi g yL_next cL_next 7 .int 1 [.ref (v 0), .ref (v 1), .ref (v 2), .ref (v 3), .ref (v 4)] (lgW g.2 v R) (nxt R n) (lgW g.2 v R) := by
  refine fi_entry (by decide) (Nat.le_of_ble_eq_true rfl) (fun C hC hm hE => ?_)
  have hn12 := hI.1
  have loop : ∀ p : Nat, p ≤ 10 → (∀ j, j < n → elig R j = true → R 9 j < nI p) → Z g C 0 0 (lgW g.2 v R) [(5, .int (dn p)), (0, .ref (v 0)), (1, .ref (v 1)), (2, .ref (v 2)), (3, .ref (v 3)), (4, .ref (v 4))] 4 [] := by
    intro p
    induction p with
    | zero =>
      intro hp0 ho
      refine z_il (pc := 4) hC 0 rfl dL_next_4 ?_
      refine z_iflt (pc := 6) hC 70 (by decide) dL_next_6 (fun c6 => ?_) (fun c6 => absurd dn_0 c6)
      refine z_iconst (pc := 70) (v := -1) hC dL_next_70 (by decide) ?_
      exact hE _ _ _ () _ _ _ dL_next_71 rfl (best_no n 0 (fun q _ b => by cases he : elig R q with | false => rfl | true => exact absurd (Int32.lt_of_le_of_lt (hI.2.2.1 q (by omega)).2.2.1 (ho q (by omega) he)) (by decide))).symm rfl (Nat.zero_le _) (Nat.zero_le _)
    | succ p ih =>
      intro hp0 ho
      have inner : ∀ k m : Nat, m + k = n → (∀ j, j < m → elig R j = true → R 9 j < nI p) → Z g C 0 0 (lgW g.2 v R) [(6, .int (nI m)), (5, .int (nI p)), (0, .ref (v 0)), (1, .ref (v 1)), (2, .ref (v 2)), (3, .ref (v 3)), (4, .ref (v 4))] 12 [] := by
        intro k
        induction k with
        | zero =>
          intro m hm2 hp
          refine z_il (pc := 12) hC 0 rfl dL_next_12 ?_
          refine z_al (pc := 14) hC 6 rfl dL_next_14 ?_
          refine z_bipush (pc := 16) (v := 10) hC dL_next_16 (by decide) ?_
          refine z_iald (pc := 18) hC 4 rfl dL_next_18 10 rfl (by omega) (by decide) ?_
          refine z_is_ (y := nI n) hI.2.1 ?_
          refine z_icge (pc := 19) hC 64 (by decide) dL_next_19 (fun c19 => ?_) (fun c19 => absurd (nI_le (by omega) (by have := hI.1; omega)) c19)
          refine z_iinc (pc := 64) (v := dn p) (j := 1) (lv' := [(5, .int (dn p)), (6, .int (nI m)), (0, .ref (v 0)), (1, .ref (v 1)), (2, .ref (v 2)), (3, .ref (v 3)), (4, .ref (v 4))]) hC hm (by decide) rfl (dn_step p) rfl dL_next_64 ?_
          refine z_goto (pc := 67) hC 4 (by decide) dL_next_67 ?_
          refine z_lv [0, 2, 3, 4, 5, 6] rfl ?_
          exact ih (by omega) (fun j hj => hp j (by omega))
        | succ k ih2 =>
          intro m hm2 hp
          have hstep : ∀ (h : elig R m = true → R 9 m < nI p), ∀ j, j < m + 1 → elig R j = true → R 9 j < nI p := fun h j hj he => by
            rcases Nat.lt_succ_iff_lt_or_eq.mp hj with q | rfl
            · exact hp j q he
            · exact h he
          refine z_il (pc := 12) hC 0 rfl dL_next_12 ?_
          refine z_al (pc := 14) hC 6 rfl dL_next_14 ?_
          refine z_bipush (pc := 16) (v := 10) hC dL_next_16 (by decide) ?_
          refine z_iald (pc := 18) hC 4 rfl dL_next_18 10 rfl (by omega) (by decide) ?_
          refine z_is_ (y := nI n) hI.2.1 ?_
          refine z_icge (pc := 19) hC 64 (by decide) dL_next_19 (fun c19 => absurd c19 (nI_ge (by omega) (by have := hI.1; omega))) (fun c19 => ?_)
          refine z_aln (pc := 22) hC 5 rfl dL_next_22 ?_
          refine z_iconst (pc := 23) (v := nI 4) hC dL_next_23 (by decide) ?_
          refine z_il (pc := 24) hC 0 rfl dL_next_24 ?_
          refine z_imul (pc := 26) (v := nI (4 * m)) hC (pk_mul _ _) dL_next_26 ?_
          refine z_iald (pc := 27) hC 3 rfl dL_next_27 (4 * m + 0) rfl (by omega) (by decide) ?_
          refine z_is_ (y := R 10 m) (fK_at (by decide) _) ?_
          refine z_ifne (pc := 28) hC 58 (by decide) dL_next_28 (fun c28 => ?_) (fun c28 => ?_)
          · refine z_iinc (pc := 58) (v := nI (m + 1)) (j := 0) (lv' := [(6, .int (nI (m + 1))), (5, .int (nI p)), (0, .ref (v 0)), (1, .ref (v 1)), (2, .ref (v 2)), (3, .ref (v 3)), (4, .ref (v 4))]) hC hm (by decide) rfl (up_step _) rfl dL_next_58 ?_
            refine z_goto (pc := 61) hC 12 (by decide) dL_next_61 ?_
            refine z_lv [0, 1, 2, 3, 4, 5, 6] rfl ?_
            exact ih2 (m + 1) (by omega) (hstep (fun he => by first | exact absurd (elig_f c28) (by rw [he]; decide) | exact lt_pred (by omega) (ho m (by omega) he) c41 | exact absurd (elig_g (fnd_lt c52)) (by rw [he]; decide)))
          · refine z_aln (pc := 31) hC 4 rfl dL_next_31 ?_
            refine z_iconst (pc := 32) (v := nI 4) hC dL_next_32 (by decide) ?_
            refine z_il (pc := 33) hC 0 rfl dL_next_33 ?_
            refine z_imul (pc := 35) (v := nI (4 * m)) hC (pk_mul _ _) dL_next_35 ?_
            refine z_iconst (pc := 36) (v := nI 3) hC dL_next_36 (by decide) ?_
            refine z_iadd (pc := 37) (v := nI (4 * m + 3)) hC (nI_add _ _) dL_next_37 ?_
            refine z_iald (pc := 38) hC 2 rfl dL_next_38 (4 * m + 3) rfl (by omega) (by decide) ?_
            refine z_is_ (y := R 9 m) (fJ_at (by decide) _) ?_
            refine z_il (pc := 39) hC 1 rfl dL_next_39 ?_
            refine z_icne (pc := 41) hC 58 (by decide) dL_next_41 (fun c41 => ?_) (fun c41 => ?_)
            · refine z_iinc (pc := 58) (v := nI (m + 1)) (j := 0) (lv' := [(6, .int (nI (m + 1))), (5, .int (nI p)), (0, .ref (v 0)), (1, .ref (v 1)), (2, .ref (v 2)), (3, .ref (v 3)), (4, .ref (v 4))]) hC hm (by decide) rfl (up_step _) rfl dL_next_58 ?_
              refine z_goto (pc := 61) hC 12 (by decide) dL_next_61 ?_
              refine z_lv [0, 1, 2, 3, 4, 5, 6] rfl ?_
              exact ih2 (m + 1) (by omega) (hstep (fun he => by first | exact absurd (elig_f c28) (by rw [he]; decide) | exact lt_pred (by omega) (ho m (by omega) he) c41 | exact absurd (elig_g (fnd_lt c52)) (by rw [he]; decide)))
            · refine z_aln (pc := 44) hC 2 rfl dL_next_44 ?_
              refine z_aln (pc := 45) hC 3 rfl dL_next_45 ?_
              refine z_aln (pc := 46) hC 4 rfl dL_next_46 ?_
              refine z_il (pc := 47) hC 0 rfl dL_next_47 ?_
              refine z_sg (pc := 49) (rest := []) hC sL_looks lL_11 dL_next_49 (l_looks hK (show m < 12 by have := hI.1; omega)) (fun w => w) isCtx_id rfl rfl rfl (by decide) (Nat.le_of_ble_eq_true rfl) ⟨Nat.zero_le _, Nat.zero_le _⟩ ?_
              refine z_iflt (pc := 52) hC 58 (by decide) dL_next_52 (fun c52 => ?_) (fun c52 => ?_)
              · refine z_iinc (pc := 58) (v := nI (m + 1)) (j := 0) (lv' := [(6, .int (nI (m + 1))), (5, .int (nI p)), (0, .ref (v 0)), (1, .ref (v 1)), (2, .ref (v 2)), (3, .ref (v 3)), (4, .ref (v 4))]) hC hm (by decide) rfl (up_step _) rfl dL_next_58 ?_
                refine z_goto (pc := 61) hC 12 (by decide) dL_next_61 ?_
                refine z_lv [0, 1, 2, 3, 4, 5, 6] rfl ?_
                exact ih2 (m + 1) (by omega) (hstep (fun he => by first | exact absurd (elig_f c28) (by rw [he]; decide) | exact lt_pred (by omega) (ho m (by omega) he) c41 | exact absurd (elig_g (fnd_lt c52)) (by rw [he]; decide)))
              · refine z_il (pc := 55) hC 0 rfl dL_next_55 ?_
                exact hE _ _ _ () _ _ _ dL_next_57 rfl (best_is (elig_t c28 (fun e => c52 (by rw [e]; decide))) n 0 (by have := hI.1; omega) (Nat.zero_le _) (by omega) (fun q _ b c => by rw [c41]; exact le_pred (by omega) (ho q (by omega) c)) (fun q _ b c => by rw [c41]; exact hp q b c)).symm rfl (Nat.zero_le _) (Nat.zero_le _)
      refine z_il (pc := 4) hC 0 rfl dL_next_4 ?_
      refine z_iflt (pc := 6) hC 70 (by decide) dL_next_6 (fun c6 => absurd c6 (nI_nlt0 (by omega))) (fun c6 => ?_)
      refine z_iconst (pc := 9) (v := nI 0) hC dL_next_9 (by decide) ?_
      refine z_is (pc := 10) (lv' := [(6, .int (nI 0)), (5, .int (nI p)), (0, .ref (v 0)), (1, .ref (v 1)), (2, .ref (v 2)), (3, .ref (v 3)), (4, .ref (v 4))]) hC hm (by decide) rfl dL_next_10 ?_
      refine z_lv [0, 1, 2, 3, 4, 5, 6] rfl ?_
      exact inner n 0 (by omega) (fun j h => absurd h (Nat.not_lt_zero j))
  refine z_bipush (pc := 0) (v := nI 9) hC dL_next_0 (by decide) ?_
  refine z_is (pc := 2) (lv' := [(5, .int (nI 9)), (0, .ref (v 0)), (1, .ref (v 1)), (2, .ref (v 2)), (3, .ref (v 3)), (4, .ref (v 4))]) hC hm (by decide) rfl dL_next_2 ?_
  refine z_lv [0, 1, 2, 3, 4, 5] rfl ?_
  exact loop 10 (Nat.le_refl _) (fun j hj _ => Int32.lt_of_le_of_lt (hK.1 j hj).2 (by decide))

set_option maxRecDepth 100000 in
set_option maxHeartbeats 4000000 in
theorem l_takes {g : zG} {v : Nat → Nat} {R : St} {n i : Nat} {q : Int32} (hK : KI R n) (hi : i < 12) (hne : ¬ fnd R i = -1) : Gi g yL_takes cL_takes 7 .int 1 [.ref (v 0), .ref (v 1), .ref (v 2), .ref (v 4), .int (nI i), .int q] (lgW g.2 v R) (tk R i q) (lgW g.2 v R) := by
  refine fi_entry (by decide) (Nat.le_of_ble_eq_true rfl) (fun C hC hm hE => ?_)
  obtain ⟨r, hr, hf, hsh⟩ := fnd_ne hne
  have loop : slp R q = true → ∀ k m : Nat, m + k = 12 → (∀ s, 1 ≤ s → s ≤ m → onSh R ((r + s) % 12) = false) → Z g C 0 0 (lgW g.2 v R) [(6, .int (nI ((r + m) % 12))), (0, .ref (v 0)), (1, .ref (v 1)), (2, .ref (v 2)), (3, .ref (v 4)), (4, .int (nI i)), (5, .int q)] 27 [] := by
    intro hsl k
    induction k with
    | zero =>
      intro m hm2 hp
      exact absurd (cyc_end hr hsh hp) (by omega)
    | succ k ih =>
      intro m hm2 hp
      have hm12 := cyc_end hr hsh hp
      refine z_il (pc := 27) hC 0 rfl dL_takes_27 ?_
      refine z_iconst (pc := 29) (v := nI 1) hC dL_takes_29 (by decide) ?_
      refine z_iadd (pc := 30) (v := nI (((r + m) % 12) + 1)) hC (nI_add _ _) dL_takes_30 ?_
      refine z_bipush (pc := 31) (v := nI 12) hC dL_takes_31 (by decide) ?_
      refine z_irem (pc := 33) (v := nI ((r + (m + 1)) % 12)) hC (nI_ne0 (by omega) (by omega)) ((pk_rem (by omega) (by omega) (by omega)).trans (congrArg nI (by omega))) dL_takes_33 ?_
      refine z_is (pc := 34) (lv' := [(6, .int (nI ((r + (m + 1)) % 12))), (0, .ref (v 0)), (1, .ref (v 1)), (2, .ref (v 2)), (3, .ref (v 4)), (4, .int (nI i)), (5, .int q)]) hC hm (by decide) rfl dL_takes_34 ?_
      refine z_aln (pc := 36) hC 2 rfl dL_takes_36 ?_
      refine z_iconst (pc := 37) (v := nI 3) hC dL_takes_37 (by decide) ?_
      refine z_il (pc := 38) hC 0 rfl dL_takes_38 ?_
      refine z_imul (pc := 40) (v := nI (3 * ((r + (m + 1)) % 12))) hC (pk_mul _ _) dL_takes_40 ?_
      refine z_iconst (pc := 41) (v := nI 2) hC dL_takes_41 (by decide) ?_
      refine z_iadd (pc := 42) (v := nI (3 * ((r + (m + 1)) % 12) + 2)) hC (nI_add _ _) dL_takes_42 ?_
      refine z_iald (pc := 43) hC 1 rfl dL_takes_43 (3 * ((r + (m + 1)) % 12) + 2) rfl (by have := Nat.mod_lt (r + (m + 1)) (show 0 < 12 by omega); omega) (by decide) ?_
      refine z_is_ (y := R 5 ((r + (m + 1)) % 12)) (fB_at (by decide) _) ?_
      refine z_ifge (pc := 44) hC 27 (by decide) dL_takes_44 (fun c44 => ?_) (fun c44 => ?_)
      · refine z_lv [0, 1, 2, 3, 4, 5, 6] rfl ?_
        exact ih (m + 1) (by omega) (fun s h1 h2 => by
          rcases Nat.lt_or_eq_of_le h2 with z | rfl
          · exact hp s h1 (by omega)
          · exact sh_f c44)
      · refine z_il (pc := 47) hC 0 rfl dL_takes_47 ?_
        exact hE _ _ _ () _ _ _ dL_takes_49 rfl (by rw [tk, if_pos hsl, hf]; exact (aft_cyc hr (by omega) hp (sh_t hK (Nat.mod_lt _ (by omega)) c44)).symm) rfl (Nat.zero_le _) (Nat.zero_le _)
  refine z_aln (pc := 0) hC 0 rfl dL_takes_0 ?_
  refine z_aln (pc := 1) hC 1 rfl dL_takes_1 ?_
  refine z_aln (pc := 2) hC 2 rfl dL_takes_2 ?_
  refine z_il (pc := 3) hC 4 rfl dL_takes_3 ?_
  refine z_sg (pc := 5) (rest := []) hC sL_looks lL_11 dL_takes_5 (l_looks hK hi) (fun w => w) isCtx_id rfl rfl rfl (by decide) (Nat.le_of_ble_eq_true rfl) ⟨Nat.zero_le _, Nat.zero_le _⟩ ?_
  refine z_is_ (y := nI r) hf ?_
  refine z_is (pc := 8) (lv' := [(6, .int (nI r)), (0, .ref (v 0)), (1, .ref (v 1)), (2, .ref (v 2)), (3, .ref (v 4)), (4, .int (nI i)), (5, .int q)]) hC hm (by decide) rfl dL_takes_8 ?_
  refine z_aln (pc := 10) hC 4 rfl dL_takes_10 ?_
  refine z_bipush (pc := 11) (v := 8) hC dL_takes_11 (by decide) ?_
  refine z_iald (pc := 13) hC 4 rfl dL_takes_13 8 rfl (by omega) (by decide) ?_
  refine z_ifle (pc := 14) hC 47 (by decide) dL_takes_14 (fun c14 => ?_) (fun c14 => ?_)
  · have hc0 : R 14 8 = 0 := Int32.le_antisymm c14 hK.2.2
    refine z_il (pc := 47) hC 0 rfl dL_takes_47 ?_
    exact hE _ _ _ () _ _ _ dL_takes_49 rfl (by rw [tk, if_neg (by first | (simp [slp, hc0]; done) | (simp [slp, hc0, c24]; done)), hf]) rfl (Nat.zero_le _) (Nat.zero_le _)
  · have hc0 : ¬ R 14 8 = 0 := fun e => c14 (by rw [e]; decide)
    refine z_il (pc := 17) hC 6 rfl dL_takes_17 ?_
    refine z_aln (pc := 19) hC 4 rfl dL_takes_19 ?_
    refine z_bipush (pc := 20) (v := 8) hC dL_takes_20 (by decide) ?_
    refine z_iald (pc := 22) hC 4 rfl dL_takes_22 8 rfl (by omega) (by decide) ?_
    refine z_irem (pc := 23) (v := q - q / (R 14 8) * (R 14 8)) hC hc0 rfl dL_takes_23 ?_
    refine z_ifne (pc := 24) hC 47 (by decide) dL_takes_24 (fun c24 => ?_) (fun c24 => ?_)
    · refine z_il (pc := 47) hC 0 rfl dL_takes_47 ?_
      exact hE _ _ _ () _ _ _ dL_takes_49 rfl (by rw [tk, if_neg (by first | (simp [slp, hc0]; done) | (simp [slp, hc0, c24]; done)), hf]) rfl (Nat.zero_le _) (Nat.zero_le _)
    · have hsl : slp R q = true := by simp [slp, hc0, c24]
      refine z_lv (lv' := [(6, .int (nI ((r + 0) % 12))), (0, .ref (v 0)), (1, .ref (v 1)), (2, .ref (v 2)), (3, .ref (v 4)), (4, .int (nI i)), (5, .int q)]) [0, 1, 2, 3, 4, 5, 6] (by rw [show (r + 0) % 12 = r from Nat.mod_eq_of_lt hr]; rfl) ?_
      exact loop hsl 12 0 (by omega) (fun s h1 h2 => by omega)
