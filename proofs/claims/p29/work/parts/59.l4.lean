set_option maxRecDepth 100000 in
set_option maxHeartbeats 4000000 in
theorem l_copy {g : zG} {a b N : Nat} {f f2 : Nat → Int32} (hN : N ≤ 4096) : Gv g yL_copy cL_copy 3 0 [.ref a, .ref b] ([(a, .inl (g.2 0, N, .inl f)), (b, .inl (g.2 0, N, .inl f2))]) ([(a, .inl (g.2 0, N, .inl f)), (b, .inl (g.2 0, N, .inl f))]) := by
  refine fv_entry (by decide) (Nat.le_of_ble_eq_true rfl) (fun C hC hm _ hE => ?_)
  have loop : ∀ k m : Nat, m + k = N → Z g C 0 0 ([(a, .inl (g.2 0, N, .inl f)), (b, .inl (g.2 0, N, .inl (wrt f2 f 0 m)))]) [(2, .int (nI m)), (0, .ref a), (1, .ref b)] 2 [] := by
    intro k
    induction k with
    | zero =>
      intro m hm2
      refine z_iln (pc := 2) hC 0 rfl dL_copy_2 ?_
      refine z_aln (pc := 3) hC 1 rfl dL_copy_3 ?_
      refine z_alen (pc := 4) hC 0 rfl dL_copy_4 ?_
      refine z_icge (pc := 5) hC 20 (by decide) dL_copy_5 (fun c5 => ?_) (fun c5 => absurd (nI_le (by omega) (by omega)) c5)
      refine z_cell (ws' := [(a, .inl (g.2 0, N, .inl f)), (b, .inl (g.2 0, N, .inl f))]) 1 rfl (fun j hj => wrt_in f2 f (by omega)) rfl ?_
      exact hE _ _ () _ _ _ dL_copy_20 trivial rfl (Nat.zero_le _) (Nat.zero_le _)
    | succ k ih =>
      intro m hm2
      refine z_iln (pc := 2) hC 0 rfl dL_copy_2 ?_
      refine z_aln (pc := 3) hC 1 rfl dL_copy_3 ?_
      refine z_alen (pc := 4) hC 0 rfl dL_copy_4 ?_
      refine z_icge (pc := 5) hC 20 (by decide) dL_copy_5 (fun c5 => absurd c5 (nI_ge (by omega) (by omega))) (fun c5 => ?_)
      refine z_aln (pc := 8) hC 2 rfl dL_copy_8 ?_
      refine z_iln (pc := 9) hC 0 rfl dL_copy_9 ?_
      refine z_aln (pc := 10) hC 1 rfl dL_copy_10 ?_
      refine z_iln (pc := 11) hC 0 rfl dL_copy_11 ?_
      refine z_iald (pc := 12) hC 0 rfl dL_copy_12 m rfl (by omega) (by omega) ?_
      refine z_iast (pc := 13) (ws' := [(a, .inl (g.2 0, N, .inl f)), (b, .inl (g.2 0, N, .inl (upd (wrt f2 f 0 m) m (f m))))]) hC 1 rfl dL_copy_13 m rfl (by omega) (by omega) rfl ?_
      refine z_w (ws' := [(a, .inl (g.2 0, N, .inl f)), (b, .inl (g.2 0, N, .inl (wrt f2 f 0 (m + 1))))]) (by rw [wrt_s0]) ?_
      refine z_iinc (pc := 14) (v := nI (m + 1)) (j := 0) (lv' := [(2, .int (nI (m + 1))), (0, .ref a), (1, .ref b)]) hC hm (by decide) rfl (up_step _) rfl dL_copy_14 ?_
      refine z_goto (pc := 17) hC 2 (by decide) dL_copy_17 ?_
      refine z_lv [0, 1, 2] rfl ?_
      exact ih (m + 1) (by omega)
  refine z_iconst (pc := 0) (v := nI 0) hC dL_copy_0 (by decide) ?_
  refine z_isn (pc := 1) (lv' := [(2, .int (nI 0)), (0, .ref a), (1, .ref b)]) hC hm (by decide) rfl dL_copy_1 ?_
  refine z_cell (ws' := [(a, .inl (g.2 0, N, .inl f)), (b, .inl (g.2 0, N, .inl (wrt f2 f 0 0)))]) 1 rfl (fun j hj => by simp [wrt]) rfl ?_
  refine z_lv (lv' := [(2, .int (nI 0)), (0, .ref a), (1, .ref b)]) [0, 1, 2] rfl ?_
  exact loop N 0 (by omega)

set_option maxRecDepth 100000 in
set_option maxHeartbeats 4000000 in
theorem l_refused {g : zG} {v : Nat → Nat} {R : St} {n : Nat} {q : Int32} (hI : Inv R n) : Gi g yL_refused cL_refused 8 .boolean 1 [.ref (v 0), .ref (v 1), .ref (v 2), .ref (v 3), .ref (v 4), .int q] (lgW g.2 v R) (bI (kept R n q)) (lgW g.2 v R) := by
  refine fi_entry (by decide) (Nat.le_of_ble_eq_true rfl) (fun C hC hm hE => ?_)
  have hn12 := hI.1
  have loop2 : ∀ k m : Nat, m + k = n → Z g C 0 0 (lgW g.2 v R) [(6, .int (bI (keptA R q 12 || keptB R q m))), (7, .int (nI m)), (0, .ref (v 0)), (1, .ref (v 1)), (2, .ref (v 2)), (3, .ref (v 3)), (4, .ref (v 4)), (5, .int q)] 57 [] := by
    intro k
    induction k with
    | zero =>
      intro m hm2
      refine z_il (pc := 57) hC 1 rfl dL_refused_57 ?_
      refine z_al (pc := 59) hC 6 rfl dL_refused_59 ?_
      refine z_bipush (pc := 61) (v := 10) hC dL_refused_61 (by decide) ?_
      refine z_iald (pc := 63) hC 4 rfl dL_refused_63 10 rfl (by omega) (by decide) ?_
      refine z_is_ (y := nI n) hI.2.1 ?_
      refine z_icge (pc := 64) hC 117 (by decide) dL_refused_64 (fun c64 => ?_) (fun c64 => absurd (nI_le (by omega) (by omega)) c64)
      refine z_il (pc := 117) hC 0 rfl dL_refused_117 ?_
      exact hE _ _ _ () _ _ _ dL_refused_119 (bI_nar _) (by rw [show m = n by omega]; rfl) rfl (Nat.zero_le _) (Nat.zero_le _)
    | succ k ih =>
      intro m hm2
      refine z_il (pc := 57) hC 1 rfl dL_refused_57 ?_
      refine z_al (pc := 59) hC 6 rfl dL_refused_59 ?_
      refine z_bipush (pc := 61) (v := 10) hC dL_refused_61 (by decide) ?_
      refine z_iald (pc := 63) hC 4 rfl dL_refused_63 10 rfl (by omega) (by decide) ?_
      refine z_is_ (y := nI n) hI.2.1 ?_
      refine z_icge (pc := 64) hC 117 (by decide) dL_refused_64 (fun c64 => absurd c64 (nI_ge (by omega) (by omega))) (fun c64 => ?_)
      refine z_il (pc := 67) hC 0 rfl dL_refused_67 ?_
      refine z_ifne (pc := 69) hC 104 (by decide) dL_refused_69 (fun c69 => ?_) (fun c69 => ?_)
      · refine z_iconst (pc := 104) (v := 1) hC dL_refused_104 (by decide) ?_
        refine z_goto (pc := 105) hC 109 (by decide) dL_refused_105 ?_
        refine z_is_ (y := bI (keptA R q 12 || keptB R q (m + 1))) (bI_t (by rw [keptB_s, ← Bool.or_assoc]; first | (rw [bI_n.mp c69]; rfl) | (simp [c79, c92, c101]; done))) ?_
        refine z_is (pc := 109) (lv' := [(6, .int (bI (keptA R q 12 || keptB R q (m + 1)))), (7, .int (nI m)), (0, .ref (v 0)), (1, .ref (v 1)), (2, .ref (v 2)), (3, .ref (v 3)), (4, .ref (v 4)), (5, .int q)]) hC hm (by decide) rfl dL_refused_109 ?_
        refine z_iinc (pc := 111) (v := nI (m + 1)) (j := 1) (lv' := [(7, .int (nI (m + 1))), (6, .int (bI (keptA R q 12 || keptB R q (m + 1)))), (0, .ref (v 0)), (1, .ref (v 1)), (2, .ref (v 2)), (3, .ref (v 3)), (4, .ref (v 4)), (5, .int q)]) hC hm (by decide) rfl (up_step _) rfl dL_refused_111 ?_
        refine z_goto (pc := 114) hC 57 (by decide) dL_refused_114 ?_
        refine z_lv [1, 0, 2, 3, 4, 5, 6, 7] rfl ?_
        exact ih (m + 1) (by omega)
      · refine z_aln (pc := 72) hC 4 rfl dL_refused_72 ?_
        refine z_iconst (pc := 73) (v := nI 4) hC dL_refused_73 (by decide) ?_
        refine z_il (pc := 74) hC 1 rfl dL_refused_74 ?_
        refine z_imul (pc := 76) (v := nI (4 * m)) hC (pk_mul _ _) dL_refused_76 ?_
        refine z_iald (pc := 77) hC 2 rfl dL_refused_77 (4 * m + 0) rfl (by omega) (by decide) ?_
        refine z_is_ (y := R 6 m) (fJ_at (by decide) _) ?_
        refine z_iconst (pc := 78) (v := 2) hC dL_refused_78 (by decide) ?_
        refine z_icne (pc := 79) hC 108 (by decide) dL_refused_79 (fun c79 => ?_) (fun c79 => ?_)
        · refine z_iconst (pc := 108) (v := 0) hC dL_refused_108 (by decide) ?_
          refine z_is_ (y := bI (keptA R q 12 || keptB R q (m + 1))) (bI_f (by rw [keptB_s, ← Bool.or_assoc, bI_0.mp c69]; first | (simp [c79]; done) | (simp [c92]; done) | (simp [c101]; done))) ?_
          refine z_is (pc := 109) (lv' := [(6, .int (bI (keptA R q 12 || keptB R q (m + 1)))), (7, .int (nI m)), (0, .ref (v 0)), (1, .ref (v 1)), (2, .ref (v 2)), (3, .ref (v 3)), (4, .ref (v 4)), (5, .int q)]) hC hm (by decide) rfl dL_refused_109 ?_
          refine z_iinc (pc := 111) (v := nI (m + 1)) (j := 1) (lv' := [(7, .int (nI (m + 1))), (6, .int (bI (keptA R q 12 || keptB R q (m + 1)))), (0, .ref (v 0)), (1, .ref (v 1)), (2, .ref (v 2)), (3, .ref (v 3)), (4, .ref (v 4)), (5, .int q)]) hC hm (by decide) rfl (up_step _) rfl dL_refused_111 ?_
          refine z_goto (pc := 114) hC 57 (by decide) dL_refused_114 ?_
          refine z_lv [1, 0, 2, 3, 4, 5, 6, 7] rfl ?_
          exact ih (m + 1) (by omega)
        · refine z_aln (pc := 82) hC 4 rfl dL_refused_82 ?_
          refine z_iconst (pc := 83) (v := nI 4) hC dL_refused_83 (by decide) ?_
          refine z_il (pc := 84) hC 1 rfl dL_refused_84 ?_
          refine z_imul (pc := 86) (v := nI (4 * m)) hC (pk_mul _ _) dL_refused_86 ?_
          refine z_iconst (pc := 87) (v := nI 1) hC dL_refused_87 (by decide) ?_
          refine z_iadd (pc := 88) (v := nI (4 * m + 1)) hC (nI_add _ _) dL_refused_88 ?_
          refine z_iald (pc := 89) hC 2 rfl dL_refused_89 (4 * m + 1) rfl (by omega) (by decide) ?_
          refine z_is_ (y := R 7 m) (fJ_at (by decide) _) ?_
          refine z_il (pc := 90) hC 7 rfl dL_refused_90 ?_
          refine z_icne (pc := 92) hC 108 (by decide) dL_refused_92 (fun c92 => ?_) (fun c92 => ?_)
          · refine z_iconst (pc := 108) (v := 0) hC dL_refused_108 (by decide) ?_
            refine z_is_ (y := bI (keptA R q 12 || keptB R q (m + 1))) (bI_f (by rw [keptB_s, ← Bool.or_assoc, bI_0.mp c69]; first | (simp [c79]; done) | (simp [c92]; done) | (simp [c101]; done))) ?_
            refine z_is (pc := 109) (lv' := [(6, .int (bI (keptA R q 12 || keptB R q (m + 1)))), (7, .int (nI m)), (0, .ref (v 0)), (1, .ref (v 1)), (2, .ref (v 2)), (3, .ref (v 3)), (4, .ref (v 4)), (5, .int q)]) hC hm (by decide) rfl dL_refused_109 ?_
            refine z_iinc (pc := 111) (v := nI (m + 1)) (j := 1) (lv' := [(7, .int (nI (m + 1))), (6, .int (bI (keptA R q 12 || keptB R q (m + 1)))), (0, .ref (v 0)), (1, .ref (v 1)), (2, .ref (v 2)), (3, .ref (v 3)), (4, .ref (v 4)), (5, .int q)]) hC hm (by decide) rfl (up_step _) rfl dL_refused_111 ?_
            refine z_goto (pc := 114) hC 57 (by decide) dL_refused_114 ?_
            refine z_lv [1, 0, 2, 3, 4, 5, 6, 7] rfl ?_
            exact ih (m + 1) (by omega)
          · refine z_aln (pc := 95) hC 5 rfl dL_refused_95 ?_
            refine z_iconst (pc := 96) (v := nI 4) hC dL_refused_96 (by decide) ?_
            refine z_il (pc := 97) hC 1 rfl dL_refused_97 ?_
            refine z_imul (pc := 99) (v := nI (4 * m)) hC (pk_mul _ _) dL_refused_99 ?_
            refine z_iald (pc := 100) hC 3 rfl dL_refused_100 (4 * m + 0) rfl (by omega) (by decide) ?_
            refine z_is_ (y := R 10 m) (fK_at (by decide) _) ?_
            refine z_ifne (pc := 101) hC 108 (by decide) dL_refused_101 (fun c101 => ?_) (fun c101 => ?_)
            · refine z_iconst (pc := 108) (v := 0) hC dL_refused_108 (by decide) ?_
              refine z_is_ (y := bI (keptA R q 12 || keptB R q (m + 1))) (bI_f (by rw [keptB_s, ← Bool.or_assoc, bI_0.mp c69]; first | (simp [c79]; done) | (simp [c92]; done) | (simp [c101]; done))) ?_
              refine z_is (pc := 109) (lv' := [(6, .int (bI (keptA R q 12 || keptB R q (m + 1)))), (7, .int (nI m)), (0, .ref (v 0)), (1, .ref (v 1)), (2, .ref (v 2)), (3, .ref (v 3)), (4, .ref (v 4)), (5, .int q)]) hC hm (by decide) rfl dL_refused_109 ?_
              refine z_iinc (pc := 111) (v := nI (m + 1)) (j := 1) (lv' := [(7, .int (nI (m + 1))), (6, .int (bI (keptA R q 12 || keptB R q (m + 1)))), (0, .ref (v 0)), (1, .ref (v 1)), (2, .ref (v 2)), (3, .ref (v 3)), (4, .ref (v 4)), (5, .int q)]) hC hm (by decide) rfl (up_step _) rfl dL_refused_111 ?_
              refine z_goto (pc := 114) hC 57 (by decide) dL_refused_114 ?_
              refine z_lv [1, 0, 2, 3, 4, 5, 6, 7] rfl ?_
              exact ih (m + 1) (by omega)
            · refine z_iconst (pc := 104) (v := 1) hC dL_refused_104 (by decide) ?_
              refine z_goto (pc := 105) hC 109 (by decide) dL_refused_105 ?_
              refine z_is_ (y := bI (keptA R q 12 || keptB R q (m + 1))) (bI_t (by rw [keptB_s, ← Bool.or_assoc]; first | (rw [bI_n.mp c69]; rfl) | (simp [c79, c92, c101]; done))) ?_
              refine z_is (pc := 109) (lv' := [(6, .int (bI (keptA R q 12 || keptB R q (m + 1)))), (7, .int (nI m)), (0, .ref (v 0)), (1, .ref (v 1)), (2, .ref (v 2)), (3, .ref (v 3)), (4, .ref (v 4)), (5, .int q)]) hC hm (by decide) rfl dL_refused_109 ?_
              refine z_iinc (pc := 111) (v := nI (m + 1)) (j := 1) (lv' := [(7, .int (nI (m + 1))), (6, .int (bI (keptA R q 12 || keptB R q (m + 1)))), (0, .ref (v 0)), (1, .ref (v 1)), (2, .ref (v 2)), (3, .ref (v 3)), (4, .ref (v 4)), (5, .int q)]) hC hm (by decide) rfl (up_step _) rfl dL_refused_111 ?_
              refine z_goto (pc := 114) hC 57 (by decide) dL_refused_114 ?_
              refine z_lv [1, 0, 2, 3, 4, 5, 6, 7] rfl ?_
              exact ih (m + 1) (by omega)
  have loop : ∀ k m : Nat, m + k = 12 → Z g C 0 0 (lgW g.2 v R) [(6, .int (bI (keptA R q m))), (7, .int (nI m)), (0, .ref (v 0)), (1, .ref (v 1)), (2, .ref (v 2)), (3, .ref (v 3)), (4, .ref (v 4)), (5, .int q)] 6 [] := by
    intro k
    induction k with
    | zero =>
      intro m hm2
      refine z_il (pc := 6) hC 1 rfl dL_refused_6 ?_
      refine z_bipush (pc := 8) (v := nI 12) hC dL_refused_8 (by decide) ?_
      refine z_icge (pc := 10) hC 54 (by decide) dL_refused_10 (fun c10 => ?_) (fun c10 => absurd (nI_le (by omega) (by omega)) c10)
      refine z_iconst (pc := 54) (v := nI 0) hC dL_refused_54 (by decide) ?_
      refine z_is (pc := 55) (lv' := [(7, .int (nI 0)), (6, .int (bI (keptA R q m))), (0, .ref (v 0)), (1, .ref (v 1)), (2, .ref (v 2)), (3, .ref (v 3)), (4, .ref (v 4)), (5, .int q)]) hC hm (by decide) rfl dL_refused_55 ?_
      rw [show bI (keptA R q m) = bI (keptA R q 12 || keptB R q 0) by rw [show m = 12 by omega]; simp [keptB]]
      refine z_lv [1, 0, 2, 3, 4, 5, 6, 7] rfl ?_
      exact loop2 n 0 (by omega)
    | succ k ih =>
      intro m hm2
      refine z_il (pc := 6) hC 1 rfl dL_refused_6 ?_
      refine z_bipush (pc := 8) (v := nI 12) hC dL_refused_8 (by decide) ?_
      refine z_icge (pc := 10) hC 54 (by decide) dL_refused_10 (fun c10 => absurd c10 (nI_ge (by omega) (by omega))) (fun c10 => ?_)
      refine z_il (pc := 13) hC 0 rfl dL_refused_13 ?_
      refine z_ifne (pc := 15) hC 41 (by decide) dL_refused_15 (fun c15 => ?_) (fun c15 => ?_)
      · refine z_iconst (pc := 41) (v := 1) hC dL_refused_41 (by decide) ?_
        refine z_goto (pc := 42) hC 46 (by decide) dL_refused_42 ?_
        refine z_is_ (y := bI (keptA R q (m + 1))) (bI_t (by rw [keptA_s]; first | (simp [bI_n.mp c15]; done) | (simp [c26, bI_0.mp c38]; done))) ?_
        refine z_is (pc := 46) (lv' := [(6, .int (bI (keptA R q (m + 1)))), (7, .int (nI m)), (0, .ref (v 0)), (1, .ref (v 1)), (2, .ref (v 2)), (3, .ref (v 3)), (4, .ref (v 4)), (5, .int q)]) hC hm (by decide) rfl dL_refused_46 ?_
        refine z_iinc (pc := 48) (v := nI (m + 1)) (j := 1) (lv' := [(7, .int (nI (m + 1))), (6, .int (bI (keptA R q (m + 1)))), (0, .ref (v 0)), (1, .ref (v 1)), (2, .ref (v 2)), (3, .ref (v 3)), (4, .ref (v 4)), (5, .int q)]) hC hm (by decide) rfl (up_step _) rfl dL_refused_48 ?_
        refine z_goto (pc := 51) hC 6 (by decide) dL_refused_51 ?_
        refine z_lv [1, 0, 2, 3, 4, 5, 6, 7] rfl ?_
        exact ih (m + 1) (by omega)
      · refine z_aln (pc := 18) hC 2 rfl dL_refused_18 ?_
        refine z_iconst (pc := 19) (v := nI 3) hC dL_refused_19 (by decide) ?_
        refine z_il (pc := 20) hC 1 rfl dL_refused_20 ?_
        refine z_imul (pc := 22) (v := nI (3 * m)) hC (pk_mul _ _) dL_refused_22 ?_
        refine z_iald (pc := 23) hC 0 rfl dL_refused_23 (3 * m + 0) rfl (by omega) (by decide) ?_
        refine z_is_ (y := R 0 m) (fA_at (by decide) _) ?_
        refine z_il (pc := 24) hC 7 rfl dL_refused_24 ?_
        refine z_icne (pc := 26) hC 45 (by decide) dL_refused_26 (fun c26 => ?_) (fun c26 => ?_)
        · refine z_iconst (pc := 45) (v := 0) hC dL_refused_45 (by decide) ?_
          refine z_is_ (y := bI (keptA R q (m + 1))) (bI_f (by rw [keptA_s]; first | (simp [bI_0.mp c15, c26]; done) | (simp [bI_0.mp c15, bI_n.mp c38]; done))) ?_
          refine z_is (pc := 46) (lv' := [(6, .int (bI (keptA R q (m + 1)))), (7, .int (nI m)), (0, .ref (v 0)), (1, .ref (v 1)), (2, .ref (v 2)), (3, .ref (v 3)), (4, .ref (v 4)), (5, .int q)]) hC hm (by decide) rfl dL_refused_46 ?_
          refine z_iinc (pc := 48) (v := nI (m + 1)) (j := 1) (lv' := [(7, .int (nI (m + 1))), (6, .int (bI (keptA R q (m + 1)))), (0, .ref (v 0)), (1, .ref (v 1)), (2, .ref (v 2)), (3, .ref (v 3)), (4, .ref (v 4)), (5, .int q)]) hC hm (by decide) rfl (up_step _) rfl dL_refused_48 ?_
          refine z_goto (pc := 51) hC 6 (by decide) dL_refused_51 ?_
          refine z_lv [1, 0, 2, 3, 4, 5, 6, 7] rfl ?_
          exact ih (m + 1) (by omega)
        · refine z_aln (pc := 29) hC 2 rfl dL_refused_29 ?_
          refine z_aln (pc := 30) hC 3 rfl dL_refused_30 ?_
          refine z_al (pc := 31) hC 6 rfl dL_refused_31 ?_
          refine z_il (pc := 33) hC 1 rfl dL_refused_33 ?_
          refine z_sg (pc := 35) (rest := []) hC sL_scratch lL_15 dL_refused_35 (l_scratch (by omega)) (fun w => w) isCtx_id rfl rfl rfl (by decide) (Nat.le_of_ble_eq_true rfl) ⟨Nat.zero_le _, Nat.zero_le _⟩ ?_
          refine z_ifne (pc := 38) hC 45 (by decide) dL_refused_38 (fun c38 => ?_) (fun c38 => ?_)
          · refine z_iconst (pc := 45) (v := 0) hC dL_refused_45 (by decide) ?_
            refine z_is_ (y := bI (keptA R q (m + 1))) (bI_f (by rw [keptA_s]; first | (simp [bI_0.mp c15, c26]; done) | (simp [bI_0.mp c15, bI_n.mp c38]; done))) ?_
            refine z_is (pc := 46) (lv' := [(6, .int (bI (keptA R q (m + 1)))), (7, .int (nI m)), (0, .ref (v 0)), (1, .ref (v 1)), (2, .ref (v 2)), (3, .ref (v 3)), (4, .ref (v 4)), (5, .int q)]) hC hm (by decide) rfl dL_refused_46 ?_
            refine z_iinc (pc := 48) (v := nI (m + 1)) (j := 1) (lv' := [(7, .int (nI (m + 1))), (6, .int (bI (keptA R q (m + 1)))), (0, .ref (v 0)), (1, .ref (v 1)), (2, .ref (v 2)), (3, .ref (v 3)), (4, .ref (v 4)), (5, .int q)]) hC hm (by decide) rfl (up_step _) rfl dL_refused_48 ?_
            refine z_goto (pc := 51) hC 6 (by decide) dL_refused_51 ?_
            refine z_lv [1, 0, 2, 3, 4, 5, 6, 7] rfl ?_
            exact ih (m + 1) (by omega)
          · refine z_iconst (pc := 41) (v := 1) hC dL_refused_41 (by decide) ?_
            refine z_goto (pc := 42) hC 46 (by decide) dL_refused_42 ?_
            refine z_is_ (y := bI (keptA R q (m + 1))) (bI_t (by rw [keptA_s]; first | (simp [bI_n.mp c15]; done) | (simp [c26, bI_0.mp c38]; done))) ?_
            refine z_is (pc := 46) (lv' := [(6, .int (bI (keptA R q (m + 1)))), (7, .int (nI m)), (0, .ref (v 0)), (1, .ref (v 1)), (2, .ref (v 2)), (3, .ref (v 3)), (4, .ref (v 4)), (5, .int q)]) hC hm (by decide) rfl dL_refused_46 ?_
            refine z_iinc (pc := 48) (v := nI (m + 1)) (j := 1) (lv' := [(7, .int (nI (m + 1))), (6, .int (bI (keptA R q (m + 1)))), (0, .ref (v 0)), (1, .ref (v 1)), (2, .ref (v 2)), (3, .ref (v 3)), (4, .ref (v 4)), (5, .int q)]) hC hm (by decide) rfl (up_step _) rfl dL_refused_48 ?_
            refine z_goto (pc := 51) hC 6 (by decide) dL_refused_51 ?_
            refine z_lv [1, 0, 2, 3, 4, 5, 6, 7] rfl ?_
            exact ih (m + 1) (by omega)
  refine z_iconst (pc := 0) (v := 0) hC dL_refused_0 (by decide) ?_
  refine z_is_ (y := bI (keptA R q 0)) rfl ?_
  refine z_is (pc := 1) (lv' := [(6, .int (bI (keptA R q 0))), (0, .ref (v 0)), (1, .ref (v 1)), (2, .ref (v 2)), (3, .ref (v 3)), (4, .ref (v 4)), (5, .int q)]) hC hm (by decide) rfl dL_refused_1 ?_
  refine z_iconst (pc := 3) (v := nI 0) hC dL_refused_3 (by decide) ?_
  refine z_is (pc := 4) (lv' := [(7, .int (nI 0)), (6, .int (bI (keptA R q 0))), (0, .ref (v 0)), (1, .ref (v 1)), (2, .ref (v 2)), (3, .ref (v 3)), (4, .ref (v 4)), (5, .int q)]) hC hm (by decide) rfl dL_refused_4 ?_
  refine z_lv [1, 0, 2, 3, 4, 5, 6, 7] rfl ?_
  exact loop 12 0 rfl

set_option maxRecDepth 100000 in
set_option maxHeartbeats 4000000 in
theorem l_submits {g : zG} {b x : Nat} {u c a h v : Nat → Nat} {e : Nat → Nat → Nat} {Q P : Nat → Int32} {T R : St} {s p : Nat} {K : Nat → St} (hL : LI b (R, s, (Q, P, T, p, K))) {q : Int32} : FI (S := St × Nat × XS) g yL_submits cL_submits 12 .boolean 9 0 0 [.ref x, .ref (v 0), .ref (v 1), .ref (v 2), .ref (v 3), .ref (v 4), .int q] (lgW g.2 v R ++ xW g.2 x u c a h e Q P T R (nI s) (nI p) K) (fun r S => r = 1 ∧ LI b S) (fun S => bW g.2 x u c a h e v S) := by
  refine fi_entry (by decide) (Nat.le_of_ble_eq_true rfl) (fun C hC hm hE => ?_)
  obtain ⟨hG, hK, ⟨dd, hdd, hday⟩, H, t, L, hX⟩ := id hL
  have hG : GR R := hG
  have hK : KI R (nn R) := hK
  have hX : xR H s t L (Q, P, T, p, K) := hX
  have hn12 := hG.n12
  have hmi : 1 ≤ 1 + lo (q >>> (7 &&& 31)) 20 ∧ 1 + lo (q >>> (7 &&& 31)) 20 ≤ 20 := by have := lo_lt (q >>> (7 &&& 31)) (show 0 < 20 by omega); omega
  have hpr : lo (q >>> (10 &&& 31)) 10 ≤ 9 := by have := lo_lt (q >>> (10 &&& 31)) (show 0 < 10 by omega); omega
  have go : ∀ V : Nat, 1 ≤ V ∧ V ≤ 99 → canS R (nn R) (nI (lo q 3)) (nI V) = true → Z g C 0 0 (lgW g.2 v R ++ xW g.2 x u c a h e Q P T R (nI s) (nI p) K) [(0, .ref x), (1, .ref (v 0)), (2, .ref (v 1)), (3, .ref (v 2)), (4, .ref (v 3)), (5, .ref (v 4)), (6, .int q), (7, .int (nI (lo q 3))), (8, .int (nI V)), (9, .int (nI (1 + lo (q >>> (7 &&& 31)) 20))), (10, .int (nI (lo (q >>> (10 &&& 31)) 10)))] 113 [] := by
    intro V hV hcan
    have hn := canS_n hcan
    have hc0 := cSub_0 (lo_lt q (by omega)) hV hmi hpr hcan
    refine z_al (pc := 113) hC 5 rfl dL_submits_113 ?_
    refine z_bipush (pc := 115) (v := 10) hC dL_submits_115 (by decide) ?_
    refine z_iald (pc := 117) hC 4 rfl dL_submits_117 10 rfl (by omega) (by decide) ?_
    refine z_is_ (y := nI (nn R)) hG.num ?_
    refine z_is (pc := 118) (lv' := [(11, .int (nI (nn R))), (0, .ref x), (1, .ref (v 0)), (2, .ref (v 1)), (3, .ref (v 2)), (4, .ref (v 3)), (5, .ref (v 4)), (6, .int q), (7, .int (nI (lo q 3))), (8, .int (nI V)), (9, .int (nI (1 + lo (q >>> (7 &&& 31)) 20))), (10, .int (nI (lo (q >>> (10 &&& 31)) 10)))]) hC hm (by decide) rfl dL_submits_118 ?_
    refine z_aln (pc := 120) hC 4 rfl dL_submits_120 ?_
    refine z_iconst (pc := 121) (v := nI 4) hC dL_submits_121 (by decide) ?_
    refine z_il (pc := 122) hC 0 rfl dL_submits_122 ?_
    refine z_imul (pc := 124) (v := nI (4 * (nn R))) hC (pk_mul _ _) dL_submits_124 ?_
    refine z_il (pc := 125) hC 8 rfl dL_submits_125 ?_
    refine z_iast (pc := 127) (ws' := lgW g.2 v (setS R 6 (nn R) (nI (lo q 3))) ++ xW g.2 x u c a h e Q P T R (nI s) (nI p) K) hC 2 rfl dL_submits_127 (4 * (nn R) + 0) rfl (by omega) (by decide) (set_appl (Nat.le_of_ble_eq_true rfl) (lg_J (by decide))) ?_
    refine z_aln (pc := 128) hC 4 rfl dL_submits_128 ?_
    refine z_iconst (pc := 129) (v := nI 4) hC dL_submits_129 (by decide) ?_
    refine z_il (pc := 130) hC 0 rfl dL_submits_130 ?_
    refine z_imul (pc := 132) (v := nI (4 * (nn R))) hC (pk_mul _ _) dL_submits_132 ?_
    refine z_iconst (pc := 133) (v := nI 1) hC dL_submits_133 (by decide) ?_
    refine z_iadd (pc := 134) (v := nI (4 * (nn R) + 1)) hC (nI_add _ _) dL_submits_134 ?_
    refine z_il (pc := 135) hC 9 rfl dL_submits_135 ?_
    refine z_iast (pc := 137) (ws' := lgW g.2 v (setS (setS R 6 (nn R) (nI (lo q 3))) 7 (nn R) (nI V)) ++ xW g.2 x u c a h e Q P T R (nI s) (nI p) K) hC 2 rfl dL_submits_137 (4 * (nn R) + 1) rfl (by omega) (by decide) (set_appl (Nat.le_of_ble_eq_true rfl) (lg_J (by decide))) ?_
    refine z_aln (pc := 138) hC 4 rfl dL_submits_138 ?_
    refine z_iconst (pc := 139) (v := nI 4) hC dL_submits_139 (by decide) ?_
    refine z_il (pc := 140) hC 0 rfl dL_submits_140 ?_
    refine z_imul (pc := 142) (v := nI (4 * (nn R))) hC (pk_mul _ _) dL_submits_142 ?_
    refine z_iconst (pc := 143) (v := nI 2) hC dL_submits_143 (by decide) ?_
    refine z_iadd (pc := 144) (v := nI (4 * (nn R) + 2)) hC (nI_add _ _) dL_submits_144 ?_
    refine z_il (pc := 145) hC 10 rfl dL_submits_145 ?_
    refine z_iast (pc := 147) (ws' := lgW g.2 v (setS (setS (setS R 6 (nn R) (nI (lo q 3))) 7 (nn R) (nI V)) 8 (nn R) (nI (1 + lo (q >>> (7 &&& 31)) 20))) ++ xW g.2 x u c a h e Q P T R (nI s) (nI p) K) hC 2 rfl dL_submits_147 (4 * (nn R) + 2) rfl (by omega) (by decide) (set_appl (Nat.le_of_ble_eq_true rfl) (lg_J (by decide))) ?_
    refine z_aln (pc := 148) hC 4 rfl dL_submits_148 ?_
    refine z_iconst (pc := 149) (v := nI 4) hC dL_submits_149 (by decide) ?_
    refine z_il (pc := 150) hC 0 rfl dL_submits_150 ?_
    refine z_imul (pc := 152) (v := nI (4 * (nn R))) hC (pk_mul _ _) dL_submits_152 ?_
    refine z_iconst (pc := 153) (v := nI 3) hC dL_submits_153 (by decide) ?_
    refine z_iadd (pc := 154) (v := nI (4 * (nn R) + 3)) hC (nI_add _ _) dL_submits_154 ?_
    refine z_il (pc := 155) hC 11 rfl dL_submits_155 ?_
    refine z_iast (pc := 157) (ws' := lgW g.2 v (setS (setS (setS (setS R 6 (nn R) (nI (lo q 3))) 7 (nn R) (nI V)) 8 (nn R) (nI (1 + lo (q >>> (7 &&& 31)) 20))) 9 (nn R) (nI (lo (q >>> (10 &&& 31)) 10))) ++ xW g.2 x u c a h e Q P T R (nI s) (nI p) K) hC 2 rfl dL_submits_157 (4 * (nn R) + 3) rfl (by omega) (by decide) (set_appl (Nat.le_of_ble_eq_true rfl) (lg_J (by decide))) ?_
    refine z_al (pc := 158) hC 5 rfl dL_submits_158 ?_
    refine z_iconst (pc := 160) (v := nI 4) hC dL_submits_160 (by decide) ?_
    refine z_il (pc := 161) hC 0 rfl dL_submits_161 ?_
    refine z_imul (pc := 163) (v := nI (4 * (nn R))) hC (pk_mul _ _) dL_submits_163 ?_
    refine z_iconst (pc := 164) (v := 0) hC dL_submits_164 (by decide) ?_
    refine z_iast (pc := 165) (ws' := lgW g.2 v (setS (setS (setS (setS (setS R 6 (nn R) (nI (lo q 3))) 7 (nn R) (nI V)) 8 (nn R) (nI (1 + lo (q >>> (7 &&& 31)) 20))) 9 (nn R) (nI (lo (q >>> (10 &&& 31)) 10))) 10 (nn R) 0) ++ xW g.2 x u c a h e Q P T R (nI s) (nI p) K) hC 3 rfl dL_submits_165 (4 * (nn R) + 0) rfl (by omega) (by decide) (set_appl (Nat.le_of_ble_eq_true rfl) (lg_K (by decide))) ?_
    refine z_al (pc := 166) hC 5 rfl dL_submits_166 ?_
    refine z_iconst (pc := 168) (v := nI 4) hC dL_submits_168 (by decide) ?_
    refine z_il (pc := 169) hC 0 rfl dL_submits_169 ?_
    refine z_imul (pc := 171) (v := nI (4 * (nn R))) hC (pk_mul _ _) dL_submits_171 ?_
    refine z_iconst (pc := 172) (v := nI 1) hC dL_submits_172 (by decide) ?_
    refine z_iadd (pc := 173) (v := nI (4 * (nn R) + 1)) hC (nI_add _ _) dL_submits_173 ?_
    refine z_iconst (pc := 174) (v := 0) hC dL_submits_174 (by decide) ?_
    refine z_iast (pc := 175) (ws' := lgW g.2 v (setS (setS (setS (setS (setS (setS R 6 (nn R) (nI (lo q 3))) 7 (nn R) (nI V)) 8 (nn R) (nI (1 + lo (q >>> (7 &&& 31)) 20))) 9 (nn R) (nI (lo (q >>> (10 &&& 31)) 10))) 10 (nn R) 0) 11 (nn R) 0) ++ xW g.2 x u c a h e Q P T R (nI s) (nI p) K) hC 3 rfl dL_submits_175 (4 * (nn R) + 1) rfl (by omega) (by decide) (set_appl (Nat.le_of_ble_eq_true rfl) (lg_K (by decide))) ?_
    refine z_al (pc := 176) hC 5 rfl dL_submits_176 ?_
    refine z_iconst (pc := 178) (v := nI 4) hC dL_submits_178 (by decide) ?_
    refine z_il (pc := 179) hC 0 rfl dL_submits_179 ?_
    refine z_imul (pc := 181) (v := nI (4 * (nn R))) hC (pk_mul _ _) dL_submits_181 ?_
    refine z_iconst (pc := 182) (v := nI 2) hC dL_submits_182 (by decide) ?_
    refine z_iadd (pc := 183) (v := nI (4 * (nn R) + 2)) hC (nI_add _ _) dL_submits_183 ?_
    refine z_iconst (pc := 184) (v := -1) hC dL_submits_184 (by decide) ?_
    refine z_iast (pc := 185) (ws' := lgW g.2 v (setS (setS (setS (setS (setS (setS (setS R 6 (nn R) (nI (lo q 3))) 7 (nn R) (nI V)) 8 (nn R) (nI (1 + lo (q >>> (7 &&& 31)) 20))) 9 (nn R) (nI (lo (q >>> (10 &&& 31)) 10))) 10 (nn R) 0) 11 (nn R) 0) 12 (nn R) (-1)) ++ xW g.2 x u c a h e Q P T R (nI s) (nI p) K) hC 3 rfl dL_submits_185 (4 * (nn R) + 2) rfl (by omega) (by decide) (set_appl (Nat.le_of_ble_eq_true rfl) (lg_K (by decide))) ?_
    refine z_al (pc := 186) hC 5 rfl dL_submits_186 ?_
    refine z_iconst (pc := 188) (v := nI 4) hC dL_submits_188 (by decide) ?_
    refine z_il (pc := 189) hC 0 rfl dL_submits_189 ?_
    refine z_imul (pc := 191) (v := nI (4 * (nn R))) hC (pk_mul _ _) dL_submits_191 ?_
    refine z_iconst (pc := 192) (v := nI 3) hC dL_submits_192 (by decide) ?_
    refine z_iadd (pc := 193) (v := nI (4 * (nn R) + 3)) hC (nI_add _ _) dL_submits_193 ?_
    refine z_iconst (pc := 194) (v := 0) hC dL_submits_194 (by decide) ?_
    refine z_iast (pc := 195) (ws' := lgW g.2 v (setS (setS (setS (setS (setS (setS (setS (setS R 6 (nn R) (nI (lo q 3))) 7 (nn R) (nI V)) 8 (nn R) (nI (1 + lo (q >>> (7 &&& 31)) 20))) 9 (nn R) (nI (lo (q >>> (10 &&& 31)) 10))) 10 (nn R) 0) 11 (nn R) 0) 12 (nn R) (-1)) 13 (nn R) 0) ++ xW g.2 x u c a h e Q P T R (nI s) (nI p) K) hC 3 rfl dL_submits_195 (4 * (nn R) + 3) rfl (by omega) (by decide) (set_appl (Nat.le_of_ble_eq_true rfl) (lg_K (by decide))) ?_
    refine z_al (pc := 196) hC 6 rfl dL_submits_196 ?_
    refine z_bipush (pc := 198) (v := 10) hC dL_submits_198 (by decide) ?_
    refine z_dup2 (pc := 200) hC rfl rfl dL_submits_200 ?_
    refine z_iald (pc := 201) hC 4 rfl dL_submits_201 10 rfl (by omega) (by decide) ?_
    refine z_is_ (y := R 14 10) rfl ?_
    refine z_iconst (pc := 202) (v := 1) hC dL_submits_202 (by decide) ?_
    refine z_iadd (pc := 203) (v := (R 14 10) + 1) hC rfl dL_submits_203 ?_
    refine z_iast (pc := 204) (ws' := lgW g.2 v (setS (setS (setS (setS (setS (setS (setS (setS (setS R 6 (nn R) (nI (lo q 3))) 7 (nn R) (nI V)) 8 (nn R) (nI (1 + lo (q >>> (7 &&& 31)) 20))) 9 (nn R) (nI (lo (q >>> (10 &&& 31)) 10))) 10 (nn R) 0) 11 (nn R) 0) 12 (nn R) (-1)) 13 (nn R) 0) 14 10 ((R 14 10) + 1)) ++ xW g.2 x u c a h e Q P T R (nI s) (nI p) K) hC 4 rfl dL_submits_204 10 rfl (by omega) (by decide) (set_appl (Nat.le_of_ble_eq_true rfl) lg_N) ?_
    refine z_w (ws' := lgW g.2 v (subm R (nn R) (nI (lo q 3)) (nI V) (nI (1 + lo (q >>> (7 &&& 31)) 20)) (nI (lo (q >>> (10 &&& 31)) 10))) ++ xW g.2 x u c a h e Q P T R (nI s) (nI p) K) rfl ?_
    refine z_aln (pc := 205) hC 1 rfl dL_submits_205 ?_
    refine z_il (pc := 206) hC 8 rfl dL_submits_206 ?_
    refine z_il (pc := 208) hC 9 rfl dL_submits_208 ?_
    refine z_il (pc := 210) hC 10 rfl dL_submits_210 ?_
    refine z_il (pc := 212) hC 11 rfl dL_submits_212 ?_
    refine z_ik (pc := 214) (rest := []) hC vX5_submit lL_95 dL_submits_214 (k_submit hG hX hc0) (fun zw => lgW g.2 v (subm R (nn R) (nI (lo q 3)) (nI V) (nI (1 + lo (q >>> (7 &&& 31)) 20)) (nI (lo (q >>> (10 &&& 31)) 10))) ++ zw) (ctx_r _) rfl 0 5 rfl rfl rfl rfl rfl (by decide) (Nat.le_of_ble_eq_true rfl) ⟨Nat.zero_le _, Nat.zero_le _⟩ (fun r2 S2 hp2 => ?_)
    refine z_il (pc := 217) hC 0 rfl dL_submits_217 ?_
    refine z_icne (pc := 219) hC 226 (by decide) dL_submits_219 (fun c219 => absurd hp2.2.1 c219) (fun c219 => ?_)
    refine z_iconst (pc := 222) (v := 1) hC dL_submits_222 (by decide) ?_
    refine z_goto (pc := 223) hC 227 (by decide) dL_submits_223 ?_
    exact hE _ _ _ (subm R (nn R) (nI (lo q 3)) (nI V) (nI (1 + lo (q >>> (7 &&& 31)) 20)) (nI (lo (q >>> (10 &&& 31)) 10)), pushN s, S2) _ _ _ dL_submits_227 rfl ⟨rfl, li_subm hL (lo_lt q (by omega)) hmi hpr hcan hp2.2.2⟩ rfl (Nat.zero_le _) (Nat.zero_le _)
  have tail : ∀ V : Nat, 1 ≤ V ∧ V ≤ 99 → Z g C 0 0 (lgW g.2 v R ++ xW g.2 x u c a h e Q P T R (nI s) (nI p) K) [(0, .ref x), (1, .ref (v 0)), (2, .ref (v 1)), (3, .ref (v 2)), (4, .ref (v 3)), (5, .ref (v 4)), (6, .int q), (7, .int (nI (lo q 3)))] 36 [.int (nI V)] := by
    intro V hV
    refine z_is (pc := 36) (lv' := [(8, .int (nI V)), (0, .ref x), (1, .ref (v 0)), (2, .ref (v 1)), (3, .ref (v 2)), (4, .ref (v 3)), (5, .ref (v 4)), (6, .int q), (7, .int (nI (lo q 3)))]) hC hm (by decide) rfl dL_submits_36 ?_
    refine z_iconst (pc := 38) (v := nI 1) hC dL_submits_38 (by decide) ?_
    refine z_il (pc := 39) hC 7 rfl dL_submits_39 ?_
    refine z_bipush (pc := 41) (v := 7) hC dL_submits_41 (by decide) ?_
    refine z_ishr (pc := 43) (v := q >>> (7 &&& 31)) hC rfl dL_submits_43 ?_
    refine z_bipush (pc := 44) (v := nI 20) hC dL_submits_44 (by decide) ?_
    refine z_gs (pc := 46) (rest := [.int (nI 1)]) hC sL_low lL_88 dL_submits_46 (l_low (x := q >>> (7 &&& 31)) (n := 20) (by omega) (by omega)) rfl rfl (by decide) (Nat.le_of_ble_eq_true rfl) ⟨Nat.zero_le _, Nat.zero_le _⟩ ?_
    refine z_iadd (pc := 49) (v := nI (1 + (lo (q >>> (7 &&& 31)) 20))) hC (nI_add _ _) dL_submits_49 ?_
    refine z_is (pc := 50) (lv' := [(9, .int (nI (1 + (lo (q >>> (7 &&& 31)) 20)))), (8, .int (nI V)), (0, .ref x), (1, .ref (v 0)), (2, .ref (v 1)), (3, .ref (v 2)), (4, .ref (v 3)), (5, .ref (v 4)), (6, .int q), (7, .int (nI (lo q 3)))]) hC hm (by decide) rfl dL_submits_50 ?_
    refine z_il (pc := 52) hC 8 rfl dL_submits_52 ?_
    refine z_bipush (pc := 54) (v := 10) hC dL_submits_54 (by decide) ?_
    refine z_ishr (pc := 56) (v := q >>> (10 &&& 31)) hC rfl dL_submits_56 ?_
    refine z_bipush (pc := 57) (v := nI 10) hC dL_submits_57 (by decide) ?_
    refine z_gs (pc := 59) (rest := []) hC sL_low lL_88 dL_submits_59 (l_low (x := q >>> (10 &&& 31)) (n := 10) (by omega) (by omega)) rfl rfl (by decide) (Nat.le_of_ble_eq_true rfl) ⟨Nat.zero_le _, Nat.zero_le _⟩ ?_
    refine z_is (pc := 62) (lv' := [(10, .int (nI (lo (q >>> (10 &&& 31)) 10))), (9, .int (nI (1 + (lo (q >>> (7 &&& 31)) 20)))), (8, .int (nI V)), (0, .ref x), (1, .ref (v 0)), (2, .ref (v 1)), (3, .ref (v 2)), (4, .ref (v 3)), (5, .ref (v 4)), (6, .int q), (7, .int (nI (lo q 3)))]) hC hm (by decide) rfl dL_submits_62 ?_
    refine z_al (pc := 64) hC 8 rfl dL_submits_64 ?_
    refine z_bipush (pc := 66) (v := 10) hC dL_submits_66 (by decide) ?_
    refine z_iald (pc := 68) hC 4 rfl dL_submits_68 10 rfl (by omega) (by decide) ?_
    refine z_is_ (y := nI (nn R)) hG.num ?_
    refine z_bipush (pc := 69) (v := 12) hC dL_submits_69 (by decide) ?_
    refine z_iceq (pc := 71) hC 95 (by decide) dL_submits_71 (fun c71 => ?_) (fun c71 => ?_)
    · refine z_aln (pc := 95) hC 3 rfl dL_submits_95 ?_
      refine z_g (pc := 96) (rest := []) hC vX5_jobs lL_52 dL_submits_96 (k_jobs hG hX) (fun zw => lgW g.2 v R ++ zw) (ctx_r _) rfl 0 5 rfl rfl rfl rfl rfl (by decide) (Nat.le_of_ble_eq_true rfl) ⟨Nat.zero_le _, Nat.zero_le _⟩ ?_
      refine z_al (pc := 99) hC 8 rfl dL_submits_99 ?_
      refine z_bipush (pc := 101) (v := 10) hC dL_submits_101 (by decide) ?_
      refine z_iald (pc := 103) hC 4 rfl dL_submits_103 10 rfl (by omega) (by decide) ?_
      refine z_icne (pc := 104) hC 111 (by decide) dL_submits_104 (fun c104 => absurd rfl c104) (fun c104 => ?_)
      refine z_iconst (pc := 107) (v := 1) hC dL_submits_107 (by decide) ?_
      refine z_goto (pc := 108) hC 112 (by decide) dL_submits_108 ?_
      exact hE _ _ _ (R, s, (Q, P, T, p, K)) _ _ _ dL_submits_112 rfl ⟨rfl, hL⟩ rfl (Nat.zero_le _) (Nat.zero_le _)
    · refine z_il (pc := 74) hC 10 rfl dL_submits_74 ?_
      refine z_iconst (pc := 76) (v := 2) hC dL_submits_76 (by decide) ?_
      refine z_icne (pc := 77) hC 113 (by decide) dL_submits_77 (fun c77 => ?_) (fun c77 => ?_)
      · refine z_lv (lv' := [(0, .ref x), (1, .ref (v 0)), (2, .ref (v 1)), (3, .ref (v 2)), (4, .ref (v 3)), (5, .ref (v 4)), (6, .int q), (7, .int (nI (lo q 3))), (8, .int (nI V)), (9, .int (nI (1 + lo (q >>> (7 &&& 31)) 20))), (10, .int (nI (lo (q >>> (10 &&& 31)) 10)))]) [3, 4, 5, 6, 7, 8, 9, 10, 2, 1, 0] rfl ?_
        exact go V hV (canS_t (n_12 hG c71) (by first | exact Or.inl c77 | exact Or.inr (bI_0.mp c92)))
      · refine z_aln (pc := 80) hC 4 rfl dL_submits_80 ?_
        refine z_aln (pc := 81) hC 5 rfl dL_submits_81 ?_
        refine z_aln (pc := 82) hC 6 rfl dL_submits_82 ?_
        refine z_al (pc := 83) hC 7 rfl dL_submits_83 ?_
        refine z_al (pc := 85) hC 8 rfl dL_submits_85 ?_
        refine z_il (pc := 87) hC 2 rfl dL_submits_87 ?_
        refine z_sg (pc := 89) (rest := []) hC sL_refused lL_91 dL_submits_89 (l_refused (v := v) hG.1) (fun zw => zw ++ xW g.2 x u c a h e Q P T R (nI s) (nI p) K) (ctx_l _) rfl rfl rfl (by decide) (Nat.le_of_ble_eq_true rfl) ⟨Nat.zero_le _, Nat.zero_le _⟩ ?_
        refine z_ifeq (pc := 92) hC 113 (by decide) dL_submits_92 (fun c92 => ?_) (fun c92 => ?_)
        · refine z_lv (lv' := [(0, .ref x), (1, .ref (v 0)), (2, .ref (v 1)), (3, .ref (v 2)), (4, .ref (v 3)), (5, .ref (v 4)), (6, .int q), (7, .int (nI (lo q 3))), (8, .int (nI V)), (9, .int (nI (1 + lo (q >>> (7 &&& 31)) 20))), (10, .int (nI (lo (q >>> (10 &&& 31)) 10)))]) [3, 4, 5, 6, 7, 8, 9, 10, 2, 1, 0] rfl ?_
          exact go V hV (canS_t (n_12 hG c71) (by first | exact Or.inl c77 | exact Or.inr (bI_0.mp c92)))
        · refine z_aln (pc := 95) hC 3 rfl dL_submits_95 ?_
          refine z_g (pc := 96) (rest := []) hC vX5_jobs lL_52 dL_submits_96 (k_jobs hG hX) (fun zw => lgW g.2 v R ++ zw) (ctx_r _) rfl 0 5 rfl rfl rfl rfl rfl (by decide) (Nat.le_of_ble_eq_true rfl) ⟨Nat.zero_le _, Nat.zero_le _⟩ ?_
          refine z_al (pc := 99) hC 8 rfl dL_submits_99 ?_
          refine z_bipush (pc := 101) (v := 10) hC dL_submits_101 (by decide) ?_
          refine z_iald (pc := 103) hC 4 rfl dL_submits_103 10 rfl (by omega) (by decide) ?_
          refine z_icne (pc := 104) hC 111 (by decide) dL_submits_104 (fun c104 => absurd rfl c104) (fun c104 => ?_)
          refine z_iconst (pc := 107) (v := 1) hC dL_submits_107 (by decide) ?_
          refine z_goto (pc := 108) hC 112 (by decide) dL_submits_108 ?_
          exact hE _ _ _ (R, s, (Q, P, T, p, K)) _ _ _ dL_submits_112 rfl ⟨rfl, hL⟩ rfl (Nat.zero_le _) (Nat.zero_le _)
  refine z_il (pc := 0) hC 6 rfl dL_submits_0 ?_
  refine z_iconst (pc := 2) (v := nI 3) hC dL_submits_2 (by decide) ?_
  refine z_gs (pc := 3) (rest := []) hC sL_low lL_88 dL_submits_3 (l_low (x := q) (n := 3) (by omega) (by omega)) rfl rfl (by decide) (Nat.le_of_ble_eq_true rfl) ⟨Nat.zero_le _, Nat.zero_le _⟩ ?_
  refine z_is (pc := 6) (lv' := [(7, .int (nI (lo q 3))), (0, .ref x), (1, .ref (v 0)), (2, .ref (v 1)), (3, .ref (v 2)), (4, .ref (v 3)), (5, .ref (v 4)), (6, .int q)]) hC hm (by decide) rfl dL_submits_6 ?_
  refine z_iconst (pc := 8) (v := nI 1) hC dL_submits_8 (by decide) ?_
  refine z_il (pc := 9) hC 7 rfl dL_submits_9 ?_
  refine z_iconst (pc := 11) (v := 2) hC dL_submits_11 (by decide) ?_
  refine z_ishr (pc := 12) (v := q >>> (2 &&& 31)) hC rfl dL_submits_12 ?_
  refine z_il (pc := 13) hC 7 rfl dL_submits_13 ?_
  refine z_bipush (pc := 15) (v := 12) hC dL_submits_15 (by decide) ?_
  refine z_ishr (pc := 17) (v := q >>> (12 &&& 31)) hC rfl dL_submits_17 ?_
  refine z_iconst (pc := 18) (v := nI 4) hC dL_submits_18 (by decide) ?_
  refine z_gs (pc := 19) (rest := [.int (q >>> (2 &&& 31)), .int (nI 1)]) hC sL_low lL_88 dL_submits_19 (l_low (x := q >>> (12 &&& 31)) (n := 4) (by omega) (by omega)) rfl rfl (by decide) (Nat.le_of_ble_eq_true rfl) ⟨Nat.zero_le _, Nat.zero_le _⟩ ?_
  refine z_ifne (pc := 22) hC 30 (by decide) dL_submits_22 (fun c22 => ?_) (fun c22 => ?_)
  · refine z_bipush (pc := 30) (v := nI 8) hC dL_submits_30 (by decide) ?_
    refine z_gs (pc := 32) (rest := [.int (nI 1)]) hC sL_low lL_88 dL_submits_32 (l_low (x := q >>> (2 &&& 31)) (n := 8) (by omega) (by omega)) rfl rfl (by decide) (Nat.le_of_ble_eq_true rfl) ⟨Nat.zero_le _, Nat.zero_le _⟩ ?_
    refine z_iadd (pc := 35) (v := nI (1 + (lo (q >>> (2 &&& 31)) 8))) hC (nI_add _ _) dL_submits_35 ?_
    refine z_lv (lv' := [(0, .ref x), (1, .ref (v 0)), (2, .ref (v 1)), (3, .ref (v 2)), (4, .ref (v 3)), (5, .ref (v 4)), (6, .int q), (7, .int (nI (lo q 3)))]) [1, 2, 3, 4, 5, 6, 7, 0] rfl ?_
    exact tail _ (by have := lo_lt (q >>> (2 &&& 31)) (show 0 < 8 by omega); omega)
  · refine z_bipush (pc := 25) (v := nI 99) hC dL_submits_25 (by decide) ?_
    refine z_goto (pc := 27) hC 32 (by decide) dL_submits_27 ?_
    refine z_gs (pc := 32) (rest := [.int (nI 1)]) hC sL_low lL_88 dL_submits_32 (l_low (x := q >>> (2 &&& 31)) (n := 99) (by omega) (by omega)) rfl rfl (by decide) (Nat.le_of_ble_eq_true rfl) ⟨Nat.zero_le _, Nat.zero_le _⟩ ?_
    refine z_iadd (pc := 35) (v := nI (1 + (lo (q >>> (2 &&& 31)) 99))) hC (nI_add _ _) dL_submits_35 ?_
    refine z_lv (lv' := [(0, .ref x), (1, .ref (v 0)), (2, .ref (v 1)), (3, .ref (v 2)), (4, .ref (v 3)), (5, .ref (v 4)), (6, .int q), (7, .int (nI (lo q 3)))]) [1, 2, 3, 4, 5, 6, 7, 0] rfl ?_
    exact tail _ (by have := lo_lt (q >>> (2 &&& 31)) (show 0 < 99 by omega); omega)

set_option maxRecDepth 100000 in
set_option maxHeartbeats 4000000 in
theorem l_acts {g : zG} {b x : Nat} {u c a h v : Nat → Nat} {e : Nat → Nat → Nat} {Q P : Nat → Int32} {T R : St} {s p : Nat} {K : Nat → St} (hL : LI b (R, s, (Q, P, T, p, K))) (hb : b < 900) {kk : Nat} (hkk : kk < 16) {q : Int32} : FI (S := St × Nat × XS) g yL_acts cL_acts 18 .boolean 10 0 0 [.ref x, .ref (v 0), .ref (v 1), .ref (v 2), .ref (v 3), .ref (v 4), .int (nI kk), .int q] (lgW g.2 v R ++ xW g.2 x u c a h e Q P T R (nI s) (nI p) K) (fun r S => r = 1 ∧ LI (b + 1) S) (fun S => bW g.2 x u c a h e v S) := by
  refine fi_entry (by decide) (Nat.le_of_ble_eq_true rfl) (fun C hC hm hE => ?_)
  obtain ⟨hG, hK, ⟨dd, hdd, hday⟩, H, t, L, hX⟩ := id hL
  have hG : GR R := hG
  have hK : KI R (nn R) := hK
  have hX : xR H s t L (Q, P, T, p, K) := hX
  have hn12 := hG.n12
  obtain ⟨r, hr12, er⟩ : ∃ r, r < 12 ∧ lo q 12 = r := ⟨_, lo_lt _ (by omega), rfl⟩
  have k0 : Z g C 0 0 (lgW g.2 v R ++ xW g.2 x u c a h e Q P T R (nI s) (nI p) K) [(0, .ref x), (1, .ref (v 0)), (2, .ref (v 1)), (3, .ref (v 2)), (4, .ref (v 3)), (5, .ref (v 4)), (6, .int (nI kk)), (7, .int q), (8, .int (nI r))] 72 [] := by
    refine z_aln (pc := 72) hC 0 rfl dL_acts_72 ?_
    refine z_aln (pc := 73) hC 1 rfl dL_acts_73 ?_
    refine z_aln (pc := 74) hC 2 rfl dL_acts_74 ?_
    refine z_aln (pc := 75) hC 3 rfl dL_acts_75 ?_
    refine z_al (pc := 76) hC 4 rfl dL_acts_76 ?_
    refine z_al (pc := 78) hC 5 rfl dL_acts_78 ?_
    refine z_il (pc := 80) hC 7 rfl dL_acts_80 ?_
    refine z_sk (pc := 82) (rest := []) hC sL_submits lL_99 dL_acts_82 (l_submits (v := v) (q := q) hL) (fun w => w) isCtx_id rfl rfl rfl (by decide) (Nat.le_of_ble_eq_true rfl) ⟨Nat.zero_le _, Nat.zero_le _⟩ (fun r2 S2 hp2 => ?_)
    obtain ⟨rfl, hL2⟩ := hp2
    exact hE _ _ _ S2 _ _ _ dL_acts_85 rfl ⟨rfl, li_up hL2 (Nat.le_succ b)⟩ rfl (Nat.zero_le _) (Nat.zero_le _)
  have k3 : 0 < nn R → Z g C 0 0 (lgW g.2 v R ++ xW g.2 x u c a h e Q P T R (nI s) (nI p) K) [(0, .ref x), (1, .ref (v 0)), (2, .ref (v 1)), (3, .ref (v 2)), (4, .ref (v 3)), (5, .ref (v 4)), (6, .int (nI kk)), (7, .int q), (8, .int (nI r))] 86 [] := by
    intro hpos
    obtain ⟨i, hi, ei⟩ : ∃ i, i < nn R ∧ lo q (nn R) = i := ⟨_, lo_lt _ hpos, rfl⟩
    have hi12 : i < 12 := by omega
    refine z_il (pc := 86) hC 7 rfl dL_acts_86 ?_
    refine z_al (pc := 88) hC 5 rfl dL_acts_88 ?_
    refine z_bipush (pc := 90) (v := 10) hC dL_acts_90 (by decide) ?_
    refine z_iald (pc := 92) hC 4 rfl dL_acts_92 10 rfl (by omega) (by decide) ?_
    refine z_is_ (y := nI (nn R)) hG.num ?_
    refine z_gs (pc := 93) (rest := []) hC sL_low lL_88 dL_acts_93 (l_low (x := q) (n := nn R) hpos (by omega)) rfl rfl (by decide) (Nat.le_of_ble_eq_true rfl) ⟨Nat.zero_le _, Nat.zero_le _⟩ ?_
    refine z_is_ (y := nI i) (by rw [ei]) ?_
    refine z_is (pc := 96) (lv' := [(9, .int (nI i)), (0, .ref x), (1, .ref (v 0)), (2, .ref (v 1)), (3, .ref (v 2)), (4, .ref (v 3)), (5, .ref (v 4)), (6, .int (nI kk)), (7, .int q), (8, .int (nI r))]) hC hm (by decide) rfl dL_acts_96 ?_
    refine z_al (pc := 98) hC 5 rfl dL_acts_98 ?_
    refine z_iconst (pc := 100) (v := nI 4) hC dL_acts_100 (by decide) ?_
    refine z_il (pc := 101) hC 0 rfl dL_acts_101 ?_
    refine z_imul (pc := 103) (v := nI (4 * i)) hC (pk_mul _ _) dL_acts_103 ?_
    refine z_iald (pc := 104) hC 3 rfl dL_acts_104 (4 * i + 0) rfl (by omega) (by decide) ?_
    refine z_is_ (y := R 10 i) (fK_at (by decide) _) ?_
    refine z_iconst (pc := 105) (v := 1) hC dL_acts_105 (by decide) ?_
    refine z_icle (pc := 106) hC 132 (by decide) dL_acts_106 (fun c106 => ?_) (fun c106 => ?_)
    · refine z_al (pc := 132) hC 5 rfl dL_acts_132 ?_
      refine z_iconst (pc := 134) (v := nI 4) hC dL_acts_134 (by decide) ?_
      refine z_il (pc := 135) hC 0 rfl dL_acts_135 ?_
      refine z_imul (pc := 137) (v := nI (4 * i)) hC (pk_mul _ _) dL_acts_137 ?_
      refine z_iald (pc := 138) hC 3 rfl dL_acts_138 (4 * i + 0) rfl (by omega) (by decide) ?_
      refine z_is_ (y := R 10 i) (fK_at (by decide) _) ?_
      refine z_iconst (pc := 139) (v := 1) hC dL_acts_139 (by decide) ?_
      refine z_icne (pc := 140) hC 159 (by decide) dL_acts_140 (fun c140 => ?_) (fun c140 => ?_)
      · have e1 := (hG.1.2.2.1 i hi).2.1 c140
        refine z_al (pc := 159) hC 5 rfl dL_acts_159 ?_
        refine z_iconst (pc := 161) (v := nI 4) hC dL_acts_161 (by decide) ?_
        refine z_il (pc := 162) hC 0 rfl dL_acts_162 ?_
        refine z_imul (pc := 164) (v := nI (4 * i)) hC (pk_mul _ _) dL_acts_164 ?_
        refine z_iconst (pc := 165) (v := 3) hC dL_acts_165 (by decide) ?_
        refine z_iast (pc := 166) (ws' := lgW g.2 v (setS R 10 i 3) ++ xW g.2 x u c a h e Q P T R (nI s) (nI p) K) hC 3 rfl dL_acts_166 (4 * i + 0) rfl (by omega) (by decide) (set_appl (Nat.le_of_ble_eq_true rfl) (lg_K (by decide))) ?_
        refine z_al (pc := 167) hC 5 rfl dL_acts_167 ?_
        refine z_iconst (pc := 169) (v := nI 4) hC dL_acts_169 (by decide) ?_
        refine z_il (pc := 170) hC 0 rfl dL_acts_170 ?_
        refine z_imul (pc := 172) (v := nI (4 * i)) hC (pk_mul _ _) dL_acts_172 ?_
        refine z_iconst (pc := 173) (v := nI 2) hC dL_acts_173 (by decide) ?_
        refine z_iadd (pc := 174) (v := nI (4 * i + 2)) hC (nI_add _ _) dL_acts_174 ?_
        refine z_iconst (pc := 175) (v := -1) hC dL_acts_175 (by decide) ?_
        refine z_iast (pc := 176) (ws' := lgW g.2 v (setS (setS R 10 i 3) 12 i (-1)) ++ xW g.2 x u c a h e Q P T R (nI s) (nI p) K) hC 3 rfl dL_acts_176 (4 * i + 2) rfl (by omega) (by decide) (set_appl (Nat.le_of_ble_eq_true rfl) (lg_K (by decide))) ?_
        refine z_w (ws' := lgW g.2 v (rCan R i) ++ xW g.2 x u c a h e Q P T R (nI s) (nI p) K) (congrArg (fun z => lgW g.2 v z ++ _) (rCan_w c140 e1)) ?_
        refine z_aln (pc := 177) hC 1 rfl dL_acts_177 ?_
        refine z_il (pc := 178) hC 0 rfl dL_acts_178 ?_
        refine z_ik (pc := 180) (rest := []) hC vX5_cancel lL_103 dL_acts_180 (k_cancel hG hX (cCan_0 hG hi c106)) (fun zw => lgW g.2 v (rCan R i) ++ zw) (ctx_r _) rfl 0 5 rfl rfl rfl rfl rfl (by decide) (Nat.le_of_ble_eq_true rfl) ⟨Nat.zero_le _, Nat.zero_le _⟩ (fun r2 S2 hp2 => ?_)
        refine z_al (pc := 183) hC 5 rfl dL_acts_183 ?_
        refine z_iconst (pc := 185) (v := nI 4) hC dL_acts_185 (by decide) ?_
        refine z_il (pc := 186) hC 0 rfl dL_acts_186 ?_
        refine z_imul (pc := 188) (v := nI (4 * i)) hC (pk_mul _ _) dL_acts_188 ?_
        refine z_iconst (pc := 189) (v := nI 1) hC dL_acts_189 (by decide) ?_
        refine z_iadd (pc := 190) (v := nI (4 * i + 1)) hC (nI_add _ _) dL_acts_190 ?_
        refine z_iald (pc := 191) hC 3 rfl dL_acts_191 (4 * i + 1) rfl (by omega) (by decide) ?_
        refine z_is_ (y := (rCan R i) 11 i) (fK_at (by decide) _) ?_
        refine z_is_ (y := R 11 i) rCan_11 ?_
        refine z_icne (pc := 192) hC 199 (by decide) dL_acts_192 (fun c192 => absurd (by rw [hp2.2.1, ix_nI (by omega)]) c192) (fun c192 => ?_)
        refine z_iconst (pc := 195) (v := 1) hC dL_acts_195 (by decide) ?_
        refine z_goto (pc := 196) hC 200 (by decide) dL_acts_196 ?_
        exact hE _ _ _ (rCan R i, pushN s, S2) _ _ _ dL_acts_200 rfl ⟨rfl, li_up (li_can hL hi c106 hp2.2.2) (Nat.le_succ b)⟩ (by rw [ix_nI (by omega)]; rfl) (Nat.zero_le _) (Nat.zero_le _)
      · obtain ⟨r1, hr1, e1⟩ := (hG.1.2.2.1 i hi).1 c140
        refine z_aln (pc := 143) hC 3 rfl dL_acts_143 ?_
        refine z_iconst (pc := 144) (v := nI 3) hC dL_acts_144 (by decide) ?_
        refine z_al (pc := 145) hC 5 rfl dL_acts_145 ?_
        refine z_iconst (pc := 147) (v := nI 4) hC dL_acts_147 (by decide) ?_
        refine z_il (pc := 148) hC 0 rfl dL_acts_148 ?_
        refine z_imul (pc := 150) (v := nI (4 * i)) hC (pk_mul _ _) dL_acts_150 ?_
        refine z_iconst (pc := 151) (v := nI 2) hC dL_acts_151 (by decide) ?_
        refine z_iadd (pc := 152) (v := nI (4 * i + 2)) hC (nI_add _ _) dL_acts_152 ?_
        refine z_iald (pc := 153) hC 3 rfl dL_acts_153 (4 * i + 2) rfl (by omega) (by decide) ?_
        refine z_is_ (y := R 12 i) (fK_at (by decide) _) ?_
        refine z_is_ (y := nI r1) e1 ?_
        refine z_imul (pc := 154) (v := nI (3 * r1)) hC (pk_mul _ _) dL_acts_154 ?_
        refine z_iconst (pc := 155) (v := nI 2) hC dL_acts_155 (by decide) ?_
        refine z_iadd (pc := 156) (v := nI (3 * r1 + 2)) hC (nI_add _ _) dL_acts_156 ?_
        refine z_iconst (pc := 157) (v := -1) hC dL_acts_157 (by decide) ?_
        refine z_iast (pc := 158) (ws' := lgW g.2 v (setS R 5 r1 (-1)) ++ xW g.2 x u c a h e Q P T R (nI s) (nI p) K) hC 1 rfl dL_acts_158 (3 * r1 + 2) rfl (by omega) (by decide) (set_appl (Nat.le_of_ble_eq_true rfl) (lg_B (by decide))) ?_
        refine z_al (pc := 159) hC 5 rfl dL_acts_159 ?_
        refine z_iconst (pc := 161) (v := nI 4) hC dL_acts_161 (by decide) ?_
        refine z_il (pc := 162) hC 0 rfl dL_acts_162 ?_
        refine z_imul (pc := 164) (v := nI (4 * i)) hC (pk_mul _ _) dL_acts_164 ?_
        refine z_iconst (pc := 165) (v := 3) hC dL_acts_165 (by decide) ?_
        refine z_iast (pc := 166) (ws' := lgW g.2 v (setS (setS R 5 r1 (-1)) 10 i 3) ++ xW g.2 x u c a h e Q P T R (nI s) (nI p) K) hC 3 rfl dL_acts_166 (4 * i + 0) rfl (by omega) (by decide) (set_appl (Nat.le_of_ble_eq_true rfl) (lg_K (by decide))) ?_
        refine z_al (pc := 167) hC 5 rfl dL_acts_167 ?_
        refine z_iconst (pc := 169) (v := nI 4) hC dL_acts_169 (by decide) ?_
        refine z_il (pc := 170) hC 0 rfl dL_acts_170 ?_
        refine z_imul (pc := 172) (v := nI (4 * i)) hC (pk_mul _ _) dL_acts_172 ?_
        refine z_iconst (pc := 173) (v := nI 2) hC dL_acts_173 (by decide) ?_
        refine z_iadd (pc := 174) (v := nI (4 * i + 2)) hC (nI_add _ _) dL_acts_174 ?_
        refine z_iconst (pc := 175) (v := -1) hC dL_acts_175 (by decide) ?_
        refine z_iast (pc := 176) (ws' := lgW g.2 v (setS (setS (setS R 5 r1 (-1)) 10 i 3) 12 i (-1)) ++ xW g.2 x u c a h e Q P T R (nI s) (nI p) K) hC 3 rfl dL_acts_176 (4 * i + 2) rfl (by omega) (by decide) (set_appl (Nat.le_of_ble_eq_true rfl) (lg_K (by decide))) ?_
        refine z_w (ws' := lgW g.2 v (rCan R i) ++ xW g.2 x u c a h e Q P T R (nI s) (nI p) K) (congrArg (fun z => lgW g.2 v z ++ _) (rCan_r c140 e1 hr1)) ?_
        refine z_aln (pc := 177) hC 1 rfl dL_acts_177 ?_
        refine z_il (pc := 178) hC 0 rfl dL_acts_178 ?_
        refine z_ik (pc := 180) (rest := []) hC vX5_cancel lL_103 dL_acts_180 (k_cancel hG hX (cCan_0 hG hi c106)) (fun zw => lgW g.2 v (rCan R i) ++ zw) (ctx_r _) rfl 0 5 rfl rfl rfl rfl rfl (by decide) (Nat.le_of_ble_eq_true rfl) ⟨Nat.zero_le _, Nat.zero_le _⟩ (fun r2 S2 hp2 => ?_)
        refine z_al (pc := 183) hC 5 rfl dL_acts_183 ?_
        refine z_iconst (pc := 185) (v := nI 4) hC dL_acts_185 (by decide) ?_
        refine z_il (pc := 186) hC 0 rfl dL_acts_186 ?_
        refine z_imul (pc := 188) (v := nI (4 * i)) hC (pk_mul _ _) dL_acts_188 ?_
        refine z_iconst (pc := 189) (v := nI 1) hC dL_acts_189 (by decide) ?_
        refine z_iadd (pc := 190) (v := nI (4 * i + 1)) hC (nI_add _ _) dL_acts_190 ?_
        refine z_iald (pc := 191) hC 3 rfl dL_acts_191 (4 * i + 1) rfl (by omega) (by decide) ?_
        refine z_is_ (y := (rCan R i) 11 i) (fK_at (by decide) _) ?_
        refine z_is_ (y := R 11 i) rCan_11 ?_
        refine z_icne (pc := 192) hC 199 (by decide) dL_acts_192 (fun c192 => absurd (by rw [hp2.2.1, ix_nI (by omega)]) c192) (fun c192 => ?_)
        refine z_iconst (pc := 195) (v := 1) hC dL_acts_195 (by decide) ?_
        refine z_goto (pc := 196) hC 200 (by decide) dL_acts_196 ?_
        exact hE _ _ _ (rCan R i, pushN s, S2) _ _ _ dL_acts_200 rfl ⟨rfl, li_up (li_can hL hi c106 hp2.2.2) (Nat.le_succ b)⟩ (by rw [ix_nI (by omega)]; rfl) (Nat.zero_le _) (Nat.zero_le _)
    · refine z_aln (pc := 109) hC 1 rfl dL_acts_109 ?_
      refine z_il (pc := 110) hC 0 rfl dL_acts_110 ?_
      refine z_iconst (pc := 112) (v := nI 4) hC dL_acts_112 (by decide) ?_
      refine z_g (pc := 113) (rest := []) hC vX5_job lL_55 dL_acts_113 (g_job hG hX (cJob_0 hG hi (q := 4) (by omega))) (fun zw => lgW g.2 v R ++ zw) (ctx_r _) rfl 0 5 rfl rfl rfl rfl rfl (by decide) (Nat.le_of_ble_eq_true rfl) ⟨Nat.zero_le _, Nat.zero_le _⟩ ?_
      refine z_is_ (y := R 10 i) (vJob_at hi12 (by omega)) ?_
      refine z_al (pc := 116) hC 5 rfl dL_acts_116 ?_
      refine z_iconst (pc := 118) (v := nI 4) hC dL_acts_118 (by decide) ?_
      refine z_il (pc := 119) hC 0 rfl dL_acts_119 ?_
      refine z_imul (pc := 121) (v := nI (4 * i)) hC (pk_mul _ _) dL_acts_121 ?_
      refine z_iald (pc := 122) hC 3 rfl dL_acts_122 (4 * i + 0) rfl (by omega) (by decide) ?_
      refine z_is_ (y := R 10 i) (fK_at (by decide) _) ?_
      refine z_icne (pc := 123) hC 130 (by decide) dL_acts_123 (fun c123 => absurd rfl c123) (fun c123 => ?_)
      refine z_iconst (pc := 126) (v := 1) hC dL_acts_126 (by decide) ?_
      refine z_goto (pc := 127) hC 131 (by decide) dL_acts_127 ?_
      exact hE _ _ _ (R, s, (Q, P, T, p, K)) _ _ _ dL_acts_131 rfl ⟨rfl, li_up hL (Nat.le_succ b)⟩ rfl (Nat.zero_le _) (Nat.zero_le _)
  have k4 : Z g C 0 0 (lgW g.2 v R ++ xW g.2 x u c a h e Q P T R (nI s) (nI p) K) [(0, .ref x), (1, .ref (v 0)), (2, .ref (v 1)), (3, .ref (v 2)), (4, .ref (v 3)), (5, .ref (v 4)), (6, .int (nI kk)), (7, .int q), (8, .int (nI r))] 201 [] := by
    refine z_aln (pc := 201) hC 1 rfl dL_acts_201 ?_
    refine z_iconst (pc := 202) (v := nI 3) hC dL_acts_202 (by decide) ?_
    refine z_il (pc := 203) hC 8 rfl dL_acts_203 ?_
    refine z_imul (pc := 205) (v := nI (3 * r)) hC (pk_mul _ _) dL_acts_205 ?_
    refine z_iconst (pc := 206) (v := nI 1) hC dL_acts_206 (by decide) ?_
    refine z_iadd (pc := 207) (v := nI (3 * r + 1)) hC (nI_add _ _) dL_acts_207 ?_
    refine z_iald (pc := 208) hC 0 rfl dL_acts_208 (3 * r + 1) rfl (by omega) (by decide) ?_
    refine z_is_ (y := R 1 r) (fA_at (by decide) _) ?_
    refine z_is (pc := 209) (lv' := [(10, .int (R 1 r)), (0, .ref x), (1, .ref (v 0)), (2, .ref (v 1)), (3, .ref (v 2)), (4, .ref (v 3)), (5, .ref (v 4)), (6, .int (nI kk)), (7, .int q), (8, .int (nI r))]) hC hm (by decide) rfl dL_acts_209 ?_
    refine z_aln (pc := 211) hC 2 rfl dL_acts_211 ?_
    refine z_iconst (pc := 212) (v := nI 3) hC dL_acts_212 (by decide) ?_
    refine z_il (pc := 213) hC 9 rfl dL_acts_213 ?_
    refine z_imul (pc := 215) (v := nI (3 * r)) hC (pk_mul _ _) dL_acts_215 ?_
    refine z_iconst (pc := 216) (v := nI 1) hC dL_acts_216 (by decide) ?_
    refine z_iadd (pc := 217) (v := nI (3 * r + 1)) hC (nI_add _ _) dL_acts_217 ?_
    refine z_il (pc := 218) hC 8 rfl dL_acts_218 ?_
    refine z_iconst (pc := 220) (v := 4) hC dL_acts_220 (by decide) ?_
    refine z_ishr (pc := 221) (v := q >>> (4 &&& 31)) hC rfl dL_acts_221 ?_
    refine z_bipush (pc := 222) (v := nI 9) hC dL_acts_222 (by decide) ?_
    refine z_gs (pc := 224) (rest := [.int (nI (3 * r + 1)), .ref (v 0)]) hC sL_low lL_88 dL_acts_224 (l_low (x := q >>> (4 &&& 31)) (n := 9) (by omega) (by omega)) rfl rfl (by decide) (Nat.le_of_ble_eq_true rfl) ⟨Nat.zero_le _, Nat.zero_le _⟩ ?_
    refine z_iast (pc := 227) (ws' := lgW g.2 v (setS R 1 r (nI (lo (q >>> (4 &&& 31)) 9))) ++ xW g.2 x u c a h e Q P T R (nI s) (nI p) K) hC 0 rfl dL_acts_227 (3 * r + 1) rfl (by omega) (by decide) (set_appl (Nat.le_of_ble_eq_true rfl) (lg_A (by decide))) ?_
    refine z_aln (pc := 228) hC 1 rfl dL_acts_228 ?_
    refine z_il (pc := 229) hC 9 rfl dL_acts_229 ?_
    refine z_aln (pc := 231) hC 2 rfl dL_acts_231 ?_
    refine z_iconst (pc := 232) (v := nI 3) hC dL_acts_232 (by decide) ?_
    refine z_il (pc := 233) hC 9 rfl dL_acts_233 ?_
    refine z_imul (pc := 235) (v := nI (3 * r)) hC (pk_mul _ _) dL_acts_235 ?_
    refine z_iconst (pc := 236) (v := nI 1) hC dL_acts_236 (by decide) ?_
    refine z_iadd (pc := 237) (v := nI (3 * r + 1)) hC (nI_add _ _) dL_acts_237 ?_
    refine z_iald (pc := 238) hC 0 rfl dL_acts_238 (3 * r + 1) rfl (by omega) (by decide) ?_
    refine z_is_ (y := (setS R 1 r (nI (lo (q >>> (4 &&& 31)) 9))) 1 r) (fA_at (by decide) _) ?_
    refine z_is_ (y := nI (lo (q >>> (4 &&& 31)) 9)) (setS_eq R 1 r _) ?_
    refine z_ik (pc := 239) (rest := []) hC vX5_setSticker lL_106 dL_acts_239 (k_setSticker hG hX (cSti_0 hr12 (show lo (q >>> (4 &&& 31)) 9 ≤ 99 by have := lo_lt (q >>> (4 &&& 31)) (show 0 < 9 by omega); omega))) (fun zw => lgW g.2 v (setS R 1 r (nI (lo (q >>> (4 &&& 31)) 9))) ++ zw) (ctx_r _) rfl 0 5 rfl rfl rfl rfl rfl (by decide) (Nat.le_of_ble_eq_true rfl) ⟨Nat.zero_le _, Nat.zero_le _⟩ (fun r2 S2 hp2 => ?_)
    refine z_il (pc := 242) hC 0 rfl dL_acts_242 ?_
    refine z_icne (pc := 244) hC 251 (by decide) dL_acts_244 (fun c244 => absurd (by rw [hp2.2.1, ix_nI (by omega)]) c244) (fun c244 => ?_)
    refine z_iconst (pc := 247) (v := 1) hC dL_acts_247 (by decide) ?_
    refine z_goto (pc := 248) hC 252 (by decide) dL_acts_248 ?_
    exact hE _ _ _ (setS R 1 r (nI (lo (q >>> (4 &&& 31)) 9)), pushN s, S2) _ _ _ dL_acts_252 rfl ⟨rfl, li_up (li_sti hL hp2.2.2) (Nat.le_succ b)⟩ (by rw [ix_nI (by omega)]; rfl) (Nat.zero_le _) (Nat.zero_le _)
  have k6 : Z g C 0 0 (lgW g.2 v R ++ xW g.2 x u c a h e Q P T R (nI s) (nI p) K) [(0, .ref x), (1, .ref (v 0)), (2, .ref (v 1)), (3, .ref (v 2)), (4, .ref (v 3)), (5, .ref (v 4)), (6, .int (nI kk)), (7, .int q), (8, .int (nI r))] 253 [] := by
    refine z_il (pc := 253) hC 7 rfl dL_acts_253 ?_
    refine z_iconst (pc := 255) (v := 4) hC dL_acts_255 (by decide) ?_
    refine z_ishr (pc := 256) (v := q >>> (4 &&& 31)) hC rfl dL_acts_256 ?_
    refine z_iconst (pc := 257) (v := nI 2) hC dL_acts_257 (by decide) ?_
    refine z_gs (pc := 258) (rest := []) hC sL_low lL_88 dL_acts_258 (l_low (x := q >>> (4 &&& 31)) (n := 2) (by omega) (by omega)) rfl rfl (by decide) (Nat.le_of_ble_eq_true rfl) ⟨Nat.zero_le _, Nat.zero_le _⟩ ?_
    refine z_ifne (pc := 261) hC 268 (by decide) dL_acts_261 (fun c261 => ?_) (fun c261 => ?_)
    · refine z_iconst (pc := 268) (v := 0) hC dL_acts_268 (by decide) ?_
      refine z_is (pc := 269) (lv' := [(11, .int 0), (0, .ref x), (1, .ref (v 0)), (2, .ref (v 1)), (3, .ref (v 2)), (4, .ref (v 3)), (5, .ref (v 4)), (6, .int (nI kk)), (7, .int q), (8, .int (nI r))]) hC hm (by decide) rfl dL_acts_269 ?_
      refine z_aln (pc := 271) hC 3 rfl dL_acts_271 ?_
      refine z_iconst (pc := 272) (v := nI 3) hC dL_acts_272 (by decide) ?_
      refine z_il (pc := 273) hC 9 rfl dL_acts_273 ?_
      refine z_imul (pc := 275) (v := nI (3 * r)) hC (pk_mul _ _) dL_acts_275 ?_
      refine z_iconst (pc := 276) (v := nI 2) hC dL_acts_276 (by decide) ?_
      refine z_iadd (pc := 277) (v := nI (3 * r + 2)) hC (nI_add _ _) dL_acts_277 ?_
      refine z_iald (pc := 278) hC 1 rfl dL_acts_278 (3 * r + 2) rfl (by omega) (by decide) ?_
      refine z_is_ (y := R 5 r) (fB_at (by decide) _) ?_
      refine z_iflt (pc := 279) hC 306 (by decide) dL_acts_279 (fun c279 => ?_) (fun c279 => ?_)
      · refine z_aln (pc := 306) hC 2 rfl dL_acts_306 ?_
        refine z_iconst (pc := 307) (v := nI 3) hC dL_acts_307 (by decide) ?_
        refine z_il (pc := 308) hC 9 rfl dL_acts_308 ?_
        refine z_imul (pc := 310) (v := nI (3 * r)) hC (pk_mul _ _) dL_acts_310 ?_
        refine z_iconst (pc := 311) (v := nI 2) hC dL_acts_311 (by decide) ?_
        refine z_iadd (pc := 312) (v := nI (3 * r + 2)) hC (nI_add _ _) dL_acts_312 ?_
        refine z_iald (pc := 313) hC 0 rfl dL_acts_313 (3 * r + 2) rfl (by omega) (by decide) ?_
        refine z_is_ (y := R 2 r) (fA_at (by decide) _) ?_
        refine z_iconst (pc := 314) (v := 1) hC dL_acts_314 (by decide) ?_
        refine z_icne (pc := 315) hC 322 (by decide) dL_acts_315 (fun c315 => ?_) (fun c315 => ?_)
        · refine z_iconst (pc := 322) (v := 0) hC dL_acts_322 (by decide) ?_
          refine z_is_ (y := R 2 r) (rn_1 (hG.1.2.2.2.1 r hr12).1 c315) ?_
          refine z_is (pc := 323) (lv' := [(12, .int (R 2 r)), (11, .int 0), (0, .ref x), (1, .ref (v 0)), (2, .ref (v 1)), (3, .ref (v 2)), (4, .ref (v 3)), (5, .ref (v 4)), (6, .int (nI kk)), (7, .int q), (8, .int (nI r))]) hC hm (by decide) rfl dL_acts_323 ?_
          refine z_aln (pc := 325) hC 3 rfl dL_acts_325 ?_
          refine z_iconst (pc := 326) (v := nI 3) hC dL_acts_326 (by decide) ?_
          refine z_il (pc := 327) hC 10 rfl dL_acts_327 ?_
          refine z_imul (pc := 329) (v := nI (3 * r)) hC (pk_mul _ _) dL_acts_329 ?_
          refine z_iconst (pc := 330) (v := nI 2) hC dL_acts_330 (by decide) ?_
          refine z_iadd (pc := 331) (v := nI (3 * r + 2)) hC (nI_add _ _) dL_acts_331 ?_
          refine z_il (pc := 332) hC 1 rfl dL_acts_332 ?_
          refine z_ifeq (pc := 334) hC 341 (by decide) dL_acts_334 (fun c334 => ?_) (fun c334 => absurd c334 (by decide))
          refine z_iconst (pc := 341) (v := 0) hC dL_acts_341 (by decide) ?_
          refine z_iast (pc := 342) (ws' := lgW g.2 v (setS R 2 r 0) ++ xW g.2 x u c a h e Q P T R (nI s) (nI p) K) hC 0 rfl dL_acts_342 (3 * r + 2) rfl (by omega) (by decide) (set_appl (Nat.le_of_ble_eq_true rfl) (lg_A (by decide))) ?_
          refine z_aln (pc := 343) hC 2 rfl dL_acts_343 ?_
          refine z_il (pc := 344) hC 10 rfl dL_acts_344 ?_
          refine z_il (pc := 346) hC 1 rfl dL_acts_346 ?_
          refine z_ik (pc := 348) (rest := []) hC vX5_setRing lL_109 dL_acts_348 (k_setRing hG hX (z := 0) (by decide) (cRing_0 hr12 (sh_lt hK hr12 c279))) (fun zw => lgW g.2 v (setS R 2 r 0) ++ zw) (ctx_r _) rfl 0 5 rfl rfl rfl rfl rfl (by decide) (Nat.le_of_ble_eq_true rfl) ⟨Nat.zero_le _, Nat.zero_le _⟩ (fun r2 S2 hp2 => ?_)
          refine z_il (pc := 351) hC 0 rfl dL_acts_351 ?_
          refine z_icne (pc := 353) hC 360 (by decide) dL_acts_353 (fun c353 => absurd (by rw [hp2.2.1, ix_nI (by omega)]) c353) (fun c353 => ?_)
          refine z_iconst (pc := 356) (v := 1) hC dL_acts_356 (by decide) ?_
          refine z_goto (pc := 357) hC 361 (by decide) dL_acts_357 ?_
          exact hE _ _ _ (setS R 2 r 0, pushN s, S2) _ _ _ dL_acts_361 rfl ⟨rfl, li_up (li_ring hL (by decide) hp2.2.2) (Nat.le_succ b)⟩ (by rw [ix_nI (by omega)]; rfl) (Nat.zero_le _) (Nat.zero_le _)
        · refine z_iconst (pc := 318) (v := 1) hC dL_acts_318 (by decide) ?_
          refine z_goto (pc := 319) hC 323 (by decide) dL_acts_319 ?_
          refine z_is_ (y := R 2 r) c315.symm ?_
          refine z_is (pc := 323) (lv' := [(12, .int (R 2 r)), (11, .int 0), (0, .ref x), (1, .ref (v 0)), (2, .ref (v 1)), (3, .ref (v 2)), (4, .ref (v 3)), (5, .ref (v 4)), (6, .int (nI kk)), (7, .int q), (8, .int (nI r))]) hC hm (by decide) rfl dL_acts_323 ?_
          refine z_aln (pc := 325) hC 3 rfl dL_acts_325 ?_
          refine z_iconst (pc := 326) (v := nI 3) hC dL_acts_326 (by decide) ?_
          refine z_il (pc := 327) hC 10 rfl dL_acts_327 ?_
          refine z_imul (pc := 329) (v := nI (3 * r)) hC (pk_mul _ _) dL_acts_329 ?_
          refine z_iconst (pc := 330) (v := nI 2) hC dL_acts_330 (by decide) ?_
          refine z_iadd (pc := 331) (v := nI (3 * r + 2)) hC (nI_add _ _) dL_acts_331 ?_
          refine z_il (pc := 332) hC 1 rfl dL_acts_332 ?_
          refine z_ifeq (pc := 334) hC 341 (by decide) dL_acts_334 (fun c334 => ?_) (fun c334 => absurd c334 (by decide))
          refine z_iconst (pc := 341) (v := 0) hC dL_acts_341 (by decide) ?_
          refine z_iast (pc := 342) (ws' := lgW g.2 v (setS R 2 r 0) ++ xW g.2 x u c a h e Q P T R (nI s) (nI p) K) hC 0 rfl dL_acts_342 (3 * r + 2) rfl (by omega) (by decide) (set_appl (Nat.le_of_ble_eq_true rfl) (lg_A (by decide))) ?_
          refine z_aln (pc := 343) hC 2 rfl dL_acts_343 ?_
          refine z_il (pc := 344) hC 10 rfl dL_acts_344 ?_
          refine z_il (pc := 346) hC 1 rfl dL_acts_346 ?_
          refine z_ik (pc := 348) (rest := []) hC vX5_setRing lL_109 dL_acts_348 (k_setRing hG hX (z := 0) (by decide) (cRing_0 hr12 (sh_lt hK hr12 c279))) (fun zw => lgW g.2 v (setS R 2 r 0) ++ zw) (ctx_r _) rfl 0 5 rfl rfl rfl rfl rfl (by decide) (Nat.le_of_ble_eq_true rfl) ⟨Nat.zero_le _, Nat.zero_le _⟩ (fun r2 S2 hp2 => ?_)
          refine z_il (pc := 351) hC 0 rfl dL_acts_351 ?_
          refine z_icne (pc := 353) hC 360 (by decide) dL_acts_353 (fun c353 => absurd (by rw [hp2.2.1, ix_nI (by omega)]) c353) (fun c353 => ?_)
          refine z_iconst (pc := 356) (v := 1) hC dL_acts_356 (by decide) ?_
          refine z_goto (pc := 357) hC 361 (by decide) dL_acts_357 ?_
          exact hE _ _ _ (setS R 2 r 0, pushN s, S2) _ _ _ dL_acts_361 rfl ⟨rfl, li_up (li_ring hL (by decide) hp2.2.2) (Nat.le_succ b)⟩ (by rw [ix_nI (by omega)]; rfl) (Nat.zero_le _) (Nat.zero_le _)
      · refine z_aln (pc := 282) hC 1 rfl dL_acts_282 ?_
        refine z_il (pc := 283) hC 9 rfl dL_acts_283 ?_
        refine z_iconst (pc := 285) (v := nI 2) hC dL_acts_285 (by decide) ?_
        refine z_g (pc := 286) (rest := []) hC vX5_reel lL_38 dL_acts_286 (g_reel hG hX (cReel_0 hr12 (q := 2) (by omega))) (fun zw => lgW g.2 v R ++ zw) (ctx_r _) rfl 0 5 rfl rfl rfl rfl rfl (by decide) (Nat.le_of_ble_eq_true rfl) ⟨Nat.zero_le _, Nat.zero_le _⟩ ?_
        refine z_is_ (y := R 2 r) (vReel_at hr12 (by omega)) ?_
        refine z_aln (pc := 289) hC 2 rfl dL_acts_289 ?_
        refine z_iconst (pc := 290) (v := nI 3) hC dL_acts_290 (by decide) ?_
        refine z_il (pc := 291) hC 9 rfl dL_acts_291 ?_
        refine z_imul (pc := 293) (v := nI (3 * r)) hC (pk_mul _ _) dL_acts_293 ?_
        refine z_iconst (pc := 294) (v := nI 2) hC dL_acts_294 (by decide) ?_
        refine z_iadd (pc := 295) (v := nI (3 * r + 2)) hC (nI_add _ _) dL_acts_295 ?_
        refine z_iald (pc := 296) hC 0 rfl dL_acts_296 (3 * r + 2) rfl (by omega) (by decide) ?_
        refine z_is_ (y := R 2 r) (fA_at (by decide) _) ?_
        refine z_icne (pc := 297) hC 304 (by decide) dL_acts_297 (fun c297 => absurd rfl c297) (fun c297 => ?_)
        refine z_iconst (pc := 300) (v := 1) hC dL_acts_300 (by decide) ?_
        refine z_goto (pc := 301) hC 305 (by decide) dL_acts_301 ?_
        exact hE _ _ _ (R, s, (Q, P, T, p, K)) _ _ _ dL_acts_305 rfl ⟨rfl, li_up hL (Nat.le_succ b)⟩ rfl (Nat.zero_le _) (Nat.zero_le _)
    · refine z_iconst (pc := 264) (v := 1) hC dL_acts_264 (by decide) ?_
      refine z_goto (pc := 265) hC 269 (by decide) dL_acts_265 ?_
      refine z_is (pc := 269) (lv' := [(11, .int 1), (0, .ref x), (1, .ref (v 0)), (2, .ref (v 1)), (3, .ref (v 2)), (4, .ref (v 3)), (5, .ref (v 4)), (6, .int (nI kk)), (7, .int q), (8, .int (nI r))]) hC hm (by decide) rfl dL_acts_269 ?_
      refine z_aln (pc := 271) hC 3 rfl dL_acts_271 ?_
      refine z_iconst (pc := 272) (v := nI 3) hC dL_acts_272 (by decide) ?_
      refine z_il (pc := 273) hC 9 rfl dL_acts_273 ?_
      refine z_imul (pc := 275) (v := nI (3 * r)) hC (pk_mul _ _) dL_acts_275 ?_
      refine z_iconst (pc := 276) (v := nI 2) hC dL_acts_276 (by decide) ?_
      refine z_iadd (pc := 277) (v := nI (3 * r + 2)) hC (nI_add _ _) dL_acts_277 ?_
      refine z_iald (pc := 278) hC 1 rfl dL_acts_278 (3 * r + 2) rfl (by omega) (by decide) ?_
      refine z_is_ (y := R 5 r) (fB_at (by decide) _) ?_
      refine z_iflt (pc := 279) hC 306 (by decide) dL_acts_279 (fun c279 => ?_) (fun c279 => ?_)
      · refine z_aln (pc := 306) hC 2 rfl dL_acts_306 ?_
        refine z_iconst (pc := 307) (v := nI 3) hC dL_acts_307 (by decide) ?_
        refine z_il (pc := 308) hC 9 rfl dL_acts_308 ?_
        refine z_imul (pc := 310) (v := nI (3 * r)) hC (pk_mul _ _) dL_acts_310 ?_
        refine z_iconst (pc := 311) (v := nI 2) hC dL_acts_311 (by decide) ?_
        refine z_iadd (pc := 312) (v := nI (3 * r + 2)) hC (nI_add _ _) dL_acts_312 ?_
        refine z_iald (pc := 313) hC 0 rfl dL_acts_313 (3 * r + 2) rfl (by omega) (by decide) ?_
        refine z_is_ (y := R 2 r) (fA_at (by decide) _) ?_
        refine z_iconst (pc := 314) (v := 1) hC dL_acts_314 (by decide) ?_
        refine z_icne (pc := 315) hC 322 (by decide) dL_acts_315 (fun c315 => ?_) (fun c315 => ?_)
        · refine z_iconst (pc := 322) (v := 0) hC dL_acts_322 (by decide) ?_
          refine z_is_ (y := R 2 r) (rn_1 (hG.1.2.2.2.1 r hr12).1 c315) ?_
          refine z_is (pc := 323) (lv' := [(12, .int (R 2 r)), (11, .int 1), (0, .ref x), (1, .ref (v 0)), (2, .ref (v 1)), (3, .ref (v 2)), (4, .ref (v 3)), (5, .ref (v 4)), (6, .int (nI kk)), (7, .int q), (8, .int (nI r))]) hC hm (by decide) rfl dL_acts_323 ?_
          refine z_aln (pc := 325) hC 3 rfl dL_acts_325 ?_
          refine z_iconst (pc := 326) (v := nI 3) hC dL_acts_326 (by decide) ?_
          refine z_il (pc := 327) hC 10 rfl dL_acts_327 ?_
          refine z_imul (pc := 329) (v := nI (3 * r)) hC (pk_mul _ _) dL_acts_329 ?_
          refine z_iconst (pc := 330) (v := nI 2) hC dL_acts_330 (by decide) ?_
          refine z_iadd (pc := 331) (v := nI (3 * r + 2)) hC (nI_add _ _) dL_acts_331 ?_
          refine z_il (pc := 332) hC 1 rfl dL_acts_332 ?_
          refine z_ifeq (pc := 334) hC 341 (by decide) dL_acts_334 (fun c334 => absurd c334 (by decide)) (fun c334 => ?_)
          refine z_iconst (pc := 337) (v := 1) hC dL_acts_337 (by decide) ?_
          refine z_goto (pc := 338) hC 342 (by decide) dL_acts_338 ?_
          refine z_iast (pc := 342) (ws' := lgW g.2 v (setS R 2 r 1) ++ xW g.2 x u c a h e Q P T R (nI s) (nI p) K) hC 0 rfl dL_acts_342 (3 * r + 2) rfl (by omega) (by decide) (set_appl (Nat.le_of_ble_eq_true rfl) (lg_A (by decide))) ?_
          refine z_aln (pc := 343) hC 2 rfl dL_acts_343 ?_
          refine z_il (pc := 344) hC 10 rfl dL_acts_344 ?_
          refine z_il (pc := 346) hC 1 rfl dL_acts_346 ?_
          refine z_ik (pc := 348) (rest := []) hC vX5_setRing lL_109 dL_acts_348 (k_setRing hG hX (z := 1) (by decide) (cRing_0 hr12 (sh_lt hK hr12 c279))) (fun zw => lgW g.2 v (setS R 2 r 1) ++ zw) (ctx_r _) rfl 0 5 rfl rfl rfl rfl rfl (by decide) (Nat.le_of_ble_eq_true rfl) ⟨Nat.zero_le _, Nat.zero_le _⟩ (fun r2 S2 hp2 => ?_)
          refine z_il (pc := 351) hC 0 rfl dL_acts_351 ?_
          refine z_icne (pc := 353) hC 360 (by decide) dL_acts_353 (fun c353 => absurd (by rw [hp2.2.1, ix_nI (by omega)]) c353) (fun c353 => ?_)
          refine z_iconst (pc := 356) (v := 1) hC dL_acts_356 (by decide) ?_
          refine z_goto (pc := 357) hC 361 (by decide) dL_acts_357 ?_
          exact hE _ _ _ (setS R 2 r 1, pushN s, S2) _ _ _ dL_acts_361 rfl ⟨rfl, li_up (li_ring hL (by decide) hp2.2.2) (Nat.le_succ b)⟩ (by rw [ix_nI (by omega)]; rfl) (Nat.zero_le _) (Nat.zero_le _)
        · refine z_iconst (pc := 318) (v := 1) hC dL_acts_318 (by decide) ?_
          refine z_goto (pc := 319) hC 323 (by decide) dL_acts_319 ?_
          refine z_is_ (y := R 2 r) c315.symm ?_
          refine z_is (pc := 323) (lv' := [(12, .int (R 2 r)), (11, .int 1), (0, .ref x), (1, .ref (v 0)), (2, .ref (v 1)), (3, .ref (v 2)), (4, .ref (v 3)), (5, .ref (v 4)), (6, .int (nI kk)), (7, .int q), (8, .int (nI r))]) hC hm (by decide) rfl dL_acts_323 ?_
          refine z_aln (pc := 325) hC 3 rfl dL_acts_325 ?_
          refine z_iconst (pc := 326) (v := nI 3) hC dL_acts_326 (by decide) ?_
          refine z_il (pc := 327) hC 10 rfl dL_acts_327 ?_
          refine z_imul (pc := 329) (v := nI (3 * r)) hC (pk_mul _ _) dL_acts_329 ?_
          refine z_iconst (pc := 330) (v := nI 2) hC dL_acts_330 (by decide) ?_
          refine z_iadd (pc := 331) (v := nI (3 * r + 2)) hC (nI_add _ _) dL_acts_331 ?_
          refine z_il (pc := 332) hC 1 rfl dL_acts_332 ?_
          refine z_ifeq (pc := 334) hC 341 (by decide) dL_acts_334 (fun c334 => absurd c334 (by decide)) (fun c334 => ?_)
          refine z_iconst (pc := 337) (v := 1) hC dL_acts_337 (by decide) ?_
          refine z_goto (pc := 338) hC 342 (by decide) dL_acts_338 ?_
          refine z_iast (pc := 342) (ws' := lgW g.2 v (setS R 2 r 1) ++ xW g.2 x u c a h e Q P T R (nI s) (nI p) K) hC 0 rfl dL_acts_342 (3 * r + 2) rfl (by omega) (by decide) (set_appl (Nat.le_of_ble_eq_true rfl) (lg_A (by decide))) ?_
          refine z_aln (pc := 343) hC 2 rfl dL_acts_343 ?_
          refine z_il (pc := 344) hC 10 rfl dL_acts_344 ?_
          refine z_il (pc := 346) hC 1 rfl dL_acts_346 ?_
          refine z_ik (pc := 348) (rest := []) hC vX5_setRing lL_109 dL_acts_348 (k_setRing hG hX (z := 1) (by decide) (cRing_0 hr12 (sh_lt hK hr12 c279))) (fun zw => lgW g.2 v (setS R 2 r 1) ++ zw) (ctx_r _) rfl 0 5 rfl rfl rfl rfl rfl (by decide) (Nat.le_of_ble_eq_true rfl) ⟨Nat.zero_le _, Nat.zero_le _⟩ (fun r2 S2 hp2 => ?_)
          refine z_il (pc := 351) hC 0 rfl dL_acts_351 ?_
          refine z_icne (pc := 353) hC 360 (by decide) dL_acts_353 (fun c353 => absurd (by rw [hp2.2.1, ix_nI (by omega)]) c353) (fun c353 => ?_)
          refine z_iconst (pc := 356) (v := 1) hC dL_acts_356 (by decide) ?_
          refine z_goto (pc := 357) hC 361 (by decide) dL_acts_357 ?_
          exact hE _ _ _ (setS R 2 r 1, pushN s, S2) _ _ _ dL_acts_361 rfl ⟨rfl, li_up (li_ring hL (by decide) hp2.2.2) (Nat.le_succ b)⟩ (by rw [ix_nI (by omega)]; rfl) (Nat.zero_le _) (Nat.zero_le _)
      · refine z_aln (pc := 282) hC 1 rfl dL_acts_282 ?_
        refine z_il (pc := 283) hC 9 rfl dL_acts_283 ?_
        refine z_iconst (pc := 285) (v := nI 2) hC dL_acts_285 (by decide) ?_
        refine z_g (pc := 286) (rest := []) hC vX5_reel lL_38 dL_acts_286 (g_reel hG hX (cReel_0 hr12 (q := 2) (by omega))) (fun zw => lgW g.2 v R ++ zw) (ctx_r _) rfl 0 5 rfl rfl rfl rfl rfl (by decide) (Nat.le_of_ble_eq_true rfl) ⟨Nat.zero_le _, Nat.zero_le _⟩ ?_
        refine z_is_ (y := R 2 r) (vReel_at hr12 (by omega)) ?_
        refine z_aln (pc := 289) hC 2 rfl dL_acts_289 ?_
        refine z_iconst (pc := 290) (v := nI 3) hC dL_acts_290 (by decide) ?_
        refine z_il (pc := 291) hC 9 rfl dL_acts_291 ?_
        refine z_imul (pc := 293) (v := nI (3 * r)) hC (pk_mul _ _) dL_acts_293 ?_
        refine z_iconst (pc := 294) (v := nI 2) hC dL_acts_294 (by decide) ?_
        refine z_iadd (pc := 295) (v := nI (3 * r + 2)) hC (nI_add _ _) dL_acts_295 ?_
        refine z_iald (pc := 296) hC 0 rfl dL_acts_296 (3 * r + 2) rfl (by omega) (by decide) ?_
        refine z_is_ (y := R 2 r) (fA_at (by decide) _) ?_
        refine z_icne (pc := 297) hC 304 (by decide) dL_acts_297 (fun c297 => absurd rfl c297) (fun c297 => ?_)
        refine z_iconst (pc := 300) (v := 1) hC dL_acts_300 (by decide) ?_
        refine z_goto (pc := 301) hC 305 (by decide) dL_acts_301 ?_
        exact hE _ _ _ (R, s, (Q, P, T, p, K)) _ _ _ dL_acts_305 rfl ⟨rfl, li_up hL (Nat.le_succ b)⟩ rfl (Nat.zero_le _) (Nat.zero_le _)
  have k7 : Z g C 0 0 (lgW g.2 v R ++ xW g.2 x u c a h e Q P T R (nI s) (nI p) K) [(0, .ref x), (1, .ref (v 0)), (2, .ref (v 1)), (3, .ref (v 2)), (4, .ref (v 3)), (5, .ref (v 4)), (6, .int (nI kk)), (7, .int q), (8, .int (nI r))] 362 [] := by
    refine z_al (pc := 362) hC 5 rfl dL_acts_362 ?_
    refine z_iconst (pc := 364) (v := 0) hC dL_acts_364 (by decide) ?_
    refine z_dup2 (pc := 365) hC rfl rfl dL_acts_365 ?_
    refine z_iald (pc := 366) hC 4 rfl dL_acts_366 0 rfl (by omega) (by decide) ?_
    refine z_iconst (pc := 367) (v := 1) hC dL_acts_367 (by decide) ?_
    refine z_iadd (pc := 368) (v := (R 14 0) + 1) hC rfl dL_acts_368 ?_
    refine z_iast (pc := 369) (ws' := lgW g.2 v (setS R 14 0 ((R 14 0) + 1)) ++ xW g.2 x u c a h e Q P T R (nI s) (nI p) K) hC 4 rfl dL_acts_369 0 rfl (by omega) (by decide) (set_appl (Nat.le_of_ble_eq_true rfl) lg_N) ?_
    refine z_aln (pc := 370) hC 0 rfl dL_acts_370 ?_
    refine z_ik (pc := 371) (rest := []) hC vX5_nextDay lL_113 dL_acts_371 (k_nextDay hG hX (cDay_0 hday (by omega))) (fun zw => lgW g.2 v (setS R 14 0 ((R 14 0) + 1)) ++ zw) (ctx_r _) rfl 0 5 rfl rfl rfl rfl rfl (by decide) (Nat.le_of_ble_eq_true rfl) ⟨Nat.zero_le _, Nat.zero_le _⟩ (fun r2 S2 hp2 => ?_)
    refine z_al (pc := 374) hC 5 rfl dL_acts_374 ?_
    refine z_iconst (pc := 376) (v := 0) hC dL_acts_376 (by decide) ?_
    refine z_iald (pc := 377) hC 4 rfl dL_acts_377 0 rfl (by omega) (by decide) ?_
    refine z_is_ (y := R 14 0 + 1) (setS_eq R 14 0 _) ?_
    refine z_icne (pc := 378) hC 385 (by decide) dL_acts_378 (fun c378 => absurd hp2.2.1 c378) (fun c378 => ?_)
    refine z_iconst (pc := 381) (v := 1) hC dL_acts_381 (by decide) ?_
    refine z_goto (pc := 382) hC 386 (by decide) dL_acts_382 ?_
    exact hE _ _ _ (setS R 14 0 (R 14 0 + 1), pushN s, S2) _ _ _ dL_acts_386 rfl ⟨rfl, li_day hL hb hp2.2.2⟩ rfl (Nat.zero_le _) (Nat.zero_le _)
  have s8 : ∀ w V : Nat, (w = 0 ∧ V ≤ 9 ∨ w = 1 ∧ V ≤ 99) → Z g C 0 0 (lgW g.2 v R ++ xW g.2 x u c a h e Q P T R (nI s) (nI p) K) [(0, .ref x), (1, .ref (v 0)), (2, .ref (v 1)), (3, .ref (v 2)), (4, .ref (v 3)), (5, .ref (v 4)), (6, .int (nI kk)), (7, .int q), (8, .int (nI r)), (13, .int (nI w)), (14, .int (R 14 (8 + w)))] 454 [.int (nI V), .int (nI (8 + w)), .ref (v 4)] := by
    intro w V hwV
    have hw2 : w < 2 := by omega
    refine z_iast (pc := 454) (ws' := lgW g.2 v (setS R 14 (8 + w) (nI V)) ++ xW g.2 x u c a h e Q P T R (nI s) (nI p) K) hC 4 rfl dL_acts_454 (8 + w) rfl (by omega) (by decide) (set_appl (Nat.le_of_ble_eq_true rfl) lg_N) ?_
    refine z_aln (pc := 455) hC 0 rfl dL_acts_455 ?_
    refine z_il (pc := 456) hC 9 rfl dL_acts_456 ?_
    refine z_al (pc := 458) hC 5 rfl dL_acts_458 ?_
    refine z_bipush (pc := 460) (v := nI 8) hC dL_acts_460 (by decide) ?_
    refine z_il (pc := 462) hC 9 rfl dL_acts_462 ?_
    refine z_iadd (pc := 464) (v := nI (8 + w)) hC (nI_add _ _) dL_acts_464 ?_
    refine z_iald (pc := 465) hC 4 rfl dL_acts_465 (8 + w) rfl (by omega) (by decide) ?_
    refine z_is_ (y := nI V) (setS_eq R 14 (8 + w) _) ?_
    refine z_ik (pc := 466) (rest := []) hC vX5_set lL_116 dL_acts_466 (k_set hG hX (cSet_0 hwV)) (fun zw => lgW g.2 v (setS R 14 (8 + w) (nI V)) ++ zw) (ctx_r _) rfl 0 5 rfl rfl rfl rfl rfl (by decide) (Nat.le_of_ble_eq_true rfl) ⟨Nat.zero_le _, Nat.zero_le _⟩ (fun r2 S2 hp2 => ?_)
    refine z_il (pc := 469) hC 10 rfl dL_acts_469 ?_
    refine z_icne (pc := 471) hC 478 (by decide) dL_acts_471 (fun c471 => absurd (by rw [hp2.2.1, ix_nI (by omega)]) c471) (fun c471 => ?_)
    refine z_iconst (pc := 474) (v := 1) hC dL_acts_474 (by decide) ?_
    refine z_goto (pc := 475) hC 479 (by decide) dL_acts_475 ?_
    exact hE _ _ _ (setS R 14 (8 + w) (nI V), pushN s, S2) _ _ _ dL_acts_479 rfl ⟨rfl, li_up (li_set hL (by omega) (by omega) hp2.2.2) (Nat.le_succ b)⟩ (by rw [ix_nI (by omega)]; rfl) (Nat.zero_le _) (Nat.zero_le _)
  have k8 : Z g C 0 0 (lgW g.2 v R ++ xW g.2 x u c a h e Q P T R (nI s) (nI p) K) [(0, .ref x), (1, .ref (v 0)), (2, .ref (v 1)), (3, .ref (v 2)), (4, .ref (v 3)), (5, .ref (v 4)), (6, .int (nI kk)), (7, .int q), (8, .int (nI r))] 387 [] := by
    obtain ⟨w, hw2, ew⟩ : ∃ w, w < 2 ∧ lo q 2 = w := ⟨_, lo_lt _ (by omega), rfl⟩
    refine z_il (pc := 387) hC 7 rfl dL_acts_387 ?_
    refine z_iconst (pc := 389) (v := nI 2) hC dL_acts_389 (by decide) ?_
    refine z_gs (pc := 390) (rest := []) hC sL_low lL_88 dL_acts_390 (l_low (x := q) (n := 2) (by omega) (by omega)) rfl rfl (by decide) (Nat.le_of_ble_eq_true rfl) ⟨Nat.zero_le _, Nat.zero_le _⟩ ?_
    refine z_is_ (y := nI w) (by rw [ew]) ?_
    refine z_is (pc := 393) (lv' := [(13, .int (nI w)), (0, .ref x), (1, .ref (v 0)), (2, .ref (v 1)), (3, .ref (v 2)), (4, .ref (v 3)), (5, .ref (v 4)), (6, .int (nI kk)), (7, .int q), (8, .int (nI r))]) hC hm (by decide) rfl dL_acts_393 ?_
    refine z_al (pc := 395) hC 6 rfl dL_acts_395 ?_
    refine z_bipush (pc := 397) (v := nI 8) hC dL_acts_397 (by decide) ?_
    refine z_il (pc := 399) hC 0 rfl dL_acts_399 ?_
    refine z_iadd (pc := 401) (v := nI (8 + w)) hC (nI_add _ _) dL_acts_401 ?_
    refine z_iald (pc := 402) hC 4 rfl dL_acts_402 (8 + w) rfl (by omega) (by decide) ?_
    refine z_is (pc := 403) (lv' := [(14, .int (R 14 (8 + w))), (13, .int (nI w)), (0, .ref x), (1, .ref (v 0)), (2, .ref (v 1)), (3, .ref (v 2)), (4, .ref (v 3)), (5, .ref (v 4)), (6, .int (nI kk)), (7, .int q), (8, .int (nI r))]) hC hm (by decide) rfl dL_acts_403 ?_
    refine z_al (pc := 405) hC 7 rfl dL_acts_405 ?_
    refine z_bipush (pc := 407) (v := nI 8) hC dL_acts_407 (by decide) ?_
    refine z_il (pc := 409) hC 1 rfl dL_acts_409 ?_
    refine z_iadd (pc := 411) (v := nI (8 + w)) hC (nI_add _ _) dL_acts_411 ?_
    refine z_il (pc := 412) hC 1 rfl dL_acts_412 ?_
    refine z_ifne (pc := 414) hC 429 (by decide) dL_acts_414 (fun c414 => ?_) (fun c414 => ?_)
    · have hw1 : w = 1 := by
        have : w ≠ 0 := fun e => c414 (by rw [e]; rfl)
        omega
      refine z_il (pc := 429) hC 9 rfl dL_acts_429 ?_
      refine z_iconst (pc := 431) (v := 1) hC dL_acts_431 (by decide) ?_
      refine z_ishr (pc := 432) (v := q >>> (1 &&& 31)) hC rfl dL_acts_432 ?_
      refine z_il (pc := 433) hC 9 rfl dL_acts_433 ?_
      refine z_bipush (pc := 435) (v := 8) hC dL_acts_435 (by decide) ?_
      refine z_ishr (pc := 437) (v := q >>> (8 &&& 31)) hC rfl dL_acts_437 ?_
      refine z_iconst (pc := 438) (v := nI 2) hC dL_acts_438 (by decide) ?_
      refine z_gs (pc := 439) (rest := [.int (q >>> (1 &&& 31)), .int (nI (8 + w)), .ref (v 4)]) hC sL_low lL_88 dL_acts_439 (l_low (x := q >>> (8 &&& 31)) (n := 2) (by omega) (by omega)) rfl rfl (by decide) (Nat.le_of_ble_eq_true rfl) ⟨Nat.zero_le _, Nat.zero_le _⟩ ?_
      refine z_ifne (pc := 442) hC 450 (by decide) dL_acts_442 (fun c442 => ?_) (fun c442 => ?_)
      · refine z_iconst (pc := 450) (v := nI 5) hC dL_acts_450 (by decide) ?_
        refine z_gs (pc := 451) (rest := [.int (nI (8 + w)), .ref (v 4)]) hC sL_low lL_88 dL_acts_451 (l_low (x := q >>> (1 &&& 31)) (n := 5) (by omega) (by omega)) rfl rfl (by decide) (Nat.le_of_ble_eq_true rfl) ⟨Nat.zero_le _, Nat.zero_le _⟩ ?_
        refine z_lv (lv' := [(0, .ref x), (1, .ref (v 0)), (2, .ref (v 1)), (3, .ref (v 2)), (4, .ref (v 3)), (5, .ref (v 4)), (6, .int (nI kk)), (7, .int q), (8, .int (nI r)), (13, .int (nI w)), (14, .int (R 14 (8 + w)))]) [2, 3, 4, 5, 6, 7, 8, 9, 10, 1, 0] rfl ?_
        exact s8 w _ (by have := lo_lt (q >>> (1 &&& 31)) (show 0 < 5 by omega); omega)
      · refine z_bipush (pc := 445) (v := nI 100) hC dL_acts_445 (by decide) ?_
        refine z_goto (pc := 447) hC 451 (by decide) dL_acts_447 ?_
        refine z_gs (pc := 451) (rest := [.int (nI (8 + w)), .ref (v 4)]) hC sL_low lL_88 dL_acts_451 (l_low (x := q >>> (1 &&& 31)) (n := 100) (by omega) (by omega)) rfl rfl (by decide) (Nat.le_of_ble_eq_true rfl) ⟨Nat.zero_le _, Nat.zero_le _⟩ ?_
        refine z_lv (lv' := [(0, .ref x), (1, .ref (v 0)), (2, .ref (v 1)), (3, .ref (v 2)), (4, .ref (v 3)), (5, .ref (v 4)), (6, .int (nI kk)), (7, .int q), (8, .int (nI r)), (13, .int (nI w)), (14, .int (R 14 (8 + w)))]) [2, 3, 4, 5, 6, 7, 8, 9, 10, 1, 0] rfl ?_
        exact s8 w _ (by have := lo_lt (q >>> (1 &&& 31)) (show 0 < 100 by omega); omega)
    · have hw0 : w = 0 := nI_inj (by omega) (by omega) (show nI w = nI 0 from c414)
      refine z_il (pc := 417) hC 9 rfl dL_acts_417 ?_
      refine z_iconst (pc := 419) (v := 1) hC dL_acts_419 (by decide) ?_
      refine z_ishr (pc := 420) (v := q >>> (1 &&& 31)) hC rfl dL_acts_420 ?_
      refine z_bipush (pc := 421) (v := nI 10) hC dL_acts_421 (by decide) ?_
      refine z_gs (pc := 423) (rest := [.int (nI (8 + w)), .ref (v 4)]) hC sL_low lL_88 dL_acts_423 (l_low (x := q >>> (1 &&& 31)) (n := 10) (by omega) (by omega)) rfl rfl (by decide) (Nat.le_of_ble_eq_true rfl) ⟨Nat.zero_le _, Nat.zero_le _⟩ ?_
      refine z_goto (pc := 426) hC 454 (by decide) dL_acts_426 ?_
      refine z_lv (lv' := [(0, .ref x), (1, .ref (v 0)), (2, .ref (v 1)), (3, .ref (v 2)), (4, .ref (v 3)), (5, .ref (v 4)), (6, .int (nI kk)), (7, .int q), (8, .int (nI r)), (13, .int (nI w)), (14, .int (R 14 (8 + w)))]) [2, 3, 4, 5, 6, 7, 8, 9, 10, 1, 0] rfl ?_
      exact s8 w _ (by have := lo_lt (q >>> (1 &&& 31)) (show 0 < 10 by omega); omega)
  have s9 : ∀ M : Nat, 1 ≤ M ∧ M ≤ 99 → Z g C 0 0 (lgW g.2 v R ++ xW g.2 x u c a h e Q P T R (nI s) (nI p) K) [(0, .ref x), (1, .ref (v 0)), (2, .ref (v 1)), (3, .ref (v 2)), (4, .ref (v 3)), (5, .ref (v 4)), (6, .int (nI kk)), (7, .int q), (8, .int (nI r)), (15, .int (nI M))] 508 [] := by
    intro M hM
    have loop : ∀ (k m : Nat) (Q2 : St) (y : Int32), m + k = M → Inv Q2 (nn R) → KI Q2 (nn R) → pas (nn R) k (Q2, y) = (pas (nn R) M (R, 0)) → Z g C 0 0 (lgW g.2 v Q2 ++ xW g.2 x u c a h e Q P T R (nI s) (nI p) K) [(0, .ref x), (1, .ref (v 0)), (2, .ref (v 1)), (3, .ref (v 2)), (4, .ref (v 3)), (5, .ref (v 4)), (6, .int (nI kk)), (7, .int q), (8, .int (nI r)), (15, .int (nI M)), (16, .int y), (17, .int (nI m))] 514 [] := by
      intro k
      induction k with
      | zero =>
        intro m Q2 y hm2 hIQ hKQ he
        have hp : y = (pas (nn R) M (R, 0)).2 := by rw [← he]; rfl
        have hp1 : Q2 = (pas (nn R) M (R, 0)).1 := by rw [← he]; rfl
        refine z_il (pc := 514) hC 11 rfl dL_acts_514 ?_
        refine z_il (pc := 516) hC 9 rfl dL_acts_516 ?_
        refine z_icge (pc := 518) hC 542 (by decide) dL_acts_518 (fun c518 => ?_) (fun c518 => absurd (nI_le (by omega) (by omega)) c518)
        refine z_aln (pc := 542) hC 0 rfl dL_acts_542 ?_
        refine z_il (pc := 543) hC 9 rfl dL_acts_543 ?_
        refine z_ik (pc := 545) (rest := []) hC vX5_pass lL_119 dL_acts_545 (k_pass hG hX (cPass_0 hM)) (fun zw => lgW g.2 v Q2 ++ zw) (ctx_r _) rfl 0 5 rfl rfl rfl rfl rfl (by decide) (Nat.le_of_ble_eq_true rfl) ⟨Nat.zero_le _, Nat.zero_le _⟩ (fun r2 S2 hp2 => ?_)
        refine z_il (pc := 548) hC 10 rfl dL_acts_548 ?_
        refine z_icne (pc := 550) hC 557 (by decide) dL_acts_550 (fun c550 => absurd (by rw [hp2.2.1, ix_nI (by omega), hp]) c550) (fun c550 => ?_)
        refine z_iconst (pc := 553) (v := 1) hC dL_acts_553 (by decide) ?_
        refine z_goto (pc := 554) hC 558 (by decide) dL_acts_554 ?_
        exact hE _ _ _ ((pas (nn R) M (R, 0)).1, pushN s, S2) _ _ _ dL_acts_558 rfl ⟨rfl, li_up (li_pas hL hp2.2.2) (Nat.le_succ b)⟩ (by rw [ix_nI (by omega), ← hp1]; rfl) (Nat.zero_le _) (Nat.zero_le _)
      | succ k ih =>
        intro m Q2 y hm2 hIQ hKQ he
        refine z_il (pc := 514) hC 11 rfl dL_acts_514 ?_
        refine z_il (pc := 516) hC 9 rfl dL_acts_516 ?_
        refine z_icge (pc := 518) hC 542 (by decide) dL_acts_518 (fun c518 => absurd c518 (nI_ge (by omega) (by omega))) (fun c518 => ?_)
        refine z_il (pc := 521) hC 10 rfl dL_acts_521 ?_
        refine z_aln (pc := 523) hC 1 rfl dL_acts_523 ?_
        refine z_aln (pc := 524) hC 2 rfl dL_acts_524 ?_
        refine z_aln (pc := 525) hC 3 rfl dL_acts_525 ?_
        refine z_al (pc := 526) hC 4 rfl dL_acts_526 ?_
        refine z_al (pc := 528) hC 5 rfl dL_acts_528 ?_
        refine z_sg (pc := 530) (rest := [.int y]) hC sL_minutes lL_82 dL_acts_530 (l_minutes (v := v) hIQ hKQ) (fun zw => zw ++ xW g.2 x u c a h e Q P T R (nI s) (nI p) K) (ctx_l _) rfl rfl rfl (by decide) (Nat.le_of_ble_eq_true rfl) ⟨Nat.zero_le _, Nat.zero_le _⟩ ?_
        refine z_iadd (pc := 533) (v := y + ((minu Q2 (nn R)).2)) hC rfl dL_acts_533 ?_
        refine z_is (pc := 534) (lv' := [(16, .int (y + ((minu Q2 (nn R)).2))), (0, .ref x), (1, .ref (v 0)), (2, .ref (v 1)), (3, .ref (v 2)), (4, .ref (v 3)), (5, .ref (v 4)), (6, .int (nI kk)), (7, .int q), (8, .int (nI r)), (15, .int (nI M)), (17, .int (nI m))]) hC hm (by decide) rfl dL_acts_534 ?_
        refine z_iinc (pc := 536) (v := nI (m + 1)) (j := 11) (lv' := [(17, .int (nI (m + 1))), (16, .int (y + ((minu Q2 (nn R)).2))), (0, .ref x), (1, .ref (v 0)), (2, .ref (v 1)), (3, .ref (v 2)), (4, .ref (v 3)), (5, .ref (v 4)), (6, .int (nI kk)), (7, .int q), (8, .int (nI r)), (15, .int (nI M))]) hC hm (by decide) rfl (up_step _) rfl dL_acts_536 ?_
        refine z_goto (pc := 539) hC 514 (by decide) dL_acts_539 ?_
        refine z_lv (lv' := [(0, .ref x), (1, .ref (v 0)), (2, .ref (v 1)), (3, .ref (v 2)), (4, .ref (v 3)), (5, .ref (v 4)), (6, .int (nI kk)), (7, .int q), (8, .int (nI r)), (15, .int (nI M)), (16, .int (y + (minu Q2 (nn R)).2)), (17, .int (nI (m + 1)))]) [2, 3, 4, 5, 6, 7, 8, 9, 10, 11, 1, 0] rfl ?_
        exact ih (m + 1) _ _ (by omega) (inv_minu hIQ) (ki_minu hKQ) he
    refine z_iconst (pc := 508) (v := 0) hC dL_acts_508 (by decide) ?_
    refine z_is (pc := 509) (lv' := [(16, .int 0), (0, .ref x), (1, .ref (v 0)), (2, .ref (v 1)), (3, .ref (v 2)), (4, .ref (v 3)), (5, .ref (v 4)), (6, .int (nI kk)), (7, .int q), (8, .int (nI r)), (15, .int (nI M))]) hC hm (by decide) rfl dL_acts_509 ?_
    refine z_iconst (pc := 511) (v := nI 0) hC dL_acts_511 (by decide) ?_
    refine z_is (pc := 512) (lv' := [(17, .int (nI 0)), (16, .int 0), (0, .ref x), (1, .ref (v 0)), (2, .ref (v 1)), (3, .ref (v 2)), (4, .ref (v 3)), (5, .ref (v 4)), (6, .int (nI kk)), (7, .int q), (8, .int (nI r)), (15, .int (nI M))]) hC hm (by decide) rfl dL_acts_512 ?_
    refine z_lv (lv' := [(0, .ref x), (1, .ref (v 0)), (2, .ref (v 1)), (3, .ref (v 2)), (4, .ref (v 3)), (5, .ref (v 4)), (6, .int (nI kk)), (7, .int q), (8, .int (nI r)), (15, .int (nI M)), (16, .int 0), (17, .int (nI 0))]) [2, 3, 4, 5, 6, 7, 8, 9, 10, 11, 1, 0] rfl ?_
    exact loop M 0 R 0 (by omega) hG.1 hK rfl
  have k9 : Z g C 0 0 (lgW g.2 v R ++ xW g.2 x u c a h e Q P T R (nI s) (nI p) K) [(0, .ref x), (1, .ref (v 0)), (2, .ref (v 1)), (3, .ref (v 2)), (4, .ref (v 3)), (5, .ref (v 4)), (6, .int (nI kk)), (7, .int q), (8, .int (nI r))] 480 [] := by
    refine z_iconst (pc := 480) (v := nI 1) hC dL_acts_480 (by decide) ?_
    refine z_il (pc := 481) hC 7 rfl dL_acts_481 ?_
    refine z_il (pc := 483) hC 7 rfl dL_acts_483 ?_
    refine z_bipush (pc := 485) (v := 8) hC dL_acts_485 (by decide) ?_
    refine z_ishr (pc := 487) (v := q >>> (8 &&& 31)) hC rfl dL_acts_487 ?_
    refine z_iconst (pc := 488) (v := nI 4) hC dL_acts_488 (by decide) ?_
    refine z_gs (pc := 489) (rest := [.int q, .int (nI 1)]) hC sL_low lL_88 dL_acts_489 (l_low (x := q >>> (8 &&& 31)) (n := 4) (by omega) (by omega)) rfl rfl (by decide) (Nat.le_of_ble_eq_true rfl) ⟨Nat.zero_le _, Nat.zero_le _⟩ ?_
    refine z_ifne (pc := 492) hC 500 (by decide) dL_acts_492 (fun c492 => ?_) (fun c492 => ?_)
    · refine z_bipush (pc := 500) (v := nI 8) hC dL_acts_500 (by decide) ?_
      refine z_gs (pc := 502) (rest := [.int (nI 1)]) hC sL_low lL_88 dL_acts_502 (l_low (x := q) (n := 8) (by omega) (by omega)) rfl rfl (by decide) (Nat.le_of_ble_eq_true rfl) ⟨Nat.zero_le _, Nat.zero_le _⟩ ?_
      refine z_iadd (pc := 505) (v := nI (1 + (lo q 8))) hC (nI_add _ _) dL_acts_505 ?_
      refine z_is (pc := 506) (lv' := [(15, .int (nI (1 + (lo q 8)))), (0, .ref x), (1, .ref (v 0)), (2, .ref (v 1)), (3, .ref (v 2)), (4, .ref (v 3)), (5, .ref (v 4)), (6, .int (nI kk)), (7, .int q), (8, .int (nI r))]) hC hm (by decide) rfl dL_acts_506 ?_
      refine z_lv (lv' := [(0, .ref x), (1, .ref (v 0)), (2, .ref (v 1)), (3, .ref (v 2)), (4, .ref (v 3)), (5, .ref (v 4)), (6, .int (nI kk)), (7, .int q), (8, .int (nI r)), (15, .int (nI (1 + (lo q 8))))]) [1, 2, 3, 4, 5, 6, 7, 8, 9, 0] rfl ?_
      exact s9 _ (by have := lo_lt q (show 0 < 8 by omega); omega)
    · refine z_bipush (pc := 495) (v := nI 99) hC dL_acts_495 (by decide) ?_
      refine z_goto (pc := 497) hC 502 (by decide) dL_acts_497 ?_
      refine z_gs (pc := 502) (rest := [.int (nI 1)]) hC sL_low lL_88 dL_acts_502 (l_low (x := q) (n := 99) (by omega) (by omega)) rfl rfl (by decide) (Nat.le_of_ble_eq_true rfl) ⟨Nat.zero_le _, Nat.zero_le _⟩ ?_
      refine z_iadd (pc := 505) (v := nI (1 + (lo q 99))) hC (nI_add _ _) dL_acts_505 ?_
      refine z_is (pc := 506) (lv' := [(15, .int (nI (1 + (lo q 99)))), (0, .ref x), (1, .ref (v 0)), (2, .ref (v 1)), (3, .ref (v 2)), (4, .ref (v 3)), (5, .ref (v 4)), (6, .int (nI kk)), (7, .int q), (8, .int (nI r))]) hC hm (by decide) rfl dL_acts_506 ?_
      refine z_lv (lv' := [(0, .ref x), (1, .ref (v 0)), (2, .ref (v 1)), (3, .ref (v 2)), (4, .ref (v 3)), (5, .ref (v 4)), (6, .int (nI kk)), (7, .int q), (8, .int (nI r)), (15, .int (nI (1 + (lo q 99))))]) [1, 2, 3, 4, 5, 6, 7, 8, 9, 0] rfl ?_
      exact s9 _ (by have := lo_lt q (show 0 < 99 by omega); omega)
  have sw : ∀ kz : Nat, kz < 16 → (kz = 0 ∨ 0 < nn R) → Z g C 0 0 (lgW g.2 v R ++ xW g.2 x u c a h e Q P T R (nI s) (nI p) K) [(0, .ref x), (1, .ref (v 0)), (2, .ref (v 1)), (3, .ref (v 2)), (4, .ref (v 3)), (5, .ref (v 4)), (6, .int (nI kk)), (7, .int q), (8, .int (nI r))] 23 [.int (nI kz)] := by
    intro kz hz hz2
    rcases (show kz = 0 ∨ kz = 1 ∨ kz = 2 ∨ kz = 3 ∨ kz = 4 ∨ kz = 5 ∨ kz = 6 ∨ kz = 7 ∨ kz = 8 ∨ 9 ≤ kz by omega) with rfl | rfl | rfl | rfl | rfl | rfl | rfl | rfl | rfl | h9
    · refine z_tableIn (pc := 23) (off := 49) hC 72 dL_acts_23 (by decide +kernel) (by decide) ?_
      exact k0
    · refine z_tableIn (pc := 23) (off := 49) hC 72 dL_acts_23 (by decide +kernel) (by decide) ?_
      exact k0
    · refine z_tableIn (pc := 23) (off := 49) hC 72 dL_acts_23 (by decide +kernel) (by decide) ?_
      exact k0
    · refine z_tableIn (pc := 23) (off := 63) hC 86 dL_acts_23 (by decide +kernel) (by decide) ?_
      exact k3 (by omega)
    · refine z_tableIn (pc := 23) (off := 178) hC 201 dL_acts_23 (by decide +kernel) (by decide) ?_
      exact k4
    · refine z_tableIn (pc := 23) (off := 178) hC 201 dL_acts_23 (by decide +kernel) (by decide) ?_
      exact k4
    · refine z_tableIn (pc := 23) (off := 230) hC 253 dL_acts_23 (by decide +kernel) (by decide) ?_
      exact k6
    · refine z_tableIn (pc := 23) (off := 339) hC 362 dL_acts_23 (by decide +kernel) (by decide) ?_
      exact k7
    · refine z_tableIn (pc := 23) (off := 364) hC 387 dL_acts_23 (by decide +kernel) (by decide) ?_
      exact k8
    · refine z_tableOut (pc := 23) hC 480 dL_acts_23 (Or.inr (by rw [nI_toInt (by omega)]; omega)) (by decide) ?_
      exact k9
  refine z_il (pc := 0) hC 7 rfl dL_acts_0 ?_
  refine z_bipush (pc := 2) (v := nI 12) hC dL_acts_2 (by decide) ?_
  refine z_gs (pc := 4) (rest := []) hC sL_low lL_88 dL_acts_4 (l_low (x := q) (n := 12) (by omega) (by omega)) rfl rfl (by decide) (Nat.le_of_ble_eq_true rfl) ⟨Nat.zero_le _, Nat.zero_le _⟩ ?_
  refine z_is_ (y := nI r) (by rw [er]) ?_
  refine z_is (pc := 7) (lv' := [(8, .int (nI r)), (0, .ref x), (1, .ref (v 0)), (2, .ref (v 1)), (3, .ref (v 2)), (4, .ref (v 3)), (5, .ref (v 4)), (6, .int (nI kk)), (7, .int q)]) hC hm (by decide) rfl dL_acts_7 ?_
  refine z_al (pc := 9) hC 6 rfl dL_acts_9 ?_
  refine z_bipush (pc := 11) (v := 10) hC dL_acts_11 (by decide) ?_
  refine z_iald (pc := 13) hC 4 rfl dL_acts_13 10 rfl (by omega) (by decide) ?_
  refine z_is_ (y := nI (nn R)) hG.num ?_
  refine z_ifne (pc := 14) hC 21 (by decide) dL_acts_14 (fun c14 => ?_) (fun c14 => ?_)
  · refine z_il (pc := 21) hC 7 rfl dL_acts_21 ?_
    refine z_lv (lv' := [(0, .ref x), (1, .ref (v 0)), (2, .ref (v 1)), (3, .ref (v 2)), (4, .ref (v 3)), (5, .ref (v 4)), (6, .int (nI kk)), (7, .int q), (8, .int (nI r))]) [1, 2, 3, 4, 5, 6, 7, 8, 0] rfl ?_
    exact sw kk hkk (Or.inr (Nat.pos_of_ne_zero (fun e => c14 (by rw [e]; rfl))))
  · refine z_iconst (pc := 17) (v := nI 0) hC dL_acts_17 (by decide) ?_
    refine z_goto (pc := 18) hC 23 (by decide) dL_acts_18 ?_
    refine z_lv (lv' := [(0, .ref x), (1, .ref (v 0)), (2, .ref (v 1)), (3, .ref (v 2)), (4, .ref (v 3)), (5, .ref (v 4)), (6, .int (nI kk)), (7, .int q), (8, .int (nI r))]) [1, 2, 3, 4, 5, 6, 7, 8, 0] rfl ?_
    exact sw 0 (by omega) (Or.inl rfl)
