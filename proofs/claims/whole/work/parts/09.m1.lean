set_option maxRecDepth 100000 in
set_option maxHeartbeats 4000000 in
theorem m_in {g : zG} {x y z : Int32} : Gi g yX6_in cX6_in 3 .boolean 0 [.int x, .int y, .int z] ([]) (bI (inB x y z)) ([]) := by
  refine fi_entry (by decide) (Nat.le_of_ble_eq_true rfl) (fun C hC hm hE => ?_)
  refine z_iln (pc := 0) hC 0 rfl dX6_in_0 ?_
  refine z_iln (pc := 1) hC 1 rfl dX6_in_1 ?_
  refine z_iclt (pc := 2) hC 14 (by decide) dX6_in_2 (fun c2 => ?_) (fun c2 => ?_)
  · refine z_iconst (pc := 14) (v := 0) hC dX6_in_14 (by decide) ?_
    exact hE _ _ _ () _ _ _ dX6_in_15 rfl (by first | exact inB_1 c2 | exact inB_2 c7) rfl (Nat.le_refl _) (Nat.le_refl _)
  · refine z_iln (pc := 5) hC 0 rfl dX6_in_5 ?_
    refine z_iln (pc := 6) hC 2 rfl dX6_in_6 ?_
    refine z_icgt (pc := 7) hC 14 (by decide) dX6_in_7 (fun c7 => ?_) (fun c7 => ?_)
    · refine z_iconst (pc := 14) (v := 0) hC dX6_in_14 (by decide) ?_
      exact hE _ _ _ () _ _ _ dX6_in_15 rfl (by first | exact inB_1 c2 | exact inB_2 c7) rfl (Nat.le_refl _) (Nat.le_refl _)
    · refine z_iconst (pc := 10) (v := 1) hC dX6_in_10 (by decide) ?_
      refine z_goto (pc := 11) hC 15 (by decide) dX6_in_11 ?_
      exact hE _ _ _ () _ _ _ dX6_in_15 rfl (inB_3 c2 c7) rfl (Nat.le_refl _) (Nat.le_refl _)

set_option maxRecDepth 100000 in
set_option maxHeartbeats 4000000 in
theorem m_isReel {g : zG} {x : Int32} : Gi g yX6_isReel cX6_isReel 1 .boolean 1 [.int x] ([]) (bI (isReel x)) ([]) := by
  refine fi_entry (by decide) (Nat.le_of_ble_eq_true rfl) (fun C hC hm hE => ?_)
  refine z_iln (pc := 0) hC 0 rfl dX6_isReel_0 ?_
  refine z_iconst (pc := 1) (v := 0) hC dX6_isReel_1 (by decide) ?_
  refine z_bipush (pc := 2) (v := 11) hC dX6_isReel_2 (by decide) ?_
  refine z_gs (pc := 4) (rest := []) hC sX6_in lX6_42 dX6_isReel_4 (m_in (x := x) (y := 0) (z := 11)) rfl rfl (by decide) (Nat.le_of_ble_eq_true rfl) ⟨Nat.le_refl _, Nat.le_refl _⟩ ?_
  exact hE _ _ _ () _ _ _ dX6_isReel_7 (bI_nar _) rfl rfl (Nat.le_refl _) (Nat.le_refl _)

set_option maxRecDepth 100000 in
set_option maxHeartbeats 4000000 in
theorem m_of {g : zG} {b : Nat → Nat} {R : St} {F : Nat → Nat → Int32} {V : Nat → Int32} {r w : Nat} (hr : r < 12) (hw : w < 6) : Gi g yX6_of cX6_of 3 .int 0 [.ref (b 0), .int (nI r), .int (nI w)] (mW g.2 b R F V) (R w r) (mW g.2 b R F V) := by
  refine fi_entry (by decide) (Nat.le_of_ble_eq_true rfl) (fun C hC hm hE => ?_)
  refine z_aln (pc := 0) hC 0 rfl dX6_of_0 ?_
  refine z_get (pc := 1) hC fX6_7 0 rfl rfl dX6_of_1 ?_
  refine z_bipush (pc := 4) (v := nI 10) hC dX6_of_4 (by decide) ?_
  refine z_bipush (pc := 6) (v := nI 6) hC dX6_of_6 (by decide) ?_
  refine z_iln (pc := 8) hC 1 rfl dX6_of_8 ?_
  refine z_imul (pc := 9) (v := nI (6 * r)) hC (pk_mul 6 r) dX6_of_9 ?_
  refine z_iadd (pc := 10) (v := nI (10 + 6 * r)) hC (nI_add _ _) dX6_of_10 ?_
  refine z_iln (pc := 11) hC 2 rfl dX6_of_11 ?_
  refine z_iadd (pc := 12) (v := nI (10 + 6 * r + w)) hC (nI_add _ _) dX6_of_12 ?_
  refine z_iald (pc := 13) hC 1 rfl dX6_of_13 (10 + 6 * r + w) rfl (by omega) (by decide) ?_
  refine z_is_ (y := R w r) (flat_reel R hr hw) ?_
  exact hE _ _ _ () _ _ _ dX6_of_14 rfl rfl rfl (Nat.le_refl _) (Nat.le_refl _)

set_option maxRecDepth 100000 in
set_option maxHeartbeats 4000000 in
theorem m_put {g : zG} {b : Nat → Nat} {R : St} {F : Nat → Nat → Int32} {V : Nat → Int32} {r w : Nat} (hr : r < 12) (hw : w < 6) {v : Int32} : Gv g yX6_put cX6_put 4 0 [.ref (b 0), .int (nI r), .int (nI w), .int v] (mW g.2 b R F V) (mW g.2 b (setS R w r v) F V) := by
  refine fv_entry (by decide) (Nat.le_of_ble_eq_true rfl) (fun C hC hm _ hE => ?_)
  refine z_aln (pc := 0) hC 0 rfl dX6_put_0 ?_
  refine z_get (pc := 1) hC fX6_7 0 rfl rfl dX6_put_1 ?_
  refine z_bipush (pc := 4) (v := nI 10) hC dX6_put_4 (by decide) ?_
  refine z_bipush (pc := 6) (v := nI 6) hC dX6_put_6 (by decide) ?_
  refine z_iln (pc := 8) hC 1 rfl dX6_put_8 ?_
  refine z_imul (pc := 9) (v := nI (6 * r)) hC (pk_mul 6 r) dX6_put_9 ?_
  refine z_iadd (pc := 10) (v := nI (10 + 6 * r)) hC (nI_add _ _) dX6_put_10 ?_
  refine z_iln (pc := 11) hC 2 rfl dX6_put_11 ?_
  refine z_iadd (pc := 12) (v := nI (10 + 6 * r + w)) hC (nI_add _ _) dX6_put_12 ?_
  refine z_iln (pc := 13) hC 3 rfl dX6_put_13 ?_
  refine z_iast (pc := 14) (ws' := mW g.2 b (setS R w r v) F V) hC 1 rfl dX6_put_14 (10 + 6 * r + w) rfl (by omega) (by decide) (mW_reel hr hw rfl) ?_
  exact hE _ _ () _ _ _ dX6_put_15 trivial rfl (Nat.le_refl _) (Nat.le_refl _)

set_option maxRecDepth 100000 in
set_option maxHeartbeats 4000000 in
theorem m_ofJob {g : zG} {b : Nat → Nat} {R : St} {F : Nat → Nat → Int32} {V : Nat → Int32} {c r w : Nat} (hr : r < 12) (hw : w < 8) (hc : c = 6 + w) : Gi g yX6_ofJob cX6_ofJob 3 .int 0 [.ref (b 0), .int (nI r), .int (nI w)] (mW g.2 b R F V) (R c r) (mW g.2 b R F V) := by
  refine fi_entry (by decide) (Nat.le_of_ble_eq_true rfl) (fun C hC hm hE => ?_)
  refine z_aln (pc := 0) hC 0 rfl dX6_ofJob_0 ?_
  refine z_get (pc := 1) hC fX6_7 0 rfl rfl dX6_ofJob_1 ?_
  refine z_bipush (pc := 4) (v := nI 83) hC dX6_ofJob_4 (by decide) ?_
  refine z_bipush (pc := 6) (v := nI 8) hC dX6_ofJob_6 (by decide) ?_
  refine z_iln (pc := 8) hC 1 rfl dX6_ofJob_8 ?_
  refine z_imul (pc := 9) (v := nI (8 * r)) hC (pk_mul 8 r) dX6_ofJob_9 ?_
  refine z_iadd (pc := 10) (v := nI (83 + 8 * r)) hC (nI_add _ _) dX6_ofJob_10 ?_
  refine z_iln (pc := 11) hC 2 rfl dX6_ofJob_11 ?_
  refine z_iadd (pc := 12) (v := nI (83 + 8 * r + w)) hC (nI_add _ _) dX6_ofJob_12 ?_
  refine z_iald (pc := 13) hC 1 rfl dX6_ofJob_13 (83 + 8 * r + w) rfl (by omega) (by decide) ?_
  refine z_is_ (y := R c r) (by rw [hc]; exact flat_job R hw) ?_
  exact hE _ _ _ () _ _ _ dX6_ofJob_14 rfl rfl rfl (Nat.le_refl _) (Nat.le_refl _)

set_option maxRecDepth 100000 in
set_option maxHeartbeats 4000000 in
theorem m_putJob {g : zG} {b : Nat → Nat} {R : St} {F : Nat → Nat → Int32} {V : Nat → Int32} {c r w : Nat} (hr : r < 12) (hw : w < 8) (hc : c = 6 + w) {v : Int32} : Gv g yX6_putJob cX6_putJob 4 0 [.ref (b 0), .int (nI r), .int (nI w), .int v] (mW g.2 b R F V) (mW g.2 b (setS R c r v) F V) := by
  refine fv_entry (by decide) (Nat.le_of_ble_eq_true rfl) (fun C hC hm _ hE => ?_)
  subst hc
  refine z_aln (pc := 0) hC 0 rfl dX6_putJob_0 ?_
  refine z_get (pc := 1) hC fX6_7 0 rfl rfl dX6_putJob_1 ?_
  refine z_bipush (pc := 4) (v := nI 83) hC dX6_putJob_4 (by decide) ?_
  refine z_bipush (pc := 6) (v := nI 8) hC dX6_putJob_6 (by decide) ?_
  refine z_iln (pc := 8) hC 1 rfl dX6_putJob_8 ?_
  refine z_imul (pc := 9) (v := nI (8 * r)) hC (pk_mul 8 r) dX6_putJob_9 ?_
  refine z_iadd (pc := 10) (v := nI (83 + 8 * r)) hC (nI_add _ _) dX6_putJob_10 ?_
  refine z_iln (pc := 11) hC 2 rfl dX6_putJob_11 ?_
  refine z_iadd (pc := 12) (v := nI (83 + 8 * r + w)) hC (nI_add _ _) dX6_putJob_12 ?_
  refine z_iln (pc := 13) hC 3 rfl dX6_putJob_13 ?_
  refine z_iast (pc := 14) (ws' := mW g.2 b (setS R (6 + w) r v) F V) hC 1 rfl dX6_putJob_14 (83 + 8 * r + w) rfl (by omega) (by decide) (mW_job hw rfl) ?_
  exact hE _ _ () _ _ _ dX6_putJob_15 trivial rfl (Nat.le_refl _) (Nat.le_refl _)

set_option maxRecDepth 100000 in
set_option maxHeartbeats 4000000 in
theorem m_isJob {g : zG} {b : Nat → Nat} {R : St} {F : Nat → Nat → Int32} {V : Nat → Int32} {x : Int32} : Gi g yX6_isJob cX6_isJob 2 .boolean 1 [.ref (b 0), .int x] (mW g.2 b R F V) (bI (isJob R x)) (mW g.2 b R F V) := by
  refine fi_entry (by decide) (Nat.le_of_ble_eq_true rfl) (fun C hC hm hE => ?_)
  refine z_iln (pc := 0) hC 1 rfl dX6_isJob_0 ?_
  refine z_iconst (pc := 1) (v := 0) hC dX6_isJob_1 (by decide) ?_
  refine z_aln (pc := 2) hC 0 rfl dX6_isJob_2 ?_
  refine z_get (pc := 3) hC fX6_7 0 rfl rfl dX6_isJob_3 ?_
  refine z_bipush (pc := 6) (v := 82) hC dX6_isJob_6 (by decide) ?_
  refine z_iald (pc := 8) hC 1 rfl dX6_isJob_8 82 rfl (by decide) (by decide) ?_
  refine z_is_ (y := R 14 10) (flat_82 R) ?_
  refine z_iconst (pc := 9) (v := 1) hC dX6_isJob_9 (by decide) ?_
  refine z_isub (pc := 10) (v := (R 14 10) - 1) hC rfl dX6_isJob_10 ?_
  refine z_gs (pc := 11) (rest := []) hC sX6_in lX6_42 dX6_isJob_11 (m_in (x := x) (y := 0) (z := R 14 10 - 1)) rfl rfl (by decide) (Nat.le_of_ble_eq_true rfl) ⟨Nat.le_refl _, Nat.le_refl _⟩ ?_
  exact hE _ _ _ () _ _ _ dX6_isJob_14 (bI_nar _) rfl rfl (Nat.le_refl _) (Nat.le_refl _)

set_option maxRecDepth 100000 in
set_option maxHeartbeats 4000000 in
theorem m_isOnShelf {g : zG} {b : Nat → Nat} {R : St} {F : Nat → Nat → Int32} {V : Nat → Int32} {r : Nat} (hr : r < 12) : Gi g yX6_isOnShelf cX6_isOnShelf 2 .boolean 1 [.ref (b 0), .int (nI r)] (mW g.2 b R F V) (bI (onSh R r)) (mW g.2 b R F V) := by
  refine fi_entry (by decide) (Nat.le_of_ble_eq_true rfl) (fun C hC hm hE => ?_)
  refine z_aln (pc := 0) hC 0 rfl dX6_isOnShelf_0 ?_
  refine z_iln (pc := 1) hC 1 rfl dX6_isOnShelf_1 ?_
  refine z_iconst (pc := 2) (v := 5) hC dX6_isOnShelf_2 (by decide) ?_
  refine z_g (pc := 3) (rest := []) hC vX6_of lX6_46 dX6_isOnShelf_3 (m_of (R := R) (w := 5) hr (by decide)) (fun w => w) isCtx_id rfl 0 6 rfl rfl rfl rfl rfl (by decide) (Nat.le_of_ble_eq_true rfl) ⟨Nat.le_refl _, Nat.le_refl _⟩ ?_
  refine z_iconst (pc := 6) (v := -1) hC dX6_isOnShelf_6 (by decide) ?_
  refine z_icne (pc := 7) hC 14 (by decide) dX6_isOnShelf_7 (fun c7 => ?_) (fun c7 => ?_)
  · refine z_iconst (pc := 14) (v := 0) hC dX6_isOnShelf_14 (by decide) ?_
    exact hE _ _ _ () _ _ _ dX6_isOnShelf_15 rfl (bI_f (by simp [onSh, c7])) rfl (Nat.le_refl _) (Nat.le_refl _)
  · refine z_iconst (pc := 10) (v := 1) hC dX6_isOnShelf_10 (by decide) ?_
    refine z_goto (pc := 11) hC 15 (by decide) dX6_isOnShelf_11 ?_
    exact hE _ _ _ () _ _ _ dX6_isOnShelf_15 rfl (bI_t (by simp [onSh, c7])) rfl (Nat.le_refl _) (Nat.le_refl _)

set_option maxRecDepth 100000 in
set_option maxHeartbeats 4000000 in
theorem m_isScratch {g : zG} {b : Nat → Nat} {R : St} {F : Nat → Nat → Int32} {V : Nat → Int32} {r : Nat} (hr : r < 12) : Gi g yX6_isScratch cX6_isScratch 2 .boolean 1 [.ref (b 0), .int (nI r)] (mW g.2 b R F V) (bI (scr R r)) (mW g.2 b R F V) := by
  refine fi_entry (by decide) (Nat.le_of_ble_eq_true rfl) (fun C hC hm hE => ?_)
  refine z_aln (pc := 0) hC 0 rfl dX6_isScratch_0 ?_
  refine z_iln (pc := 1) hC 1 rfl dX6_isScratch_1 ?_
  refine z_iconst (pc := 2) (v := 0) hC dX6_isScratch_2 (by decide) ?_
  refine z_g (pc := 3) (rest := []) hC vX6_of lX6_46 dX6_isScratch_3 (m_of (R := R) (w := 0) hr (by decide)) (fun w => w) isCtx_id rfl 0 6 rfl rfl rfl rfl rfl (by decide) (Nat.le_of_ble_eq_true rfl) ⟨Nat.le_refl _, Nat.le_refl _⟩ ?_
  refine z_ifeq (pc := 6) hC 24 (by decide) dX6_isScratch_6 (fun c6 => ?_) (fun c6 => ?_)
  · refine z_iconst (pc := 24) (v := 1) hC dX6_isScratch_24 (by decide) ?_
    refine z_goto (pc := 25) hC 29 (by decide) dX6_isScratch_25 ?_
    exact hE _ _ _ () _ _ _ dX6_isScratch_29 rfl (bI_t (by first | (simp [scr, c6]; done) | (simp [scr, Int32.not_le.mp c21]; done))) rfl (Nat.le_refl _) (Nat.le_refl _)
  · refine z_aln (pc := 9) hC 0 rfl dX6_isScratch_9 ?_
    refine z_iln (pc := 10) hC 1 rfl dX6_isScratch_10 ?_
    refine z_iconst (pc := 11) (v := 3) hC dX6_isScratch_11 (by decide) ?_
    refine z_g (pc := 12) (rest := []) hC vX6_of lX6_46 dX6_isScratch_12 (m_of (R := R) (w := 3) hr (by decide)) (fun w => w) isCtx_id rfl 0 6 rfl rfl rfl rfl rfl (by decide) (Nat.le_of_ble_eq_true rfl) ⟨Nat.le_refl _, Nat.le_refl _⟩ ?_
    refine z_aln (pc := 15) hC 0 rfl dX6_isScratch_15 ?_
    refine z_get (pc := 16) hC fX6_7 0 rfl rfl dX6_isScratch_16 ?_
    refine z_iconst (pc := 19) (v := 0) hC dX6_isScratch_19 (by decide) ?_
    refine z_iald (pc := 20) hC 1 rfl dX6_isScratch_20 0 rfl (by decide) (by decide) ?_
    refine z_is_ (y := R 14 0) (flat_num R (by decide)) ?_
    refine z_icge (pc := 21) hC 28 (by decide) dX6_isScratch_21 (fun c21 => ?_) (fun c21 => ?_)
    · refine z_iconst (pc := 28) (v := 0) hC dX6_isScratch_28 (by decide) ?_
      exact hE _ _ _ () _ _ _ dX6_isScratch_29 rfl (bI_f (by simp [scr, c6, Int32.not_lt.mpr c21])) rfl (Nat.le_refl _) (Nat.le_refl _)
    · refine z_iconst (pc := 24) (v := 1) hC dX6_isScratch_24 (by decide) ?_
      refine z_goto (pc := 25) hC 29 (by decide) dX6_isScratch_25 ?_
      exact hE _ _ _ () _ _ _ dX6_isScratch_29 rfl (bI_t (by first | (simp [scr, c6]; done) | (simp [scr, Int32.not_le.mp c21]; done))) rfl (Nat.le_refl _) (Nat.le_refl _)

set_option maxRecDepth 100000 in
set_option maxHeartbeats 4000000 in
theorem m_found {g : zG} {b : Nat → Nat} {R : St} {F : Nat → Nat → Int32} {V : Nat → Int32} {j : Nat} (hj : j < 12) : Gi g yX6_found cX6_found 5 .int 2 [.ref (b 0), .int (nI j)] (mW g.2 b R F V) (fnd R j) (mW g.2 b R F V) := by
  refine fi_entry (by decide) (Nat.le_of_ble_eq_true rfl) (fun C hC hm hE => ?_)
  have loop : ∀ k m : Nat, k + m = 12 → Z g C 0 0 (mW g.2 b R F V) [(4, .int (dn k)), (3, .int (fst_ (fun r => onSh R r && decide (R 1 r = want R j)) k m)), (2, .int (want R j)), (0, .ref (b 0)), (1, .int (nI j))] 27 [] := by
    intro k
    induction k with
    | zero =>
      intro m hm2
      refine z_il (pc := 27) hC 0 rfl dX6_found_27 ?_
      refine z_iflt (pc := 29) hC 65 (by decide) dX6_found_29 (fun c29 => ?_) (fun c29 => absurd dn_0 c29)
      refine z_iln (pc := 65) hC 1 rfl dX6_found_65 ?_
      exact hE _ _ _ () _ _ _ dX6_found_66 rfl (by rw [show m = 12 by omega]; rfl) rfl (Nat.le_refl _) (Nat.le_refl _)
    | succ k ih =>
      intro m hm2
      show Z g C 0 0 (mW g.2 b R F V) [(4, .int (nI k)), (3, .int (fst_ (fun r => onSh R r && decide (R 1 r = want R j)) (k + 1) m)), (2, .int (want R j)), (0, .ref (b 0)), (1, .int (nI j))] 27 []
      refine z_il (pc := 27) hC 0 rfl dX6_found_27 ?_
      refine z_iflt (pc := 29) hC 65 (by decide) dX6_found_29 (fun c29 => absurd c29 (nI_nlt0 (by omega))) (fun c29 => ?_)
      refine z_aln (pc := 32) hC 3 rfl dX6_found_32 ?_
      refine z_il (pc := 33) hC 0 rfl dX6_found_33 ?_
      refine z_g (pc := 35) (rest := []) hC vX6_isOnShelf lX6_60 dX6_found_35 (m_isOnShelf (r := k) (by omega)) (fun w => w) isCtx_id rfl 0 6 rfl rfl rfl rfl rfl (by decide) (Nat.le_of_ble_eq_true rfl) ⟨Nat.le_refl _, Nat.le_refl _⟩ ?_
      refine z_ifeq (pc := 38) hC 57 (by decide) dX6_found_38 (fun c38 => ?_) (fun c38 => ?_)
      · refine z_iln (pc := 57) hC 1 rfl dX6_found_57 ?_
        refine z_is_ (y := fst_ (fun r => onSh R r && decide (R 1 r = want R j)) k (m + 1)) (by first | (simp [fst_, bI_0.mp c38]; done) | (simp [fst_, c49]; done)) ?_
        refine z_isn (pc := 58) (lv' := [(3, .int (fst_ (fun r => onSh R r && decide (R 1 r = want R j)) k (m + 1))), (4, .int (nI k)), (2, .int (want R j)), (0, .ref (b 0)), (1, .int (nI j))]) hC hm (by decide) rfl dX6_found_58 ?_
        refine z_iinc (pc := 59) (v := dn k) (j := 1) (lv' := [(4, .int (dn k)), (3, .int (fst_ (fun r => onSh R r && decide (R 1 r = want R j)) k (m + 1))), (2, .int (want R j)), (0, .ref (b 0)), (1, .int (nI j))]) hC hm (by decide) rfl (dn_step k) rfl dX6_found_59 ?_
        refine z_goto (pc := 62) hC 27 (by decide) dX6_found_62 ?_
        refine z_lv [0, 1, 2, 3, 4] rfl ?_
        exact ih (m + 1) (by omega)
      · refine z_aln (pc := 41) hC 3 rfl dX6_found_41 ?_
        refine z_il (pc := 42) hC 0 rfl dX6_found_42 ?_
        refine z_iconst (pc := 44) (v := 1) hC dX6_found_44 (by decide) ?_
        refine z_g (pc := 45) (rest := []) hC vX6_of lX6_46 dX6_found_45 (m_of (R := R) (w := 1) (by omega) (by decide)) (fun w => w) isCtx_id rfl 0 6 rfl rfl rfl rfl rfl (by decide) (Nat.le_of_ble_eq_true rfl) ⟨Nat.le_refl _, Nat.le_refl _⟩ ?_
        refine z_iln (pc := 48) hC 2 rfl dX6_found_48 ?_
        refine z_icne (pc := 49) hC 57 (by decide) dX6_found_49 (fun c49 => ?_) (fun c49 => ?_)
        · refine z_iln (pc := 57) hC 1 rfl dX6_found_57 ?_
          refine z_is_ (y := fst_ (fun r => onSh R r && decide (R 1 r = want R j)) k (m + 1)) (by first | (simp [fst_, bI_0.mp c38]; done) | (simp [fst_, c49]; done)) ?_
          refine z_isn (pc := 58) (lv' := [(3, .int (fst_ (fun r => onSh R r && decide (R 1 r = want R j)) k (m + 1))), (4, .int (nI k)), (2, .int (want R j)), (0, .ref (b 0)), (1, .int (nI j))]) hC hm (by decide) rfl dX6_found_58 ?_
          refine z_iinc (pc := 59) (v := dn k) (j := 1) (lv' := [(4, .int (dn k)), (3, .int (fst_ (fun r => onSh R r && decide (R 1 r = want R j)) k (m + 1))), (2, .int (want R j)), (0, .ref (b 0)), (1, .int (nI j))]) hC hm (by decide) rfl (dn_step k) rfl dX6_found_59 ?_
          refine z_goto (pc := 62) hC 27 (by decide) dX6_found_62 ?_
          refine z_lv [0, 1, 2, 3, 4] rfl ?_
          exact ih (m + 1) (by omega)
        · refine z_il (pc := 52) hC 0 rfl dX6_found_52 ?_
          refine z_goto (pc := 54) hC 58 (by decide) dX6_found_54 ?_
          refine z_is_ (y := fst_ (fun r => onSh R r && decide (R 1 r = want R j)) k (m + 1)) (by simp [fst_, bI_n.mp c38, c49]) ?_
          refine z_isn (pc := 58) (lv' := [(3, .int (fst_ (fun r => onSh R r && decide (R 1 r = want R j)) k (m + 1))), (4, .int (nI k)), (2, .int (want R j)), (0, .ref (b 0)), (1, .int (nI j))]) hC hm (by decide) rfl dX6_found_58 ?_
          refine z_iinc (pc := 59) (v := dn k) (j := 1) (lv' := [(4, .int (dn k)), (3, .int (fst_ (fun r => onSh R r && decide (R 1 r = want R j)) k (m + 1))), (2, .int (want R j)), (0, .ref (b 0)), (1, .int (nI j))]) hC hm (by decide) rfl (dn_step k) rfl dX6_found_59 ?_
          refine z_goto (pc := 62) hC 27 (by decide) dX6_found_62 ?_
          refine z_lv [0, 1, 2, 3, 4] rfl ?_
          exact ih (m + 1) (by omega)
  refine z_aln (pc := 0) hC 0 rfl dX6_found_0 ?_
  refine z_iln (pc := 1) hC 1 rfl dX6_found_1 ?_
  refine z_iconst (pc := 2) (v := 0) hC dX6_found_2 (by decide) ?_
  refine z_g (pc := 3) (rest := []) hC vX6_ofJob lX6_57 dX6_found_3 (m_ofJob (R := R) (c := 6) (w := 0) hj (by decide) rfl) (fun w => w) isCtx_id rfl 0 6 rfl rfl rfl rfl rfl (by decide) (Nat.le_of_ble_eq_true rfl) ⟨Nat.le_refl _, Nat.le_refl _⟩ ?_
  refine z_iconst (pc := 6) (v := 2) hC dX6_found_6 (by decide) ?_
  refine z_icne (pc := 7) hC 14 (by decide) dX6_found_7 (fun c7 => ?_) (fun c7 => ?_)
  · refine z_aln (pc := 14) hC 0 rfl dX6_found_14 ?_
    refine z_iln (pc := 15) hC 1 rfl dX6_found_15 ?_
    refine z_iconst (pc := 16) (v := 1) hC dX6_found_16 (by decide) ?_
    refine z_g (pc := 17) (rest := []) hC vX6_ofJob lX6_57 dX6_found_17 (m_ofJob (R := R) (c := 7) (w := 1) hj (by decide) rfl) (fun w => w) isCtx_id rfl 0 6 rfl rfl rfl rfl rfl (by decide) (Nat.le_of_ble_eq_true rfl) ⟨Nat.le_refl _, Nat.le_refl _⟩ ?_
    refine z_is_ (y := want R j) (by simp [want, c7]) ?_
    refine z_isn (pc := 20) (lv' := [(2, .int (want R j)), (0, .ref (b 0)), (1, .int (nI j))]) hC hm (by decide) rfl dX6_found_20 ?_
    refine z_iconst (pc := 21) (v := -1) hC dX6_found_21 (by decide) ?_
    refine z_isn (pc := 22) (lv' := [(3, .int (-1)), (2, .int (want R j)), (0, .ref (b 0)), (1, .int (nI j))]) hC hm (by decide) rfl dX6_found_22 ?_
    refine z_bipush (pc := 23) (v := dn 12) hC dX6_found_23 (by decide) ?_
    refine z_is (pc := 25) (lv' := [(4, .int (dn 12)), (3, .int (-1)), (2, .int (want R j)), (0, .ref (b 0)), (1, .int (nI j))]) hC hm (by decide) rfl dX6_found_25 ?_
    refine z_lv [0, 1, 2, 3, 4] rfl ?_
    exact loop 12 0 rfl
  · refine z_iconst (pc := 10) (v := 0) hC dX6_found_10 (by decide) ?_
    refine z_goto (pc := 11) hC 20 (by decide) dX6_found_11 ?_
    refine z_is_ (y := want R j) (by simp [want, c7]) ?_
    refine z_isn (pc := 20) (lv' := [(2, .int (want R j)), (0, .ref (b 0)), (1, .int (nI j))]) hC hm (by decide) rfl dX6_found_20 ?_
    refine z_iconst (pc := 21) (v := -1) hC dX6_found_21 (by decide) ?_
    refine z_isn (pc := 22) (lv' := [(3, .int (-1)), (2, .int (want R j)), (0, .ref (b 0)), (1, .int (nI j))]) hC hm (by decide) rfl dX6_found_22 ?_
    refine z_bipush (pc := 23) (v := dn 12) hC dX6_found_23 (by decide) ?_
    refine z_is (pc := 25) (lv' := [(4, .int (dn 12)), (3, .int (-1)), (2, .int (want R j)), (0, .ref (b 0)), (1, .int (nI j))]) hC hm (by decide) rfl dX6_found_25 ?_
    refine z_lv [0, 1, 2, 3, 4] rfl ?_
    exact loop 12 0 rfl

theorem best_spec (R : St) : ∀ (k j : Nat), best R j k = -1 ∨ ∃ q, j ≤ q ∧ q < j + k ∧ best R j k = nI q ∧ elig R q = true
  | 0, j => Or.inl rfl
  | k + 1, j => by
    by_cases h : elig R j = true ∧ (best R (j + 1) k = -1 ∨ R 9 (best R (j + 1) k).toNatClampNeg ≤ R 9 j)
    · exact Or.inr ⟨j, Nat.le_refl _, by omega, by simp [best, h], h.1⟩
    · have e : best R j (k + 1) = best R (j + 1) k := by simp only [best, if_neg h]
      rcases best_spec R k (j + 1) with h1 | ⟨q, h1, h2, h3, h4⟩
      · exact Or.inl (e.trans h1)
      · exact Or.inr ⟨q, by omega, by omega, e.trans h3, h4⟩
theorem best_ne {R : St} {j k : Nat} (h : ¬ best R j k = -1) : ∃ q, j ≤ q ∧ q < j + k ∧ best R j k = nI q ∧ elig R q = true := (best_spec R k j).resolve_left h
theorem best_t {R : St} {j k : Nat} (h : elig R j = true) (h2 : best R (j + 1) k = -1 ∨ R 9 (best R (j + 1) k).toNatClampNeg ≤ R 9 j) : nI j = best R j (k + 1) := by simp [best, h, h2]
theorem best_f {R : St} {j k : Nat} (h : elig R j = false) : best R (j + 1) k = best R j (k + 1) := by simp [best, h]
theorem best_g {R : St} {j k : Nat} (h : ¬ best R (j + 1) k = -1) (h2 : R 9 j < R 9 (best R (j + 1) k).toNatClampNeg) : best R (j + 1) k = best R j (k + 1) := by
  have h3 : ¬ (R 9 (best R (j + 1) k).toNatClampNeg ≤ R 9 j) := Int32.not_le.mpr h2
  simp [best, h, h3]
theorem elig_t {R : St} {j : Nat} (h : R 10 j = 0) (h2 : ¬ fnd R j = -1) : elig R j = true := by simp [elig, h, h2]
theorem elig_f {R : St} {j : Nat} (h : ¬ R 10 j = 0) : elig R j = false := by simp [elig, h]
theorem elig_g {R : St} {j : Nat} (h : fnd R j = -1) : elig R j = false := by simp [elig, h]

set_option maxRecDepth 100000 in
set_option maxHeartbeats 4000000 in
theorem m_next {g : zG} {b : Nat → Nat} {R : St} {F : Nat → Nat → Int32} {V : Nat → Int32} {n : Nat} (hn : R 14 10 = nI n) (hn2 : n ≤ 12) : Gi g yX6_next cX6_next 4 .int 3 [.ref (b 0)] (mW g.2 b R F V) (nxt R n) (mW g.2 b R F V) := by
  refine fi_entry (by decide) (Nat.le_of_ble_eq_true rfl) (fun C hC hm hE => ?_)
  have loop : ∀ k m : Nat, k + m = n → Z g C 0 0 (mW g.2 b R F V) [(2, .int (dn k)), (1, .int (best R k m)), (0, .ref (b 0))] 12 [] := by
    intro k
    induction k with
    | zero =>
      intro m hm2
      refine z_iln (pc := 12) hC 0 rfl dX6_next_12 ?_
      refine z_iflt (pc := 13) hC 76 (by decide) dX6_next_13 (fun c13 => ?_) (fun c13 => absurd dn_0 c13)
      refine z_iln (pc := 76) hC 1 rfl dX6_next_76 ?_
      exact hE _ _ _ () _ _ _ dX6_next_77 rfl (by rw [show m = n by omega]; rfl) rfl (Nat.le_refl _) (Nat.le_refl _)
    | succ k ih =>
      intro m hm2
      show Z g C 0 0 (mW g.2 b R F V) [(2, .int (nI k)), (1, .int (best R (k + 1) m)), (0, .ref (b 0))] 12 []
      refine z_iln (pc := 12) hC 0 rfl dX6_next_12 ?_
      refine z_iflt (pc := 13) hC 76 (by decide) dX6_next_13 (fun c13 => absurd c13 (nI_nlt0 (by omega))) (fun c13 => ?_)
      refine z_aln (pc := 16) hC 2 rfl dX6_next_16 ?_
      refine z_iln (pc := 17) hC 0 rfl dX6_next_17 ?_
      refine z_iconst (pc := 18) (v := 4) hC dX6_next_18 (by decide) ?_
      refine z_g (pc := 19) (rest := []) hC vX6_ofJob lX6_57 dX6_next_19 (m_ofJob (R := R) (c := 10) (w := 4) (by omega) (by decide) rfl) (fun w => w) isCtx_id rfl 0 6 rfl rfl rfl rfl rfl (by decide) (Nat.le_of_ble_eq_true rfl) ⟨Nat.le_refl _, Nat.le_refl _⟩ ?_
      refine z_ifne (pc := 22) hC 38 (by decide) dX6_next_22 (fun c22 => ?_) (fun c22 => ?_)
      · refine z_iconst (pc := 38) (v := 0) hC dX6_next_38 (by decide) ?_
        refine z_isn (pc := 39) (lv' := [(3, .int 0), (2, .int (nI k)), (1, .int (best R (k + 1) m)), (0, .ref (b 0))]) hC hm (by decide) rfl dX6_next_39 ?_
        refine z_iln (pc := 40) hC 0 rfl dX6_next_40 ?_
        refine z_ifeq (pc := 41) hC 68 (by decide) dX6_next_41 (fun c41 => ?_) (fun c41 => absurd c41 (by decide))
        refine z_iln (pc := 68) hC 2 rfl dX6_next_68 ?_
        refine z_is_ (y := best R k (m + 1)) (by first | exact best_f (elig_f c22) | exact best_f (elig_g c31) | exact best_g c46 (by rw [hq3, nI_clamp (by omega)]; exact c61)) ?_
        refine z_isn (pc := 69) (lv' := [(1, .int (best R k (m + 1))), (3, .int 0), (2, .int (nI k)), (0, .ref (b 0))]) hC hm (by decide) rfl dX6_next_69 ?_
        refine z_iinc (pc := 70) (v := dn k) (j := 2) (lv' := [(2, .int (dn k)), (1, .int (best R k (m + 1))), (3, .int 0), (0, .ref (b 0))]) hC hm (by decide) rfl (dn_step k) rfl dX6_next_70 ?_
        refine z_goto (pc := 73) hC 12 (by decide) dX6_next_73 ?_
        refine z_lv [0, 1, 3] rfl ?_
        exact ih (m + 1) (by omega)
      · refine z_aln (pc := 25) hC 2 rfl dX6_next_25 ?_
        refine z_iln (pc := 26) hC 0 rfl dX6_next_26 ?_
        refine z_g (pc := 27) (rest := []) hC vX6_found lX6_64 dX6_next_27 (m_found (j := k) (by omega)) (fun w => w) isCtx_id rfl 0 6 rfl rfl rfl rfl rfl (by decide) (Nat.le_of_ble_eq_true rfl) ⟨Nat.le_refl _, Nat.le_refl _⟩ ?_
        refine z_iconst (pc := 30) (v := -1) hC dX6_next_30 (by decide) ?_
        refine z_iceq (pc := 31) hC 38 (by decide) dX6_next_31 (fun c31 => ?_) (fun c31 => ?_)
        · refine z_iconst (pc := 38) (v := 0) hC dX6_next_38 (by decide) ?_
          refine z_isn (pc := 39) (lv' := [(3, .int 0), (2, .int (nI k)), (1, .int (best R (k + 1) m)), (0, .ref (b 0))]) hC hm (by decide) rfl dX6_next_39 ?_
          refine z_iln (pc := 40) hC 0 rfl dX6_next_40 ?_
          refine z_ifeq (pc := 41) hC 68 (by decide) dX6_next_41 (fun c41 => ?_) (fun c41 => absurd c41 (by decide))
          refine z_iln (pc := 68) hC 2 rfl dX6_next_68 ?_
          refine z_is_ (y := best R k (m + 1)) (by first | exact best_f (elig_f c22) | exact best_f (elig_g c31) | exact best_g c46 (by rw [hq3, nI_clamp (by omega)]; exact c61)) ?_
          refine z_isn (pc := 69) (lv' := [(1, .int (best R k (m + 1))), (3, .int 0), (2, .int (nI k)), (0, .ref (b 0))]) hC hm (by decide) rfl dX6_next_69 ?_
          refine z_iinc (pc := 70) (v := dn k) (j := 2) (lv' := [(2, .int (dn k)), (1, .int (best R k (m + 1))), (3, .int 0), (0, .ref (b 0))]) hC hm (by decide) rfl (dn_step k) rfl dX6_next_70 ?_
          refine z_goto (pc := 73) hC 12 (by decide) dX6_next_73 ?_
          refine z_lv [0, 1, 3] rfl ?_
          exact ih (m + 1) (by omega)
        · refine z_iconst (pc := 34) (v := 1) hC dX6_next_34 (by decide) ?_
          refine z_goto (pc := 35) hC 39 (by decide) dX6_next_35 ?_
          refine z_isn (pc := 39) (lv' := [(3, .int 1), (2, .int (nI k)), (1, .int (best R (k + 1) m)), (0, .ref (b 0))]) hC hm (by decide) rfl dX6_next_39 ?_
          refine z_iln (pc := 40) hC 0 rfl dX6_next_40 ?_
          refine z_ifeq (pc := 41) hC 68 (by decide) dX6_next_41 (fun c41 => absurd c41 (by decide)) (fun c41 => ?_)
          refine z_iln (pc := 44) hC 2 rfl dX6_next_44 ?_
          refine z_iconst (pc := 45) (v := -1) hC dX6_next_45 (by decide) ?_
          refine z_iceq (pc := 46) hC 64 (by decide) dX6_next_46 (fun c46 => ?_) (fun c46 => ?_)
          · refine z_iln (pc := 64) hC 1 rfl dX6_next_64 ?_
            refine z_goto (pc := 65) hC 69 (by decide) dX6_next_65 ?_
            refine z_is_ (y := best R k (m + 1)) (by first | exact best_t (elig_t c22 c31) (Or.inl c46) | exact best_t (elig_t c22 c31) (Or.inr (by rw [hq3, nI_clamp (by omega)]; exact Int32.not_lt.mp c61))) ?_
            refine z_isn (pc := 69) (lv' := [(1, .int (best R k (m + 1))), (3, .int 1), (2, .int (nI k)), (0, .ref (b 0))]) hC hm (by decide) rfl dX6_next_69 ?_
            refine z_iinc (pc := 70) (v := dn k) (j := 2) (lv' := [(2, .int (dn k)), (1, .int (best R k (m + 1))), (3, .int 1), (0, .ref (b 0))]) hC hm (by decide) rfl (dn_step k) rfl dX6_next_70 ?_
            refine z_goto (pc := 73) hC 12 (by decide) dX6_next_73 ?_
            refine z_lv [0, 1, 3] rfl ?_
            exact ih (m + 1) (by omega)
          · obtain ⟨q, hq1, hq2, hq3, hq4⟩ := best_ne c46
            refine z_aln (pc := 49) hC 3 rfl dX6_next_49 ?_
            refine z_iln (pc := 50) hC 1 rfl dX6_next_50 ?_
            refine z_iconst (pc := 51) (v := 3) hC dX6_next_51 (by decide) ?_
            refine z_g (pc := 52) (rest := []) hC vX6_ofJob lX6_57 dX6_next_52 (m_ofJob (R := R) (c := 9) (w := 3) (by omega) (by decide) rfl) (fun w => w) isCtx_id rfl 0 6 rfl rfl rfl rfl rfl (by decide) (Nat.le_of_ble_eq_true rfl) ⟨Nat.le_refl _, Nat.le_refl _⟩ ?_
            refine z_aln (pc := 55) hC 3 rfl dX6_next_55 ?_
            refine z_iln (pc := 56) hC 2 rfl dX6_next_56 ?_
            refine z_is_ (y := nI q) hq3 ?_
            refine z_iconst (pc := 57) (v := 3) hC dX6_next_57 (by decide) ?_
            refine z_g (pc := 58) (rest := [.int (R 9 k)]) hC vX6_ofJob lX6_57 dX6_next_58 (m_ofJob (R := R) (c := 9) (w := 3) (by omega) (by decide) rfl) (fun w => w) isCtx_id rfl 0 6 rfl rfl rfl rfl rfl (by decide) (Nat.le_of_ble_eq_true rfl) ⟨Nat.le_refl _, Nat.le_refl _⟩ ?_
            refine z_iclt (pc := 61) hC 68 (by decide) dX6_next_61 (fun c61 => ?_) (fun c61 => ?_)
            · refine z_iln (pc := 68) hC 2 rfl dX6_next_68 ?_
              refine z_is_ (y := best R k (m + 1)) (by first | exact best_f (elig_f c22) | exact best_f (elig_g c31) | exact best_g c46 (by rw [hq3, nI_clamp (by omega)]; exact c61)) ?_
              refine z_isn (pc := 69) (lv' := [(1, .int (best R k (m + 1))), (3, .int 1), (2, .int (nI k)), (0, .ref (b 0))]) hC hm (by decide) rfl dX6_next_69 ?_
              refine z_iinc (pc := 70) (v := dn k) (j := 2) (lv' := [(2, .int (dn k)), (1, .int (best R k (m + 1))), (3, .int 1), (0, .ref (b 0))]) hC hm (by decide) rfl (dn_step k) rfl dX6_next_70 ?_
              refine z_goto (pc := 73) hC 12 (by decide) dX6_next_73 ?_
              refine z_lv [0, 1, 3] rfl ?_
              exact ih (m + 1) (by omega)
            · refine z_iln (pc := 64) hC 1 rfl dX6_next_64 ?_
              refine z_goto (pc := 65) hC 69 (by decide) dX6_next_65 ?_
              refine z_is_ (y := best R k (m + 1)) (by first | exact best_t (elig_t c22 c31) (Or.inl c46) | exact best_t (elig_t c22 c31) (Or.inr (by rw [hq3, nI_clamp (by omega)]; exact Int32.not_lt.mp c61))) ?_
              refine z_isn (pc := 69) (lv' := [(1, .int (best R k (m + 1))), (3, .int 1), (2, .int (nI k)), (0, .ref (b 0))]) hC hm (by decide) rfl dX6_next_69 ?_
              refine z_iinc (pc := 70) (v := dn k) (j := 2) (lv' := [(2, .int (dn k)), (1, .int (best R k (m + 1))), (3, .int 1), (0, .ref (b 0))]) hC hm (by decide) rfl (dn_step k) rfl dX6_next_70 ?_
              refine z_goto (pc := 73) hC 12 (by decide) dX6_next_73 ?_
              refine z_lv [0, 1, 3] rfl ?_
              exact ih (m + 1) (by omega)
  refine z_iconst (pc := 0) (v := -1) hC dX6_next_0 (by decide) ?_
  refine z_isn (pc := 1) (lv' := [(1, .int (-1)), (0, .ref (b 0))]) hC hm (by decide) rfl dX6_next_1 ?_
  refine z_aln (pc := 2) hC 1 rfl dX6_next_2 ?_
  refine z_get (pc := 3) hC fX6_7 0 rfl rfl dX6_next_3 ?_
  refine z_bipush (pc := 6) (v := 82) hC dX6_next_6 (by decide) ?_
  refine z_iald (pc := 8) hC 1 rfl dX6_next_8 82 rfl (by decide) (by decide) ?_
  refine z_is_ (y := R 14 10) (flat_82 R) ?_
  refine z_iconst (pc := 9) (v := 1) hC dX6_next_9 (by decide) ?_
  refine z_isub (pc := 10) (v := dn n) hC (by rw [hn]; exact dn_pred n) dX6_next_10 ?_
  refine z_isn (pc := 11) (lv' := [(2, .int (dn n)), (1, .int (-1)), (0, .ref (b 0))]) hC hm (by decide) rfl dX6_next_11 ?_
  refine z_lv [0, 1, 2] rfl ?_
  exact loop n 0 rfl

set_option maxRecDepth 100000 in
set_option maxHeartbeats 4000000 in
theorem m_isSlip {g : zG} {b : Nat → Nat} {R : St} {F : Nat → Nat → Int32} {V : Nat → Int32} {x : Int32} : Gi g yX6_isSlip cX6_isSlip 2 .boolean 0 [.ref (b 0), .int x] (mW g.2 b R F V) (bI (slp R x)) (mW g.2 b R F V) := by
  refine fi_entry (by decide) (Nat.le_of_ble_eq_true rfl) (fun C hC hm hE => ?_)
  refine z_aln (pc := 0) hC 0 rfl dX6_isSlip_0 ?_
  refine z_get (pc := 1) hC fX6_7 0 rfl rfl dX6_isSlip_1 ?_
  refine z_bipush (pc := 4) (v := 8) hC dX6_isSlip_4 (by decide) ?_
  refine z_iald (pc := 6) hC 1 rfl dX6_isSlip_6 8 rfl (by decide) (by decide) ?_
  refine z_is_ (y := R 14 8) (flat_num R (by decide)) ?_
  refine z_ifeq (pc := 7) hC 26 (by decide) dX6_isSlip_7 (fun c7 => ?_) (fun c7 => ?_)
  · refine z_iconst (pc := 26) (v := 0) hC dX6_isSlip_26 (by decide) ?_
    exact hE _ _ _ () _ _ _ dX6_isSlip_27 rfl (bI_f (by first | (simp [slp, c7]; done) | (simp [slp, c19]; done))) rfl (Nat.le_refl _) (Nat.le_refl _)
  · refine z_iln (pc := 10) hC 1 rfl dX6_isSlip_10 ?_
    refine z_aln (pc := 11) hC 0 rfl dX6_isSlip_11 ?_
    refine z_get (pc := 12) hC fX6_7 0 rfl rfl dX6_isSlip_12 ?_
    refine z_bipush (pc := 15) (v := 8) hC dX6_isSlip_15 (by decide) ?_
    refine z_iald (pc := 17) hC 1 rfl dX6_isSlip_17 8 rfl (by decide) (by decide) ?_
    refine z_is_ (y := R 14 8) (flat_num R (by decide)) ?_
    refine z_irem (pc := 18) (v := x - x / (R 14 8) * (R 14 8)) hC c7 rfl dX6_isSlip_18 ?_
    refine z_ifne (pc := 19) hC 26 (by decide) dX6_isSlip_19 (fun c19 => ?_) (fun c19 => ?_)
    · refine z_iconst (pc := 26) (v := 0) hC dX6_isSlip_26 (by decide) ?_
      exact hE _ _ _ () _ _ _ dX6_isSlip_27 rfl (bI_f (by first | (simp [slp, c7]; done) | (simp [slp, c19]; done))) rfl (Nat.le_refl _) (Nat.le_refl _)
    · refine z_iconst (pc := 22) (v := 1) hC dX6_isSlip_22 (by decide) ?_
      refine z_goto (pc := 23) hC 27 (by decide) dX6_isSlip_23 ?_
      exact hE _ _ _ () _ _ _ dX6_isSlip_27 rfl (bI_t (by simp [slp, c7, c19])) rfl (Nat.le_refl _) (Nat.le_refl _)

set_option maxRecDepth 100000 in
set_option maxHeartbeats 4000000 in
theorem m_after {g : zG} {b : Nat → Nat} {R : St} {F : Nat → Nat → Int32} {V : Nat → Int32} {x : Int32} : Gi g yX6_after cX6_after 5 .int 2 [.ref (b 0), .int x] (mW g.2 b R F V) (aft R x) (mW g.2 b R F V) := by
  refine fi_entry (by decide) (Nat.le_of_ble_eq_true rfl) (fun C hC hm hE => ?_)
  have loop : ∀ k m : Nat, k + m = 12 → Z g C 0 0 (mW g.2 b R F V) [(4, .int (dn k)), (3, .int (fst_ (onSh R) k m)), (2, .int (fst_ (fun q => onSh R q && decide (x < nI q)) k m)), (0, .ref (b 0)), (1, .int x)] 8 [] := by
    intro k
    induction k with
    | zero =>
      intro m hm2
      refine z_il (pc := 8) hC 0 rfl dX6_after_8 ?_
      refine z_iflt (pc := 10) hC 57 (by decide) dX6_after_10 (fun c10 => ?_) (fun c10 => absurd dn_0 c10)
      refine z_iln (pc := 57) hC 2 rfl dX6_after_57 ?_
      refine z_iconst (pc := 58) (v := -1) hC dX6_after_58 (by decide) ?_
      refine z_icne (pc := 59) hC 66 (by decide) dX6_after_59 (fun c59 => ?_) (fun c59 => ?_)
      · refine z_iln (pc := 66) hC 2 rfl dX6_after_66 ?_
        exact hE _ _ _ () _ _ _ dX6_after_67 rfl (by simp only [show m = 12 by omega] at *; simp [aft, c59]) rfl (Nat.le_refl _) (Nat.le_refl _)
      · refine z_iln (pc := 62) hC 1 rfl dX6_after_62 ?_
        refine z_goto (pc := 63) hC 67 (by decide) dX6_after_63 ?_
        exact hE _ _ _ () _ _ _ dX6_after_67 rfl (by simp only [show m = 12 by omega] at *; simp [aft, c59]) rfl (Nat.le_refl _) (Nat.le_refl _)
    | succ k ih =>
      intro m hm2
      show Z g C 0 0 (mW g.2 b R F V) [(4, .int (nI k)), (3, .int (fst_ (onSh R) (k + 1) m)), (2, .int (fst_ (fun q => onSh R q && decide (x < nI q)) (k + 1) m)), (0, .ref (b 0)), (1, .int x)] 8 []
      refine z_il (pc := 8) hC 0 rfl dX6_after_8 ?_
      refine z_iflt (pc := 10) hC 57 (by decide) dX6_after_10 (fun c10 => absurd c10 (nI_nlt0 (by omega))) (fun c10 => ?_)
      refine z_aln (pc := 13) hC 3 rfl dX6_after_13 ?_
      refine z_il (pc := 14) hC 0 rfl dX6_after_14 ?_
      refine z_g (pc := 16) (rest := []) hC vX6_isOnShelf lX6_60 dX6_after_16 (m_isOnShelf (r := k) (by omega)) (fun w => w) isCtx_id rfl 0 6 rfl rfl rfl rfl rfl (by decide) (Nat.le_of_ble_eq_true rfl) ⟨Nat.le_refl _, Nat.le_refl _⟩ ?_
      refine z_ifeq (pc := 19) hC 33 (by decide) dX6_after_19 (fun c19 => ?_) (fun c19 => ?_)
      · refine z_iln (pc := 33) hC 2 rfl dX6_after_33 ?_
        refine z_is_ (y := fst_ (fun q => onSh R q && decide (x < nI q)) k (m + 1)) (by first | (simp [fst_, bI_0.mp c19]; done) | (simp [fst_, Int32.not_lt.mpr c25]; done)) ?_
        refine z_isn (pc := 34) (lv' := [(2, .int (fst_ (fun q => onSh R q && decide (x < nI q)) k (m + 1))), (4, .int (nI k)), (3, .int (fst_ (onSh R) (k + 1) m)), (0, .ref (b 0)), (1, .int x)]) hC hm (by decide) rfl dX6_after_34 ?_
        refine z_aln (pc := 35) hC 3 rfl dX6_after_35 ?_
        refine z_il (pc := 36) hC 1 rfl dX6_after_36 ?_
        refine z_g (pc := 38) (rest := []) hC vX6_isOnShelf lX6_60 dX6_after_38 (m_isOnShelf (r := k) (by omega)) (fun w => w) isCtx_id rfl 0 6 rfl rfl rfl rfl rfl (by decide) (Nat.le_of_ble_eq_true rfl) ⟨Nat.le_refl _, Nat.le_refl _⟩ ?_
        refine z_ifeq (pc := 41) hC 49 (by decide) dX6_after_41 (fun c41 => ?_) (fun c41 => ?_)
        · refine z_iln (pc := 49) hC 2 rfl dX6_after_49 ?_
          refine z_is_ (y := fst_ (onSh R) k (m + 1)) (by simp [fst_, bI_0.mp c41]) ?_
          refine z_isn (pc := 50) (lv' := [(3, .int (fst_ (onSh R) k (m + 1))), (2, .int (fst_ (fun q => onSh R q && decide (x < nI q)) k (m + 1))), (4, .int (nI k)), (0, .ref (b 0)), (1, .int x)]) hC hm (by decide) rfl dX6_after_50 ?_
          refine z_iinc (pc := 51) (v := dn k) (j := 2) (lv' := [(4, .int (dn k)), (3, .int (fst_ (onSh R) k (m + 1))), (2, .int (fst_ (fun q => onSh R q && decide (x < nI q)) k (m + 1))), (0, .ref (b 0)), (1, .int x)]) hC hm (by decide) rfl (dn_step k) rfl dX6_after_51 ?_
          refine z_goto (pc := 54) hC 8 (by decide) dX6_after_54 ?_
          refine z_lv [0, 1, 2, 3, 4] rfl ?_
          exact ih (m + 1) (by omega)
        · refine z_il (pc := 44) hC 1 rfl dX6_after_44 ?_
          refine z_goto (pc := 46) hC 50 (by decide) dX6_after_46 ?_
          refine z_is_ (y := fst_ (onSh R) k (m + 1)) (by simp [fst_, bI_n.mp c41]) ?_
          refine z_isn (pc := 50) (lv' := [(3, .int (fst_ (onSh R) k (m + 1))), (2, .int (fst_ (fun q => onSh R q && decide (x < nI q)) k (m + 1))), (4, .int (nI k)), (0, .ref (b 0)), (1, .int x)]) hC hm (by decide) rfl dX6_after_50 ?_
          refine z_iinc (pc := 51) (v := dn k) (j := 2) (lv' := [(4, .int (dn k)), (3, .int (fst_ (onSh R) k (m + 1))), (2, .int (fst_ (fun q => onSh R q && decide (x < nI q)) k (m + 1))), (0, .ref (b 0)), (1, .int x)]) hC hm (by decide) rfl (dn_step k) rfl dX6_after_51 ?_
          refine z_goto (pc := 54) hC 8 (by decide) dX6_after_54 ?_
          refine z_lv [0, 1, 2, 3, 4] rfl ?_
          exact ih (m + 1) (by omega)
      · refine z_il (pc := 22) hC 0 rfl dX6_after_22 ?_
        refine z_iln (pc := 24) hC 4 rfl dX6_after_24 ?_
        refine z_icle (pc := 25) hC 33 (by decide) dX6_after_25 (fun c25 => ?_) (fun c25 => ?_)
        · refine z_iln (pc := 33) hC 2 rfl dX6_after_33 ?_
          refine z_is_ (y := fst_ (fun q => onSh R q && decide (x < nI q)) k (m + 1)) (by first | (simp [fst_, bI_0.mp c19]; done) | (simp [fst_, Int32.not_lt.mpr c25]; done)) ?_
          refine z_isn (pc := 34) (lv' := [(2, .int (fst_ (fun q => onSh R q && decide (x < nI q)) k (m + 1))), (4, .int (nI k)), (3, .int (fst_ (onSh R) (k + 1) m)), (0, .ref (b 0)), (1, .int x)]) hC hm (by decide) rfl dX6_after_34 ?_
          refine z_aln (pc := 35) hC 3 rfl dX6_after_35 ?_
          refine z_il (pc := 36) hC 1 rfl dX6_after_36 ?_
          refine z_g (pc := 38) (rest := []) hC vX6_isOnShelf lX6_60 dX6_after_38 (m_isOnShelf (r := k) (by omega)) (fun w => w) isCtx_id rfl 0 6 rfl rfl rfl rfl rfl (by decide) (Nat.le_of_ble_eq_true rfl) ⟨Nat.le_refl _, Nat.le_refl _⟩ ?_
          refine z_ifeq (pc := 41) hC 49 (by decide) dX6_after_41 (fun c41 => ?_) (fun c41 => ?_)
          · refine z_iln (pc := 49) hC 2 rfl dX6_after_49 ?_
            refine z_is_ (y := fst_ (onSh R) k (m + 1)) (by simp [fst_, bI_0.mp c41]) ?_
            refine z_isn (pc := 50) (lv' := [(3, .int (fst_ (onSh R) k (m + 1))), (2, .int (fst_ (fun q => onSh R q && decide (x < nI q)) k (m + 1))), (4, .int (nI k)), (0, .ref (b 0)), (1, .int x)]) hC hm (by decide) rfl dX6_after_50 ?_
            refine z_iinc (pc := 51) (v := dn k) (j := 2) (lv' := [(4, .int (dn k)), (3, .int (fst_ (onSh R) k (m + 1))), (2, .int (fst_ (fun q => onSh R q && decide (x < nI q)) k (m + 1))), (0, .ref (b 0)), (1, .int x)]) hC hm (by decide) rfl (dn_step k) rfl dX6_after_51 ?_
            refine z_goto (pc := 54) hC 8 (by decide) dX6_after_54 ?_
            refine z_lv [0, 1, 2, 3, 4] rfl ?_
            exact ih (m + 1) (by omega)
          · refine z_il (pc := 44) hC 1 rfl dX6_after_44 ?_
            refine z_goto (pc := 46) hC 50 (by decide) dX6_after_46 ?_
            refine z_is_ (y := fst_ (onSh R) k (m + 1)) (by simp [fst_, bI_n.mp c41]) ?_
            refine z_isn (pc := 50) (lv' := [(3, .int (fst_ (onSh R) k (m + 1))), (2, .int (fst_ (fun q => onSh R q && decide (x < nI q)) k (m + 1))), (4, .int (nI k)), (0, .ref (b 0)), (1, .int x)]) hC hm (by decide) rfl dX6_after_50 ?_
            refine z_iinc (pc := 51) (v := dn k) (j := 2) (lv' := [(4, .int (dn k)), (3, .int (fst_ (onSh R) k (m + 1))), (2, .int (fst_ (fun q => onSh R q && decide (x < nI q)) k (m + 1))), (0, .ref (b 0)), (1, .int x)]) hC hm (by decide) rfl (dn_step k) rfl dX6_after_51 ?_
            refine z_goto (pc := 54) hC 8 (by decide) dX6_after_54 ?_
            refine z_lv [0, 1, 2, 3, 4] rfl ?_
            exact ih (m + 1) (by omega)
        · refine z_il (pc := 28) hC 0 rfl dX6_after_28 ?_
          refine z_goto (pc := 30) hC 34 (by decide) dX6_after_30 ?_
          refine z_is_ (y := fst_ (fun q => onSh R q && decide (x < nI q)) k (m + 1)) (by simp [fst_, bI_n.mp c19, Int32.not_le.mp c25]) ?_
          refine z_isn (pc := 34) (lv' := [(2, .int (fst_ (fun q => onSh R q && decide (x < nI q)) k (m + 1))), (4, .int (nI k)), (3, .int (fst_ (onSh R) (k + 1) m)), (0, .ref (b 0)), (1, .int x)]) hC hm (by decide) rfl dX6_after_34 ?_
          refine z_aln (pc := 35) hC 3 rfl dX6_after_35 ?_
          refine z_il (pc := 36) hC 1 rfl dX6_after_36 ?_
          refine z_g (pc := 38) (rest := []) hC vX6_isOnShelf lX6_60 dX6_after_38 (m_isOnShelf (r := k) (by omega)) (fun w => w) isCtx_id rfl 0 6 rfl rfl rfl rfl rfl (by decide) (Nat.le_of_ble_eq_true rfl) ⟨Nat.le_refl _, Nat.le_refl _⟩ ?_
          refine z_ifeq (pc := 41) hC 49 (by decide) dX6_after_41 (fun c41 => ?_) (fun c41 => ?_)
          · refine z_iln (pc := 49) hC 2 rfl dX6_after_49 ?_
            refine z_is_ (y := fst_ (onSh R) k (m + 1)) (by simp [fst_, bI_0.mp c41]) ?_
            refine z_isn (pc := 50) (lv' := [(3, .int (fst_ (onSh R) k (m + 1))), (2, .int (fst_ (fun q => onSh R q && decide (x < nI q)) k (m + 1))), (4, .int (nI k)), (0, .ref (b 0)), (1, .int x)]) hC hm (by decide) rfl dX6_after_50 ?_
            refine z_iinc (pc := 51) (v := dn k) (j := 2) (lv' := [(4, .int (dn k)), (3, .int (fst_ (onSh R) k (m + 1))), (2, .int (fst_ (fun q => onSh R q && decide (x < nI q)) k (m + 1))), (0, .ref (b 0)), (1, .int x)]) hC hm (by decide) rfl (dn_step k) rfl dX6_after_51 ?_
            refine z_goto (pc := 54) hC 8 (by decide) dX6_after_54 ?_
            refine z_lv [0, 1, 2, 3, 4] rfl ?_
            exact ih (m + 1) (by omega)
          · refine z_il (pc := 44) hC 1 rfl dX6_after_44 ?_
            refine z_goto (pc := 46) hC 50 (by decide) dX6_after_46 ?_
            refine z_is_ (y := fst_ (onSh R) k (m + 1)) (by simp [fst_, bI_n.mp c41]) ?_
            refine z_isn (pc := 50) (lv' := [(3, .int (fst_ (onSh R) k (m + 1))), (2, .int (fst_ (fun q => onSh R q && decide (x < nI q)) k (m + 1))), (4, .int (nI k)), (0, .ref (b 0)), (1, .int x)]) hC hm (by decide) rfl dX6_after_50 ?_
            refine z_iinc (pc := 51) (v := dn k) (j := 2) (lv' := [(4, .int (dn k)), (3, .int (fst_ (onSh R) k (m + 1))), (2, .int (fst_ (fun q => onSh R q && decide (x < nI q)) k (m + 1))), (0, .ref (b 0)), (1, .int x)]) hC hm (by decide) rfl (dn_step k) rfl dX6_after_51 ?_
            refine z_goto (pc := 54) hC 8 (by decide) dX6_after_54 ?_
            refine z_lv [0, 1, 2, 3, 4] rfl ?_
            exact ih (m + 1) (by omega)
  refine z_iconst (pc := 0) (v := -1) hC dX6_after_0 (by decide) ?_
  refine z_isn (pc := 1) (lv' := [(2, .int (-1)), (0, .ref (b 0)), (1, .int x)]) hC hm (by decide) rfl dX6_after_1 ?_
  refine z_iconst (pc := 2) (v := -1) hC dX6_after_2 (by decide) ?_
  refine z_isn (pc := 3) (lv' := [(3, .int (-1)), (2, .int (-1)), (0, .ref (b 0)), (1, .int x)]) hC hm (by decide) rfl dX6_after_3 ?_
  refine z_bipush (pc := 4) (v := dn 12) hC dX6_after_4 (by decide) ?_
  refine z_is (pc := 6) (lv' := [(4, .int (dn 12)), (3, .int (-1)), (2, .int (-1)), (0, .ref (b 0)), (1, .int x)]) hC hm (by decide) rfl dX6_after_6 ?_
  refine z_lv [0, 1, 2, 3, 4] rfl ?_
  exact loop 12 0 rfl

set_option maxRecDepth 100000 in
set_option maxHeartbeats 4000000 in
theorem m_check {g : zG} {b : Nat → Nat} {R : St} {F : Nat → Nat → Int32} {V : Nat → Int32} {j r : Nat} (hj : j < 12) (hr : r < 12) : Gi g yX6_check cX6_check 5 .int 2 [.ref (b 0), .int (nI j), .int (nI r)] (mW g.2 b R F V) (chk R j r) (mW g.2 b R F V) := by
  refine fi_entry (by decide) (Nat.le_of_ble_eq_true rfl) (fun C hC hm hE => ?_)
  refine z_aln (pc := 0) hC 0 rfl dX6_check_0 ?_
  refine z_iln (pc := 1) hC 1 rfl dX6_check_1 ?_
  refine z_iconst (pc := 2) (v := 0) hC dX6_check_2 (by decide) ?_
  refine z_g (pc := 3) (rest := []) hC vX6_ofJob lX6_57 dX6_check_3 (m_ofJob (R := R) (c := 6) (w := 0) hj (by decide) rfl) (fun w => w) isCtx_id rfl 0 6 rfl rfl rfl rfl rfl (by decide) (Nat.le_of_ble_eq_true rfl) ⟨Nat.le_refl _, Nat.le_refl _⟩ ?_
  refine z_iconst (pc := 6) (v := 2) hC dX6_check_6 (by decide) ?_
  refine z_icne (pc := 7) hC 14 (by decide) dX6_check_7 (fun c7 => ?_) (fun c7 => ?_)
  · refine z_iconst (pc := 14) (v := 0) hC dX6_check_14 (by decide) ?_
    refine z_isn (pc := 15) (lv' := [(3, .int 0), (0, .ref (b 0)), (1, .int (nI j)), (2, .int (nI r))]) hC hm (by decide) rfl dX6_check_15 ?_
    refine z_aln (pc := 16) hC 1 rfl dX6_check_16 ?_
    refine z_iln (pc := 17) hC 2 rfl dX6_check_17 ?_
    refine z_iconst (pc := 18) (v := 0) hC dX6_check_18 (by decide) ?_
    refine z_g (pc := 19) (rest := []) hC vX6_ofJob lX6_57 dX6_check_19 (m_ofJob (R := R) (c := 6) (w := 0) hj (by decide) rfl) (fun w => w) isCtx_id rfl 0 6 rfl rfl rfl rfl rfl (by decide) (Nat.le_of_ble_eq_true rfl) ⟨Nat.le_refl _, Nat.le_refl _⟩ ?_
    refine z_ifne (pc := 22) hC 29 (by decide) dX6_check_22 (fun c22 => ?_) (fun c22 => ?_)
    · refine z_iconst (pc := 29) (v := 0) hC dX6_check_29 (by decide) ?_
      refine z_is (pc := 30) (lv' := [(4, .int 0), (3, .int 0), (0, .ref (b 0)), (1, .int (nI j)), (2, .int (nI r))]) hC hm (by decide) rfl dX6_check_30 ?_
      refine z_iln (pc := 32) hC 1 rfl dX6_check_32 ?_
      refine z_ifne (pc := 33) hC 53 (by decide) dX6_check_33 (fun c33 => absurd c33 (by decide)) (fun c33 => ?_)
      refine z_aln (pc := 36) hC 2 rfl dX6_check_36 ?_
      refine z_iln (pc := 37) hC 4 rfl dX6_check_37 ?_
      refine z_iconst (pc := 38) (v := 0) hC dX6_check_38 (by decide) ?_
      refine z_g (pc := 39) (rest := []) hC vX6_of lX6_46 dX6_check_39 (m_of (R := R) (w := 0) hr (by decide)) (fun w => w) isCtx_id rfl 0 6 rfl rfl rfl rfl rfl (by decide) (Nat.le_of_ble_eq_true rfl) ⟨Nat.le_refl _, Nat.le_refl _⟩ ?_
      refine z_aln (pc := 42) hC 2 rfl dX6_check_42 ?_
      refine z_iln (pc := 43) hC 3 rfl dX6_check_43 ?_
      refine z_iconst (pc := 44) (v := 1) hC dX6_check_44 (by decide) ?_
      refine z_g (pc := 45) (rest := [.int (R 0 r)]) hC vX6_ofJob lX6_57 dX6_check_45 (m_ofJob (R := R) (c := 7) (w := 1) hj (by decide) rfl) (fun w => w) isCtx_id rfl 0 6 rfl rfl rfl rfl rfl (by decide) (Nat.le_of_ble_eq_true rfl) ⟨Nat.le_refl _, Nat.le_refl _⟩ ?_
      refine z_iceq (pc := 48) hC 53 (by decide) dX6_check_48 (fun c48 => ?_) (fun c48 => ?_)
      · refine z_iln (pc := 53) hC 1 rfl dX6_check_53 ?_
        refine z_ifeq (pc := 54) hC 67 (by decide) dX6_check_54 (fun c54 => ?_) (fun c54 => absurd c54 (by decide))
        refine z_il (pc := 67) hC 0 rfl dX6_check_67 ?_
        refine z_ifeq (pc := 69) hC 86 (by decide) dX6_check_69 (fun c69 => ?_) (fun c69 => absurd c69 (by decide))
        refine z_il (pc := 86) hC 0 rfl dX6_check_86 ?_
        refine z_ifne (pc := 88) hC 104 (by decide) dX6_check_88 (fun c88 => absurd c88 (by decide)) (fun c88 => ?_)
        refine z_aln (pc := 91) hC 2 rfl dX6_check_91 ?_
        refine z_iln (pc := 92) hC 4 rfl dX6_check_92 ?_
        refine z_iconst (pc := 93) (v := 2) hC dX6_check_93 (by decide) ?_
        refine z_g (pc := 94) (rest := []) hC vX6_of lX6_46 dX6_check_94 (m_of (R := R) (w := 2) hr (by decide)) (fun w => w) isCtx_id rfl 0 6 rfl rfl rfl rfl rfl (by decide) (Nat.le_of_ble_eq_true rfl) ⟨Nat.le_refl _, Nat.le_refl _⟩ ?_
        refine z_ifne (pc := 97) hC 104 (by decide) dX6_check_97 (fun c97 => ?_) (fun c97 => ?_)
        · refine z_iconst (pc := 104) (v := 0) hC dX6_check_104 (by decide) ?_
          exact hE _ _ _ () _ _ _ dX6_check_105 rfl (by simp [chk, c7, c22, c48, c97]) rfl (Nat.le_refl _) (Nat.le_refl _)
        · refine z_iconst (pc := 100) (v := 4) hC dX6_check_100 (by decide) ?_
          refine z_goto (pc := 101) hC 105 (by decide) dX6_check_101 ?_
          exact hE _ _ _ () _ _ _ dX6_check_105 rfl (by simp [chk, c7, c22, c48, c97]) rfl (Nat.le_refl _) (Nat.le_refl _)
      · refine z_iconst (pc := 51) (v := 1) hC dX6_check_51 (by decide) ?_
        exact hE _ _ _ () _ _ _ dX6_check_52 rfl (by simp [chk, c7, c22, c48]) rfl (Nat.le_refl _) (Nat.le_refl _)
    · refine z_iconst (pc := 25) (v := 1) hC dX6_check_25 (by decide) ?_
      refine z_goto (pc := 26) hC 30 (by decide) dX6_check_26 ?_
      refine z_is (pc := 30) (lv' := [(4, .int 1), (3, .int 0), (0, .ref (b 0)), (1, .int (nI j)), (2, .int (nI r))]) hC hm (by decide) rfl dX6_check_30 ?_
      refine z_iln (pc := 32) hC 1 rfl dX6_check_32 ?_
      refine z_ifne (pc := 33) hC 53 (by decide) dX6_check_33 (fun c33 => absurd c33 (by decide)) (fun c33 => ?_)
      refine z_aln (pc := 36) hC 2 rfl dX6_check_36 ?_
      refine z_iln (pc := 37) hC 4 rfl dX6_check_37 ?_
      refine z_iconst (pc := 38) (v := 0) hC dX6_check_38 (by decide) ?_
      refine z_g (pc := 39) (rest := []) hC vX6_of lX6_46 dX6_check_39 (m_of (R := R) (w := 0) hr (by decide)) (fun w => w) isCtx_id rfl 0 6 rfl rfl rfl rfl rfl (by decide) (Nat.le_of_ble_eq_true rfl) ⟨Nat.le_refl _, Nat.le_refl _⟩ ?_
      refine z_aln (pc := 42) hC 2 rfl dX6_check_42 ?_
      refine z_iln (pc := 43) hC 3 rfl dX6_check_43 ?_
      refine z_iconst (pc := 44) (v := 1) hC dX6_check_44 (by decide) ?_
      refine z_g (pc := 45) (rest := [.int (R 0 r)]) hC vX6_ofJob lX6_57 dX6_check_45 (m_ofJob (R := R) (c := 7) (w := 1) hj (by decide) rfl) (fun w => w) isCtx_id rfl 0 6 rfl rfl rfl rfl rfl (by decide) (Nat.le_of_ble_eq_true rfl) ⟨Nat.le_refl _, Nat.le_refl _⟩ ?_
      refine z_iceq (pc := 48) hC 53 (by decide) dX6_check_48 (fun c48 => ?_) (fun c48 => ?_)
      · refine z_iln (pc := 53) hC 1 rfl dX6_check_53 ?_
        refine z_ifeq (pc := 54) hC 67 (by decide) dX6_check_54 (fun c54 => ?_) (fun c54 => absurd c54 (by decide))
        refine z_il (pc := 67) hC 0 rfl dX6_check_67 ?_
        refine z_ifeq (pc := 69) hC 86 (by decide) dX6_check_69 (fun c69 => absurd c69 (by decide)) (fun c69 => ?_)
        refine z_aln (pc := 72) hC 2 rfl dX6_check_72 ?_
        refine z_iln (pc := 73) hC 4 rfl dX6_check_73 ?_
        refine z_iconst (pc := 74) (v := 2) hC dX6_check_74 (by decide) ?_
        refine z_g (pc := 75) (rest := []) hC vX6_of lX6_46 dX6_check_75 (m_of (R := R) (w := 2) hr (by decide)) (fun w => w) isCtx_id rfl 0 6 rfl rfl rfl rfl rfl (by decide) (Nat.le_of_ble_eq_true rfl) ⟨Nat.le_refl _, Nat.le_refl _⟩ ?_
        refine z_iconst (pc := 78) (v := 1) hC dX6_check_78 (by decide) ?_
        refine z_icne (pc := 79) hC 86 (by decide) dX6_check_79 (fun c79 => ?_) (fun c79 => ?_)
        · refine z_il (pc := 86) hC 0 rfl dX6_check_86 ?_
          refine z_ifne (pc := 88) hC 104 (by decide) dX6_check_88 (fun c88 => ?_) (fun c88 => absurd c88 (by decide))
          refine z_iconst (pc := 104) (v := 0) hC dX6_check_104 (by decide) ?_
          exact hE _ _ _ () _ _ _ dX6_check_105 rfl (by simp [chk, c7, c22, c48, c79]) rfl (Nat.le_refl _) (Nat.le_refl _)
        · refine z_iconst (pc := 82) (v := 3) hC dX6_check_82 (by decide) ?_
          refine z_goto (pc := 83) hC 105 (by decide) dX6_check_83 ?_
          exact hE _ _ _ () _ _ _ dX6_check_105 rfl (by simp [chk, c7, c22, c48, c79]) rfl (Nat.le_refl _) (Nat.le_refl _)
      · refine z_iconst (pc := 51) (v := 1) hC dX6_check_51 (by decide) ?_
        exact hE _ _ _ () _ _ _ dX6_check_52 rfl (by simp [chk, c7, c22, c48]) rfl (Nat.le_refl _) (Nat.le_refl _)
  · refine z_iconst (pc := 10) (v := 1) hC dX6_check_10 (by decide) ?_
    refine z_goto (pc := 11) hC 15 (by decide) dX6_check_11 ?_
    refine z_isn (pc := 15) (lv' := [(3, .int 1), (0, .ref (b 0)), (1, .int (nI j)), (2, .int (nI r))]) hC hm (by decide) rfl dX6_check_15 ?_
    refine z_aln (pc := 16) hC 1 rfl dX6_check_16 ?_
    refine z_iln (pc := 17) hC 2 rfl dX6_check_17 ?_
    refine z_iconst (pc := 18) (v := 0) hC dX6_check_18 (by decide) ?_
    refine z_g (pc := 19) (rest := []) hC vX6_ofJob lX6_57 dX6_check_19 (m_ofJob (R := R) (c := 6) (w := 0) hj (by decide) rfl) (fun w => w) isCtx_id rfl 0 6 rfl rfl rfl rfl rfl (by decide) (Nat.le_of_ble_eq_true rfl) ⟨Nat.le_refl _, Nat.le_refl _⟩ ?_
    refine z_ifne (pc := 22) hC 29 (by decide) dX6_check_22 (fun c22 => ?_) (fun c22 => absurd (c22.symm.trans c7) (by decide))
    refine z_iconst (pc := 29) (v := 0) hC dX6_check_29 (by decide) ?_
    refine z_is (pc := 30) (lv' := [(4, .int 0), (3, .int 1), (0, .ref (b 0)), (1, .int (nI j)), (2, .int (nI r))]) hC hm (by decide) rfl dX6_check_30 ?_
    refine z_iln (pc := 32) hC 1 rfl dX6_check_32 ?_
    refine z_ifne (pc := 33) hC 53 (by decide) dX6_check_33 (fun c33 => ?_) (fun c33 => absurd c33 (by decide))
    refine z_iln (pc := 53) hC 1 rfl dX6_check_53 ?_
    refine z_ifeq (pc := 54) hC 67 (by decide) dX6_check_54 (fun c54 => absurd c54 (by decide)) (fun c54 => ?_)
    refine z_aln (pc := 57) hC 2 rfl dX6_check_57 ?_
    refine z_iln (pc := 58) hC 4 rfl dX6_check_58 ?_
    refine z_g (pc := 59) (rest := []) hC vX6_isScratch lX6_67 dX6_check_59 (m_isScratch (r := r) hr) (fun w => w) isCtx_id rfl 0 6 rfl rfl rfl rfl rfl (by decide) (Nat.le_of_ble_eq_true rfl) ⟨Nat.le_refl _, Nat.le_refl _⟩ ?_
    refine z_ifne (pc := 62) hC 67 (by decide) dX6_check_62 (fun c62 => ?_) (fun c62 => ?_)
    · refine z_il (pc := 67) hC 0 rfl dX6_check_67 ?_
      refine z_ifeq (pc := 69) hC 86 (by decide) dX6_check_69 (fun c69 => ?_) (fun c69 => absurd c69 (by decide))
      refine z_il (pc := 86) hC 0 rfl dX6_check_86 ?_
      refine z_ifne (pc := 88) hC 104 (by decide) dX6_check_88 (fun c88 => absurd c88 (by decide)) (fun c88 => ?_)
      refine z_aln (pc := 91) hC 2 rfl dX6_check_91 ?_
      refine z_iln (pc := 92) hC 4 rfl dX6_check_92 ?_
      refine z_iconst (pc := 93) (v := 2) hC dX6_check_93 (by decide) ?_
      refine z_g (pc := 94) (rest := []) hC vX6_of lX6_46 dX6_check_94 (m_of (R := R) (w := 2) hr (by decide)) (fun w => w) isCtx_id rfl 0 6 rfl rfl rfl rfl rfl (by decide) (Nat.le_of_ble_eq_true rfl) ⟨Nat.le_refl _, Nat.le_refl _⟩ ?_
      refine z_ifne (pc := 97) hC 104 (by decide) dX6_check_97 (fun c97 => ?_) (fun c97 => ?_)
      · refine z_iconst (pc := 104) (v := 0) hC dX6_check_104 (by decide) ?_
        exact hE _ _ _ () _ _ _ dX6_check_105 rfl (by simp [chk, c7, c22, bI_n.mp c62, c97]) rfl (Nat.le_refl _) (Nat.le_refl _)
      · refine z_iconst (pc := 100) (v := 4) hC dX6_check_100 (by decide) ?_
        refine z_goto (pc := 101) hC 105 (by decide) dX6_check_101 ?_
        exact hE _ _ _ () _ _ _ dX6_check_105 rfl (by simp [chk, c7, c22, bI_n.mp c62, c97]) rfl (Nat.le_refl _) (Nat.le_refl _)
    · refine z_iconst (pc := 65) (v := 2) hC dX6_check_65 (by decide) ?_
      exact hE _ _ _ () _ _ _ dX6_check_66 rfl (by simp [chk, bI_0.mp c62, c7]) rfl (Nat.le_refl _) (Nat.le_refl _)

theorem lst_spec (p : Nat → Bool) : ∀ k, (lst_ p k = -1 ∧ ∀ j, j < k → p j = false) ∨ ∃ r, r < k ∧ lst_ p k = nI r ∧ p r = true ∧ ∀ j, r < j → j < k → p j = false
  | 0 => Or.inl ⟨rfl, fun j h => by omega⟩
  | k + 1 => by
    by_cases h : p k = true
    · exact Or.inr ⟨k, by omega, by simp [lst_, h], h, fun j h1 h2 => by omega⟩
    · have e : lst_ p (k + 1) = lst_ p k := by simp [lst_, h]
      have h' : p k = false := by simpa using h
      rcases lst_spec p k with ⟨h1, h2⟩ | ⟨r, h1, h2, h3, h4⟩
      · refine Or.inl ⟨e.trans h1, fun j hj => ?_⟩
        rcases Nat.lt_succ_iff_lt_or_eq.mp hj with q | rfl
        · exact h2 j q
        · exact h'
      · refine Or.inr ⟨r, by omega, e.trans h2, h3, fun j g1 g2 => ?_⟩
        rcases Nat.lt_succ_iff_lt_or_eq.mp g2 with q | rfl
        · exact h4 j g1 q
        · exact h'

set_option maxRecDepth 100000 in
set_option maxHeartbeats 4000000 in
theorem m_onDrive {g : zG} {b : Nat → Nat} {R : St} {F : Nat → Nat → Int32} {V : Nat → Int32} {x : Int32} : Gi g yX6_onDrive cX6_onDrive 4 .int 1 [.ref (b 0), .int x] (mW g.2 b R F V) (onDr R x) (mW g.2 b R F V) := by
  refine fi_entry (by decide) (Nat.le_of_ble_eq_true rfl) (fun C hC hm hE => ?_)
  have loop : ∀ k m : Nat, m + k = 12 → Z g C 0 0 (mW g.2 b R F V) [(3, .int (nI m)), (2, .int (lst_ (fun r => decide (R 5 r = x)) m)), (0, .ref (b 0)), (1, .int x)] 4 [] := by
    intro k
    induction k with
    | zero =>
      intro m hm2
      refine z_iln (pc := 4) hC 0 rfl dX6_onDrive_4 ?_
      refine z_bipush (pc := 5) (v := nI 12) hC dX6_onDrive_5 (by decide) ?_
      refine z_icge (pc := 7) hC 32 (by decide) dX6_onDrive_7 (fun c7 => ?_) (fun c7 => absurd (nI_le (by omega) (by omega)) c7)
      refine z_iln (pc := 32) hC 1 rfl dX6_onDrive_32 ?_
      exact hE _ _ _ () _ _ _ dX6_onDrive_33 rfl (by rw [show m = 12 by omega]; rfl) rfl (Nat.le_refl _) (Nat.le_refl _)
    | succ k ih =>
      intro m hm2
      refine z_iln (pc := 4) hC 0 rfl dX6_onDrive_4 ?_
      refine z_bipush (pc := 5) (v := nI 12) hC dX6_onDrive_5 (by decide) ?_
      refine z_icge (pc := 7) hC 32 (by decide) dX6_onDrive_7 (fun c7 => absurd c7 (nI_ge (by omega) (by omega))) (fun c7 => ?_)
      refine z_aln (pc := 10) hC 2 rfl dX6_onDrive_10 ?_
      refine z_iln (pc := 11) hC 0 rfl dX6_onDrive_11 ?_
      refine z_iconst (pc := 12) (v := 5) hC dX6_onDrive_12 (by decide) ?_
      refine z_g (pc := 13) (rest := []) hC vX6_of lX6_46 dX6_onDrive_13 (m_of (R := R) (w := 5) (by omega) (by decide)) (fun w => w) isCtx_id rfl 0 6 rfl rfl rfl rfl rfl (by decide) (Nat.le_of_ble_eq_true rfl) ⟨Nat.le_refl _, Nat.le_refl _⟩ ?_
      refine z_iln (pc := 16) hC 3 rfl dX6_onDrive_16 ?_
      refine z_icne (pc := 17) hC 24 (by decide) dX6_onDrive_17 (fun c17 => ?_) (fun c17 => ?_)
      · refine z_iln (pc := 24) hC 1 rfl dX6_onDrive_24 ?_
        refine z_is_ (y := lst_ (fun r => decide (R 5 r = x)) (m + 1)) (by simp [lst_, c17]) ?_
        refine z_isn (pc := 25) (lv' := [(2, .int (lst_ (fun r => decide (R 5 r = x)) (m + 1))), (3, .int (nI m)), (0, .ref (b 0)), (1, .int x)]) hC hm (by decide) rfl dX6_onDrive_25 ?_
        refine z_iinc (pc := 26) (v := nI (m + 1)) (j := 1) (lv' := [(3, .int (nI (m + 1))), (2, .int (lst_ (fun r => decide (R 5 r = x)) (m + 1))), (0, .ref (b 0)), (1, .int x)]) hC hm (by decide) rfl (up_step m) rfl dX6_onDrive_26 ?_
        refine z_goto (pc := 29) hC 4 (by decide) dX6_onDrive_29 ?_
        refine z_lv [0, 1, 2, 3] rfl ?_
        exact ih (m + 1) (by omega)
      · refine z_iln (pc := 20) hC 0 rfl dX6_onDrive_20 ?_
        refine z_goto (pc := 21) hC 25 (by decide) dX6_onDrive_21 ?_
        refine z_is_ (y := lst_ (fun r => decide (R 5 r = x)) (m + 1)) (by simp [lst_, c17]) ?_
        refine z_isn (pc := 25) (lv' := [(2, .int (lst_ (fun r => decide (R 5 r = x)) (m + 1))), (3, .int (nI m)), (0, .ref (b 0)), (1, .int x)]) hC hm (by decide) rfl dX6_onDrive_25 ?_
        refine z_iinc (pc := 26) (v := nI (m + 1)) (j := 1) (lv' := [(3, .int (nI (m + 1))), (2, .int (lst_ (fun r => decide (R 5 r = x)) (m + 1))), (0, .ref (b 0)), (1, .int x)]) hC hm (by decide) rfl (up_step m) rfl dX6_onDrive_26 ?_
        refine z_goto (pc := 29) hC 4 (by decide) dX6_onDrive_29 ?_
        refine z_lv [0, 1, 2, 3] rfl ?_
        exact ih (m + 1) (by omega)
  refine z_iconst (pc := 0) (v := -1) hC dX6_onDrive_0 (by decide) ?_
  refine z_isn (pc := 1) (lv' := [(2, .int (-1)), (0, .ref (b 0)), (1, .int x)]) hC hm (by decide) rfl dX6_onDrive_1 ?_
  refine z_iconst (pc := 2) (v := nI 0) hC dX6_onDrive_2 (by decide) ?_
  refine z_isn (pc := 3) (lv' := [(3, .int (nI 0)), (2, .int (-1)), (0, .ref (b 0)), (1, .int x)]) hC hm (by decide) rfl dX6_onDrive_3 ?_
  refine z_lv [0, 1, 2, 3] rfl ?_
  exact loop 12 0 rfl

set_option maxRecDepth 100000 in
set_option maxHeartbeats 4000000 in
theorem m_emptyDrive {g : zG} {b : Nat → Nat} {R : St} {F : Nat → Nat → Int32} {V : Nat → Int32} : Gi g yX6_emptyDrive cX6_emptyDrive 3 .int 2 [.ref (b 0)] (mW g.2 b R F V) (edr R) (mW g.2 b R F V) := by
  refine fi_entry (by decide) (Nat.le_of_ble_eq_true rfl) (fun C hC hm hE => ?_)
  have loop : ∀ k m : Nat, k + m = 3 → Z g C 0 0 (mW g.2 b R F V) [(2, .int (dn k)), (1, .int (fst_ (fun d => decide (onDr R (nI d) = -1)) k m)), (0, .ref (b 0))] 4 [] := by
    intro k
    induction k with
    | zero =>
      intro m hm2
      refine z_iln (pc := 4) hC 0 rfl dX6_emptyDrive_4 ?_
      refine z_iflt (pc := 5) hC 29 (by decide) dX6_emptyDrive_5 (fun c5 => ?_) (fun c5 => absurd dn_0 c5)
      refine z_iln (pc := 29) hC 1 rfl dX6_emptyDrive_29 ?_
      exact hE _ _ _ () _ _ _ dX6_emptyDrive_30 rfl (by rw [show m = 3 by omega]; rfl) rfl (Nat.le_refl _) (Nat.le_refl _)
    | succ k ih =>
      intro m hm2
      show Z g C 0 0 (mW g.2 b R F V) [(2, .int (nI k)), (1, .int (fst_ (fun d => decide (onDr R (nI d) = -1)) (k + 1) m)), (0, .ref (b 0))] 4 []
      refine z_iln (pc := 4) hC 0 rfl dX6_emptyDrive_4 ?_
      refine z_iflt (pc := 5) hC 29 (by decide) dX6_emptyDrive_5 (fun c5 => absurd c5 (nI_nlt0 (by omega))) (fun c5 => ?_)
      refine z_aln (pc := 8) hC 2 rfl dX6_emptyDrive_8 ?_
      refine z_iln (pc := 9) hC 0 rfl dX6_emptyDrive_9 ?_
      refine z_g (pc := 10) (rest := []) hC vX6_onDrive lX6_70 dX6_emptyDrive_10 (m_onDrive (x := nI k)) (fun w => w) isCtx_id rfl 0 6 rfl rfl rfl rfl rfl (by decide) (Nat.le_of_ble_eq_true rfl) ⟨Nat.le_refl _, Nat.le_refl _⟩ ?_
      refine z_iconst (pc := 13) (v := -1) hC dX6_emptyDrive_13 (by decide) ?_
      refine z_icne (pc := 14) hC 21 (by decide) dX6_emptyDrive_14 (fun c14 => ?_) (fun c14 => ?_)
      · refine z_iln (pc := 21) hC 1 rfl dX6_emptyDrive_21 ?_
        refine z_is_ (y := fst_ (fun d => decide (onDr R (nI d) = -1)) k (m + 1)) (by simp [fst_, c14]) ?_
        refine z_isn (pc := 22) (lv' := [(1, .int (fst_ (fun d => decide (onDr R (nI d) = -1)) k (m + 1))), (2, .int (nI k)), (0, .ref (b 0))]) hC hm (by decide) rfl dX6_emptyDrive_22 ?_
        refine z_iinc (pc := 23) (v := dn k) (j := 1) (lv' := [(2, .int (dn k)), (1, .int (fst_ (fun d => decide (onDr R (nI d) = -1)) k (m + 1))), (0, .ref (b 0))]) hC hm (by decide) rfl (dn_step k) rfl dX6_emptyDrive_23 ?_
        refine z_goto (pc := 26) hC 4 (by decide) dX6_emptyDrive_26 ?_
        refine z_lv [0, 1, 2] rfl ?_
        exact ih (m + 1) (by omega)
      · refine z_iln (pc := 17) hC 0 rfl dX6_emptyDrive_17 ?_
        refine z_goto (pc := 18) hC 22 (by decide) dX6_emptyDrive_18 ?_
        refine z_is_ (y := fst_ (fun d => decide (onDr R (nI d) = -1)) k (m + 1)) (by simp [fst_, c14]) ?_
        refine z_isn (pc := 22) (lv' := [(1, .int (fst_ (fun d => decide (onDr R (nI d) = -1)) k (m + 1))), (2, .int (nI k)), (0, .ref (b 0))]) hC hm (by decide) rfl dX6_emptyDrive_22 ?_
        refine z_iinc (pc := 23) (v := dn k) (j := 1) (lv' := [(2, .int (dn k)), (1, .int (fst_ (fun d => decide (onDr R (nI d) = -1)) k (m + 1))), (0, .ref (b 0))]) hC hm (by decide) rfl (dn_step k) rfl dX6_emptyDrive_23 ?_
        refine z_goto (pc := 26) hC 4 (by decide) dX6_emptyDrive_26 ?_
        refine z_lv [0, 1, 2] rfl ?_
        exact ih (m + 1) (by omega)
  refine z_iconst (pc := 0) (v := -1) hC dX6_emptyDrive_0 (by decide) ?_
  refine z_isn (pc := 1) (lv' := [(1, .int (-1)), (0, .ref (b 0))]) hC hm (by decide) rfl dX6_emptyDrive_1 ?_
  refine z_iconst (pc := 2) (v := dn 3) hC dX6_emptyDrive_2 (by decide) ?_
  refine z_isn (pc := 3) (lv' := [(2, .int (dn 3)), (1, .int (-1)), (0, .ref (b 0))]) hC hm (by decide) rfl dX6_emptyDrive_3 ?_
  refine z_lv [0, 1, 2] rfl ?_
  exact loop 3 0 rfl
