set_option maxRecDepth 100000 in
set_option maxHeartbeats 4000000 in
theorem c_within {g : zG} {x y z : Int32} : Gi g yX5_isWithin cX5_isWithin 3 .boolean 0 [.int x, .int y, .int z] ([]) (bI (inB x y z)) ([]) := by
  refine fi_entry (by decide) (Nat.le_of_ble_eq_true rfl) (fun C hC hm hE => ?_)
  refine z_iln (pc := 0) hC 0 rfl dX5_isWithin_0 ?_
  refine z_iln (pc := 1) hC 1 rfl dX5_isWithin_1 ?_
  refine z_iclt (pc := 2) hC 14 (by decide) dX5_isWithin_2 (fun c2 => ?_) (fun c2 => ?_)
  · refine z_iconst (pc := 14) (v := 0) hC dX5_isWithin_14 (by decide) ?_
    exact hE _ _ _ () _ _ _ dX5_isWithin_15 rfl (by first | exact inB_1 c2 | exact inB_2 c7) rfl (Nat.le_refl _) (Nat.le_refl _)
  · refine z_iln (pc := 5) hC 0 rfl dX5_isWithin_5 ?_
    refine z_iln (pc := 6) hC 2 rfl dX5_isWithin_6 ?_
    refine z_icgt (pc := 7) hC 14 (by decide) dX5_isWithin_7 (fun c7 => ?_) (fun c7 => ?_)
    · refine z_iconst (pc := 14) (v := 0) hC dX5_isWithin_14 (by decide) ?_
      exact hE _ _ _ () _ _ _ dX5_isWithin_15 rfl (by first | exact inB_1 c2 | exact inB_2 c7) rfl (Nat.le_refl _) (Nat.le_refl _)
    · refine z_iconst (pc := 10) (v := 1) hC dX5_isWithin_10 (by decide) ?_
      refine z_goto (pc := 11) hC 15 (by decide) dX5_isWithin_11 ?_
      exact hE _ _ _ () _ _ _ dX5_isWithin_15 rfl (inB_3 c2 c7) rfl (Nat.le_refl _) (Nat.le_refl _)

set_option maxRecDepth 100000 in
set_option maxHeartbeats 4000000 in
theorem c_isReel {g : zG} {x : Int32} : Gi g yX5_isReel cX5_isReel 1 .boolean 1 [.int x] ([]) (bI (isReel x)) ([]) := by
  refine fi_entry (by decide) (Nat.le_of_ble_eq_true rfl) (fun C hC hm hE => ?_)
  refine z_iln (pc := 0) hC 0 rfl dX5_isReel_0 ?_
  refine z_iconst (pc := 1) (v := 0) hC dX5_isReel_1 (by decide) ?_
  refine z_bipush (pc := 2) (v := 11) hC dX5_isReel_2 (by decide) ?_
  refine z_gs (pc := 4) (rest := []) hC sX5_isWithin lX5_33 dX5_isReel_4 (c_within (x := x) (y := 0) (z := 11)) rfl rfl (by decide) (Nat.le_of_ble_eq_true rfl) ⟨Nat.le_refl _, Nat.le_refl _⟩ ?_
  exact hE _ _ _ () _ _ _ dX5_isReel_7 (bI_nar _) rfl rfl (Nat.le_refl _) (Nat.le_refl _)

set_option maxRecDepth 100000 in
set_option maxHeartbeats 4000000 in
theorem c_isScratch {g : zG} {a : Nat → Nat} {R : St} {r : Nat} (hr : r < 12) {dy : Int32} (hdy : dy = R 14 0) : Gi g yX3_isScratch cX3_isScratch 3 .boolean 0 [.ref (a 1), .int (nI r), .int dy] (rW g.2 a R) (bI (scr R r)) (rW g.2 a R) := by
  refine fi_entry (by decide) (Nat.le_of_ble_eq_true rfl) (fun C hC hm hE => ?_)
  refine z_aln (pc := 0) hC 0 rfl dX3_isScratch_0 ?_
  refine z_get (pc := 1) hC fX3_9 1 rfl rfl dX3_isScratch_1 ?_
  refine z_iln (pc := 4) hC 1 rfl dX3_isScratch_4 ?_
  refine z_iald (pc := 5) hC 3 rfl dX3_isScratch_5 r rfl (by omega) (by decide) ?_
  refine z_ifeq (pc := 6) hC 19 (by decide) dX3_isScratch_6 (fun c6 => ?_) (fun c6 => ?_)
  · refine z_iconst (pc := 19) (v := 1) hC dX3_isScratch_19 (by decide) ?_
    refine z_goto (pc := 20) hC 24 (by decide) dX3_isScratch_20 ?_
    exact hE _ _ _ () _ _ _ dX3_isScratch_24 rfl (bI_t (by first | (simp [scr, c6]; done) | (simp [scr, ← hdy, Int32.not_le.mp c16]; done))) rfl (Nat.le_refl _) (Nat.le_refl _)
  · refine z_aln (pc := 9) hC 0 rfl dX3_isScratch_9 ?_
    refine z_get (pc := 10) hC fX3_22 1 rfl rfl dX3_isScratch_10 ?_
    refine z_iln (pc := 13) hC 1 rfl dX3_isScratch_13 ?_
    refine z_iald (pc := 14) hC 6 rfl dX3_isScratch_14 r rfl (by omega) (by decide) ?_
    refine z_iln (pc := 15) hC 2 rfl dX3_isScratch_15 ?_
    refine z_icge (pc := 16) hC 23 (by decide) dX3_isScratch_16 (fun c16 => ?_) (fun c16 => ?_)
    · refine z_iconst (pc := 23) (v := 0) hC dX3_isScratch_23 (by decide) ?_
      exact hE _ _ _ () _ _ _ dX3_isScratch_24 rfl (bI_f (by simp [scr, c6, ← hdy, Int32.not_lt.mpr c16])) rfl (Nat.le_refl _) (Nat.le_refl _)
    · refine z_iconst (pc := 19) (v := 1) hC dX3_isScratch_19 (by decide) ?_
      refine z_goto (pc := 20) hC 24 (by decide) dX3_isScratch_20 ?_
      exact hE _ _ _ () _ _ _ dX3_isScratch_24 rfl (bI_t (by first | (simp [scr, c6]; done) | (simp [scr, ← hdy, Int32.not_le.mp c16]; done))) rfl (Nat.le_refl _) (Nat.le_refl _)

theorem fst_ext (p : Nat → Bool) : ∀ (k i : Nat), i + k < 2 ^ 31 → fst_ p i (k + 1) = if fst_ p i k = -1 then (if p (i + k) = true then nI (i + k) else -1) else fst_ p i k
  | 0, i, _ => by simp [fst_]
  | k + 1, i, hk => by
    by_cases h : p i = true
    · have e : ∀ n, fst_ p i (n + 1) = nI i := fun n => by simp [fst_, h]
      rw [e, e, if_neg (nI_ne (by omega))]
    · have e : ∀ n, fst_ p i (n + 1) = fst_ p (i + 1) n := fun n => by simp [fst_, h]
      rw [e, e, fst_ext p k (i + 1) (by omega), show i + 1 + k = i + (k + 1) by omega]
theorem fst_hit {p : Nat → Bool} {m N : Nat} (h : ∀ j, j < m → p j = false) (hm : p m = true) (hN : m < N) : fst_ p 0 N = nI m := by
  rcases fst_spec p N 0 with ⟨-, h2⟩ | ⟨r, -, h2, h3, h4, h5⟩
  · have := h2 m (by omega) (by omega)
    rw [hm] at this; cases this
  · rcases Nat.lt_trichotomy r m with q | q | q
    · rw [h r q] at h4; cases h4
    · rw [h3, q]
    · rw [h5 m (by omega) q] at hm; cases hm
theorem fst_miss {p : Nat → Bool} {N : Nat} (h : ∀ j, j < N → p j = false) : fst_ p 0 N = -1 := by
  rcases fst_spec p N 0 with ⟨h1, -⟩ | ⟨r, -, h2, h3, h4, h5⟩
  · exact h1
  · rw [h r (by omega)] at h4; cases h4
theorem all_s {p : Nat → Bool} {m : Nat} (h : ∀ j, j < m → p j = false) (hm : p m = false) : ∀ j, j < m + 1 → p j = false := fun j hj => by
  rcases Nat.lt_succ_iff_lt_or_eq.mp hj with q | rfl
  · exact h j q
  · exact hm
theorem keptA_iff {R : St} {v : Int32} {m : Nat} : keptA R v m = false ↔ ∀ j, j < m → (!scr R j && decide (R 0 j = v)) = false := by
  simp [keptA]
theorem keptA_t {R : St} {v : Int32} {m N : Nat} (h : (!scr R m && decide (R 0 m = v)) = true) (hm : m < N) : keptA R v N = true := by
  simp only [keptA, List.any_eq_true, List.mem_range]
  exact ⟨m, hm, h⟩
theorem keptB_t {R : St} {v : Int32} {m N : Nat} (h : (decide (R 6 m = 2) && (decide (R 7 m = v) && decide (R 10 m = 0))) = true) (hm : m < N) : keptB R v N = true := by
  simp only [keptB, List.any_eq_true, List.mem_range]
  exact ⟨m, hm, h⟩
theorem keptA_f {R : St} {v : Int32} {m : Nat} (h : ∀ j, j < m → (!scr R j && decide (R 0 j = v)) = false) : keptA R v m = false := keptA_iff.mpr h
theorem keptB_f {R : St} {v : Int32} {m : Nat} (h : ∀ j, j < m → (decide (R 6 j = 2) && (decide (R 7 j = v) && decide (R 10 j = 0))) = false) : keptB R v m = false := by
  simp only [keptB, List.any_eq_false, List.mem_range]
  exact fun j hj => by rw [h j hj]; decide
theorem fst_lst {R : St} {x : Int32} (hD : DI R) (hx : ¬ x = -1) : fst_ (fun r => decide (R 5 r = x)) 0 12 = onDr R x := by
  rcases lst_spec (fun r => decide (R 5 r = x)) 12 with ⟨h1, h2⟩ | ⟨r, h1, h2, h3, h4⟩
  · exact (fst_miss h2).trans h1.symm
  · refine (fst_hit (fun j hj => ?_) h3 h1).trans h2.symm
    simp only [decide_eq_false_iff_not]
    intro e
    have e3 : R 5 r = x := by simpa using h3
    have := hD j r (by omega) h1 (e.trans e3.symm) (by rw [e]; exact hx)
    omega

set_option maxRecDepth 100000 in
set_option maxHeartbeats 4000000 in
theorem c_keepsLabel {g : zG} {a : Nat → Nat} {R : St} {v dy : Int32} (hdy : dy = R 14 0) : Gi g yX3_keepsLabel cX3_keepsLabel 4 .boolean 1 [.ref (a 1), .int v, .int dy] (rW g.2 a R) (bI (keptA R v 12)) (rW g.2 a R) := by
  refine fi_entry (by decide) (Nat.le_of_ble_eq_true rfl) (fun C hC hm hE => ?_)
  have loop : ∀ k m : Nat, m + k = 12 → (∀ j, j < m → (!scr R j && decide (R 0 j = v)) = false) → Z g C 0 0 (rW g.2 a R) [(3, .int (nI m)), (0, .ref (a 1)), (1, .int v), (2, .int dy)] 2 [] := by
    intro k
    induction k with
    | zero =>
      intro m hm2 hp
      refine z_iln (pc := 2) hC 0 rfl dX3_keepsLabel_2 ?_
      refine z_bipush (pc := 3) (v := nI 12) hC dX3_keepsLabel_3 (by decide) ?_
      refine z_icge (pc := 5) hC 35 (by decide) dX3_keepsLabel_5 (fun c5 => ?_) (fun c5 => absurd (nI_le (by omega) (by omega)) c5)
      refine z_iconst (pc := 35) (v := 0) hC dX3_keepsLabel_35 (by decide) ?_
      exact hE _ _ _ () _ _ _ dX3_keepsLabel_36 rfl (bI_f (keptA_f (by rw [show (12 : Nat) = m by omega]; exact hp))) rfl (Nat.le_refl _) (Nat.le_refl _)
    | succ k ih =>
      intro m hm2 hp
      refine z_iln (pc := 2) hC 0 rfl dX3_keepsLabel_2 ?_
      refine z_bipush (pc := 3) (v := nI 12) hC dX3_keepsLabel_3 (by decide) ?_
      refine z_icge (pc := 5) hC 35 (by decide) dX3_keepsLabel_5 (fun c5 => absurd c5 (nI_ge (by omega) (by omega))) (fun c5 => ?_)
      refine z_aln (pc := 8) hC 1 rfl dX3_keepsLabel_8 ?_
      refine z_get (pc := 9) hC fX3_9 1 rfl rfl dX3_keepsLabel_9 ?_
      refine z_iln (pc := 12) hC 0 rfl dX3_keepsLabel_12 ?_
      refine z_iald (pc := 13) hC 3 rfl dX3_keepsLabel_13 m rfl (by omega) (by decide) ?_
      refine z_iln (pc := 14) hC 2 rfl dX3_keepsLabel_14 ?_
      refine z_icne (pc := 15) hC 29 (by decide) dX3_keepsLabel_15 (fun c15 => ?_) (fun c15 => ?_)
      · refine z_iinc (pc := 29) (v := nI (m + 1)) (j := 0) (lv' := [(3, .int (nI (m + 1))), (0, .ref (a 1)), (1, .int v), (2, .int dy)]) hC hm (by decide) rfl (up_step m) rfl dX3_keepsLabel_29 ?_
        refine z_goto (pc := 32) hC 2 (by decide) dX3_keepsLabel_32 ?_
        refine z_lv [0, 1, 2, 3] rfl ?_
        exact ih (m + 1) (by omega) (all_s hp (by first | (simp [c15]; done) | (simp [bI_n.mp c24]; done)))
      · refine z_aln (pc := 18) hC 1 rfl dX3_keepsLabel_18 ?_
        refine z_iln (pc := 19) hC 0 rfl dX3_keepsLabel_19 ?_
        refine z_iln (pc := 20) hC 3 rfl dX3_keepsLabel_20 ?_
        refine z_g (pc := 21) (rest := []) hC vX3_isScratch lX3_37 dX3_keepsLabel_21 (c_isScratch (r := m) (by omega) hdy) (fun w => w) isCtx_id rfl 1 3 rfl rfl rfl rfl rfl (by decide) (Nat.le_of_ble_eq_true rfl) ⟨Nat.le_refl _, Nat.le_refl _⟩ ?_
        refine z_ifne (pc := 24) hC 29 (by decide) dX3_keepsLabel_24 (fun c24 => ?_) (fun c24 => ?_)
        · refine z_iinc (pc := 29) (v := nI (m + 1)) (j := 0) (lv' := [(3, .int (nI (m + 1))), (0, .ref (a 1)), (1, .int v), (2, .int dy)]) hC hm (by decide) rfl (up_step m) rfl dX3_keepsLabel_29 ?_
          refine z_goto (pc := 32) hC 2 (by decide) dX3_keepsLabel_32 ?_
          refine z_lv [0, 1, 2, 3] rfl ?_
          exact ih (m + 1) (by omega) (all_s hp (by first | (simp [c15]; done) | (simp [bI_n.mp c24]; done)))
        · refine z_iconst (pc := 27) (v := 1) hC dX3_keepsLabel_27 (by decide) ?_
          exact hE _ _ _ () _ _ _ dX3_keepsLabel_28 rfl (bI_t (keptA_t (m := m) (by simp [c15, bI_0.mp c24]) (by omega))) rfl (Nat.le_refl _) (Nat.le_refl _)
  refine z_iconst (pc := 0) (v := nI 0) hC dX3_keepsLabel_0 (by decide) ?_
  refine z_isn (pc := 1) (lv' := [(3, .int (nI 0)), (0, .ref (a 1)), (1, .int v), (2, .int dy)]) hC hm (by decide) rfl dX3_keepsLabel_1 ?_
  refine z_lv [0, 1, 2, 3] rfl ?_
  exact loop 12 0 rfl (fun j h => absurd h (Nat.not_lt_zero j))

set_option maxRecDepth 100000 in
set_option maxHeartbeats 4000000 in
theorem c_findOn {g : zG} {a : Nat → Nat} {R : St} {x : Int32} : Gi g yX3_findOn cX3_findOn 3 .int 0 [.ref (a 1), .int x] (rW g.2 a R) (fst_ (fun r => decide (R 5 r = x)) 0 12) (rW g.2 a R) := by
  refine fi_entry (by decide) (Nat.le_of_ble_eq_true rfl) (fun C hC hm hE => ?_)
  have loop : ∀ k m : Nat, m + k = 12 → (∀ j, j < m → (fun r => decide (R 5 r = x)) j = false) → Z g C 0 0 (rW g.2 a R) [(2, .int (nI m)), (0, .ref (a 1)), (1, .int x)] 2 [] := by
    intro k
    induction k with
    | zero =>
      intro m hm2 hp
      refine z_iln (pc := 2) hC 0 rfl dX3_findOn_2 ?_
      refine z_bipush (pc := 3) (v := nI 12) hC dX3_findOn_3 (by decide) ?_
      refine z_icge (pc := 5) hC 26 (by decide) dX3_findOn_5 (fun c5 => ?_) (fun c5 => absurd (nI_le (by omega) (by omega)) c5)
      refine z_iconst (pc := 26) (v := -1) hC dX3_findOn_26 (by decide) ?_
      exact hE _ _ _ () _ _ _ dX3_findOn_27 rfl (fst_miss (by rw [show (12 : Nat) = m by omega]; exact hp)).symm rfl (Nat.le_refl _) (Nat.le_refl _)
    | succ k ih =>
      intro m hm2 hp
      refine z_iln (pc := 2) hC 0 rfl dX3_findOn_2 ?_
      refine z_bipush (pc := 3) (v := nI 12) hC dX3_findOn_3 (by decide) ?_
      refine z_icge (pc := 5) hC 26 (by decide) dX3_findOn_5 (fun c5 => absurd c5 (nI_ge (by omega) (by omega))) (fun c5 => ?_)
      refine z_aln (pc := 8) hC 1 rfl dX3_findOn_8 ?_
      refine z_get (pc := 9) hC fX3_28 1 rfl rfl dX3_findOn_9 ?_
      refine z_iln (pc := 12) hC 0 rfl dX3_findOn_12 ?_
      refine z_iald (pc := 13) hC 8 rfl dX3_findOn_13 m rfl (by omega) (by decide) ?_
      refine z_iln (pc := 14) hC 2 rfl dX3_findOn_14 ?_
      refine z_icne (pc := 15) hC 20 (by decide) dX3_findOn_15 (fun c15 => ?_) (fun c15 => ?_)
      · refine z_iinc (pc := 20) (v := nI (m + 1)) (j := 0) (lv' := [(2, .int (nI (m + 1))), (0, .ref (a 1)), (1, .int x)]) hC hm (by decide) rfl (up_step m) rfl dX3_findOn_20 ?_
        refine z_goto (pc := 23) hC 2 (by decide) dX3_findOn_23 ?_
        refine z_lv [0, 1, 2] rfl ?_
        exact ih (m + 1) (by omega) (all_s hp (by simp [c15]))
      · refine z_iln (pc := 18) hC 0 rfl dX3_findOn_18 ?_
        exact hE _ _ _ () _ _ _ dX3_findOn_19 rfl (fst_hit hp (by simp [c15]) (by omega)).symm rfl (Nat.le_refl _) (Nat.le_refl _)
  refine z_iconst (pc := 0) (v := nI 0) hC dX3_findOn_0 (by decide) ?_
  refine z_isn (pc := 1) (lv' := [(2, .int (nI 0)), (0, .ref (a 1)), (1, .int x)]) hC hm (by decide) rfl dX3_findOn_1 ?_
  refine z_lv [0, 1, 2] rfl ?_
  exact loop 12 0 rfl (fun j h => absurd h (Nat.not_lt_zero j))

set_option maxRecDepth 100000 in
set_option maxHeartbeats 4000000 in
theorem c_findOnShelf {g : zG} {a : Nat → Nat} {R : St} {x : Int32} : Gi g yX3_findOnShelf cX3_findOnShelf 3 .int 0 [.ref (a 1), .int x] (rW g.2 a R) (sFind R x) (rW g.2 a R) := by
  refine fi_entry (by decide) (Nat.le_of_ble_eq_true rfl) (fun C hC hm hE => ?_)
  have loop : ∀ k m : Nat, m + k = 12 → (∀ j, j < m → (fun r => onSh R r && decide (R 1 r = x)) j = false) → Z g C 0 0 (rW g.2 a R) [(2, .int (nI m)), (0, .ref (a 1)), (1, .int x)] 2 [] := by
    intro k
    induction k with
    | zero =>
      intro m hm2 hp
      refine z_iln (pc := 2) hC 0 rfl dX3_findOnShelf_2 ?_
      refine z_bipush (pc := 3) (v := nI 12) hC dX3_findOnShelf_3 (by decide) ?_
      refine z_icge (pc := 5) hC 36 (by decide) dX3_findOnShelf_5 (fun c5 => ?_) (fun c5 => absurd (nI_le (by omega) (by omega)) c5)
      refine z_iconst (pc := 36) (v := -1) hC dX3_findOnShelf_36 (by decide) ?_
      exact hE _ _ _ () _ _ _ dX3_findOnShelf_37 rfl (fst_miss (by rw [show (12 : Nat) = m by omega]; exact hp)).symm rfl (Nat.le_refl _) (Nat.le_refl _)
    | succ k ih =>
      intro m hm2 hp
      refine z_iln (pc := 2) hC 0 rfl dX3_findOnShelf_2 ?_
      refine z_bipush (pc := 3) (v := nI 12) hC dX3_findOnShelf_3 (by decide) ?_
      refine z_icge (pc := 5) hC 36 (by decide) dX3_findOnShelf_5 (fun c5 => absurd c5 (nI_ge (by omega) (by omega))) (fun c5 => ?_)
      refine z_aln (pc := 8) hC 1 rfl dX3_findOnShelf_8 ?_
      refine z_get (pc := 9) hC fX3_28 1 rfl rfl dX3_findOnShelf_9 ?_
      refine z_iln (pc := 12) hC 0 rfl dX3_findOnShelf_12 ?_
      refine z_iald (pc := 13) hC 8 rfl dX3_findOnShelf_13 m rfl (by omega) (by decide) ?_
      refine z_iconst (pc := 14) (v := -1) hC dX3_findOnShelf_14 (by decide) ?_
      refine z_icne (pc := 15) hC 30 (by decide) dX3_findOnShelf_15 (fun c15 => ?_) (fun c15 => ?_)
      · refine z_iinc (pc := 30) (v := nI (m + 1)) (j := 0) (lv' := [(2, .int (nI (m + 1))), (0, .ref (a 1)), (1, .int x)]) hC hm (by decide) rfl (up_step m) rfl dX3_findOnShelf_30 ?_
        refine z_goto (pc := 33) hC 2 (by decide) dX3_findOnShelf_33 ?_
        refine z_lv [0, 1, 2] rfl ?_
        exact ih (m + 1) (by omega) (all_s hp (by first | (simp [onSh, c15]; done) | (simp [c25]; done)))
      · refine z_aln (pc := 18) hC 1 rfl dX3_findOnShelf_18 ?_
        refine z_get (pc := 19) hC fX3_15 1 rfl rfl dX3_findOnShelf_19 ?_
        refine z_iln (pc := 22) hC 0 rfl dX3_findOnShelf_22 ?_
        refine z_iald (pc := 23) hC 4 rfl dX3_findOnShelf_23 m rfl (by omega) (by decide) ?_
        refine z_iln (pc := 24) hC 2 rfl dX3_findOnShelf_24 ?_
        refine z_icne (pc := 25) hC 30 (by decide) dX3_findOnShelf_25 (fun c25 => ?_) (fun c25 => ?_)
        · refine z_iinc (pc := 30) (v := nI (m + 1)) (j := 0) (lv' := [(2, .int (nI (m + 1))), (0, .ref (a 1)), (1, .int x)]) hC hm (by decide) rfl (up_step m) rfl dX3_findOnShelf_30 ?_
          refine z_goto (pc := 33) hC 2 (by decide) dX3_findOnShelf_33 ?_
          refine z_lv [0, 1, 2] rfl ?_
          exact ih (m + 1) (by omega) (all_s hp (by first | (simp [onSh, c15]; done) | (simp [c25]; done)))
        · refine z_iln (pc := 28) hC 0 rfl dX3_findOnShelf_28 ?_
          exact hE _ _ _ () _ _ _ dX3_findOnShelf_29 rfl (fst_hit hp (by simp [onSh, c15, c25]) (by omega)).symm rfl (Nat.le_refl _) (Nat.le_refl _)
  refine z_iconst (pc := 0) (v := nI 0) hC dX3_findOnShelf_0 (by decide) ?_
  refine z_isn (pc := 1) (lv' := [(2, .int (nI 0)), (0, .ref (a 1)), (1, .int x)]) hC hm (by decide) rfl dX3_findOnShelf_1 ?_
  refine z_lv [0, 1, 2] rfl ?_
  exact loop 12 0 rfl (fun j h => absurd h (Nat.not_lt_zero j))

set_option maxRecDepth 100000 in
set_option maxHeartbeats 4000000 in
theorem c_findEmptyDrive {g : zG} {a : Nat → Nat} {R : St} (hD : DI R) : Gi g yX3_findEmptyDrive cX3_findEmptyDrive 2 .int 1 [.ref (a 1)] (rW g.2 a R) (edr R) (rW g.2 a R) := by
  refine fi_entry (by decide) (Nat.le_of_ble_eq_true rfl) (fun C hC hm hE => ?_)
  have loop : ∀ k m : Nat, m + k = 3 → (∀ j, j < m → (fun d => decide (onDr R (nI d) = -1)) j = false) → Z g C 0 0 (rW g.2 a R) [(1, .int (nI m)), (0, .ref (a 1))] 2 [] := by
    intro k
    induction k with
    | zero =>
      intro m hm2 hp
      refine z_iln (pc := 2) hC 0 rfl dX3_findEmptyDrive_2 ?_
      refine z_iconst (pc := 3) (v := nI 3) hC dX3_findEmptyDrive_3 (by decide) ?_
      refine z_icge (pc := 4) hC 24 (by decide) dX3_findEmptyDrive_4 (fun c4 => ?_) (fun c4 => absurd (nI_le (by omega) (by omega)) c4)
      refine z_iconst (pc := 24) (v := -1) hC dX3_findEmptyDrive_24 (by decide) ?_
      exact hE _ _ _ () _ _ _ dX3_findEmptyDrive_25 rfl (fst_miss (by rw [show (3 : Nat) = m by omega]; exact hp)).symm rfl (Nat.le_refl _) (Nat.le_refl _)
    | succ k ih =>
      intro m hm2 hp
      refine z_iln (pc := 2) hC 0 rfl dX3_findEmptyDrive_2 ?_
      refine z_iconst (pc := 3) (v := nI 3) hC dX3_findEmptyDrive_3 (by decide) ?_
      refine z_icge (pc := 4) hC 24 (by decide) dX3_findEmptyDrive_4 (fun c4 => absurd c4 (nI_ge (by omega) (by omega))) (fun c4 => ?_)
      refine z_aln (pc := 7) hC 1 rfl dX3_findEmptyDrive_7 ?_
      refine z_iln (pc := 8) hC 0 rfl dX3_findEmptyDrive_8 ?_
      refine z_g (pc := 9) (rest := []) hC vX3_findOn lX3_41 dX3_findEmptyDrive_9 (c_findOn (x := nI m)) (fun w => w) isCtx_id rfl 1 3 rfl rfl rfl rfl rfl (by decide) (Nat.le_of_ble_eq_true rfl) ⟨Nat.le_refl _, Nat.le_refl _⟩ ?_
      refine z_is_ (y := onDr R (nI m)) (fst_lst hD (nI_ne (by omega))) ?_
      refine z_iconst (pc := 12) (v := -1) hC dX3_findEmptyDrive_12 (by decide) ?_
      refine z_icne (pc := 13) hC 18 (by decide) dX3_findEmptyDrive_13 (fun c13 => ?_) (fun c13 => ?_)
      · refine z_iinc (pc := 18) (v := nI (m + 1)) (j := 0) (lv' := [(1, .int (nI (m + 1))), (0, .ref (a 1))]) hC hm (by decide) rfl (up_step m) rfl dX3_findEmptyDrive_18 ?_
        refine z_goto (pc := 21) hC 2 (by decide) dX3_findEmptyDrive_21 ?_
        refine z_lv [0, 1] rfl ?_
        exact ih (m + 1) (by omega) (all_s hp (by simp [c13]))
      · refine z_iln (pc := 16) hC 0 rfl dX3_findEmptyDrive_16 ?_
        exact hE _ _ _ () _ _ _ dX3_findEmptyDrive_17 rfl (fst_hit hp (by simp [c13]) (by omega)).symm rfl (Nat.le_refl _) (Nat.le_refl _)
  refine z_iconst (pc := 0) (v := nI 0) hC dX3_findEmptyDrive_0 (by decide) ?_
  refine z_isn (pc := 1) (lv' := [(1, .int (nI 0)), (0, .ref (a 1))]) hC hm (by decide) rfl dX3_findEmptyDrive_1 ?_
  refine z_lv [0, 1] rfl ?_
  exact loop 3 0 rfl (fun j h => absurd h (Nat.not_lt_zero j))

set_option maxRecDepth 100000 in
set_option maxHeartbeats 4000000 in
theorem c_findNextOnShelf {g : zG} {a : Nat → Nat} {R : St} {x : Int32} : Gi g yX3_findNextOnShelf cX3_findNextOnShelf 4 .int 0 [.ref (a 1), .int x] (rW g.2 a R) (aft R x) (rW g.2 a R) := by
  refine fi_entry (by decide) (Nat.le_of_ble_eq_true rfl) (fun C hC hm hE => ?_)
  have loop : ∀ k m : Nat, m + k = 12 → (∀ j, j < m → (fun q => onSh R q && decide (x < nI q)) j = false) → Z g C 0 0 (rW g.2 a R) [(3, .int (nI m)), (2, .int (fst_ (onSh R) 0 m)), (0, .ref (a 1)), (1, .int x)] 4 [] := by
    intro k
    induction k with
    | zero =>
      intro m hm2 hp
      refine z_iln (pc := 4) hC 0 rfl dX3_findNextOnShelf_4 ?_
      refine z_bipush (pc := 5) (v := nI 12) hC dX3_findNextOnShelf_5 (by decide) ?_
      refine z_icge (pc := 7) hC 40 (by decide) dX3_findNextOnShelf_7 (fun c7 => ?_) (fun c7 => absurd (nI_le (by omega) (by omega)) c7)
      refine z_iln (pc := 40) hC 1 rfl dX3_findNextOnShelf_40 ?_
      exact hE _ _ _ () _ _ _ dX3_findNextOnShelf_41 rfl (by have e := fst_miss hp; rw [show m = 12 by omega] at *; simp [aft, e]) rfl (Nat.le_refl _) (Nat.le_refl _)
    | succ k ih =>
      intro m hm2 hp
      refine z_iln (pc := 4) hC 0 rfl dX3_findNextOnShelf_4 ?_
      refine z_bipush (pc := 5) (v := nI 12) hC dX3_findNextOnShelf_5 (by decide) ?_
      refine z_icge (pc := 7) hC 40 (by decide) dX3_findNextOnShelf_7 (fun c7 => absurd c7 (nI_ge (by omega) (by omega))) (fun c7 => ?_)
      refine z_aln (pc := 10) hC 2 rfl dX3_findNextOnShelf_10 ?_
      refine z_get (pc := 11) hC fX3_28 1 rfl rfl dX3_findNextOnShelf_11 ?_
      refine z_iln (pc := 14) hC 0 rfl dX3_findNextOnShelf_14 ?_
      refine z_iald (pc := 15) hC 8 rfl dX3_findNextOnShelf_15 m rfl (by omega) (by decide) ?_
      refine z_iconst (pc := 16) (v := -1) hC dX3_findNextOnShelf_16 (by decide) ?_
      refine z_icne (pc := 17) hC 34 (by decide) dX3_findNextOnShelf_17 (fun c17 => ?_) (fun c17 => ?_)
      · refine z_iinc (pc := 34) (v := nI (m + 1)) (j := 0) (lv' := [(3, .int (nI (m + 1))), (2, .int (fst_ (onSh R) 0 m)), (0, .ref (a 1)), (1, .int x)]) hC hm (by decide) rfl (up_step m) rfl dX3_findNextOnShelf_34 ?_
        refine z_goto (pc := 37) hC 4 (by decide) dX3_findNextOnShelf_37 ?_
        rw [show fst_ (onSh R) 0 m = fst_ (onSh R) 0 (m + 1) by rw [fst_ext _ _ _ (by omega)]; simp [onSh, c17]]
        refine z_lv [0, 1, 2, 3] rfl ?_
        exact ih (m + 1) (by omega) (all_s hp (by first | (simp [onSh, c17]; done) | (simp [Int32.not_lt.mpr c22]; done)))
      · refine z_iln (pc := 20) hC 0 rfl dX3_findNextOnShelf_20 ?_
        refine z_iln (pc := 21) hC 3 rfl dX3_findNextOnShelf_21 ?_
        refine z_icle (pc := 22) hC 27 (by decide) dX3_findNextOnShelf_22 (fun c22 => ?_) (fun c22 => ?_)
        · refine z_iln (pc := 27) hC 1 rfl dX3_findNextOnShelf_27 ?_
          refine z_iconst (pc := 28) (v := -1) hC dX3_findNextOnShelf_28 (by decide) ?_
          refine z_icne (pc := 29) hC 34 (by decide) dX3_findNextOnShelf_29 (fun c29 => ?_) (fun c29 => ?_)
          · refine z_iinc (pc := 34) (v := nI (m + 1)) (j := 0) (lv' := [(3, .int (nI (m + 1))), (2, .int (fst_ (onSh R) 0 m)), (0, .ref (a 1)), (1, .int x)]) hC hm (by decide) rfl (up_step m) rfl dX3_findNextOnShelf_34 ?_
            refine z_goto (pc := 37) hC 4 (by decide) dX3_findNextOnShelf_37 ?_
            rw [show fst_ (onSh R) 0 m = fst_ (onSh R) 0 (m + 1) by rw [fst_ext _ _ _ (by omega), if_neg c29]]
            refine z_lv [0, 1, 2, 3] rfl ?_
            exact ih (m + 1) (by omega) (all_s hp (by first | (simp [onSh, c17]; done) | (simp [Int32.not_lt.mpr c22]; done)))
          · refine z_iln (pc := 32) hC 0 rfl dX3_findNextOnShelf_32 ?_
            refine z_is_ (y := fst_ (onSh R) 0 (m + 1)) (by rw [fst_ext _ _ _ (by omega), if_pos c29, if_pos (by simp [onSh, c17]), Nat.zero_add]) ?_
            refine z_isn (pc := 33) (lv' := [(2, .int (fst_ (onSh R) 0 (m + 1))), (3, .int (nI m)), (0, .ref (a 1)), (1, .int x)]) hC hm (by decide) rfl dX3_findNextOnShelf_33 ?_
            refine z_iinc (pc := 34) (v := nI (m + 1)) (j := 1) (lv' := [(3, .int (nI (m + 1))), (2, .int (fst_ (onSh R) 0 (m + 1))), (0, .ref (a 1)), (1, .int x)]) hC hm (by decide) rfl (up_step m) rfl dX3_findNextOnShelf_34 ?_
            refine z_goto (pc := 37) hC 4 (by decide) dX3_findNextOnShelf_37 ?_
            refine z_lv [0, 1, 2, 3] rfl ?_
            exact ih (m + 1) (by omega) (all_s hp (by first | (simp [onSh, c17]; done) | (simp [Int32.not_lt.mpr c22]; done)))
        · refine z_iln (pc := 25) hC 0 rfl dX3_findNextOnShelf_25 ?_
          exact hE _ _ _ () _ _ _ dX3_findNextOnShelf_26 rfl (by have e := fst_hit hp (by simp [onSh, c17, Int32.not_le.mp c22]) (show m < 12 by omega); simp only [aft, e]; rw [if_neg (nI_ne (by omega))]) rfl (Nat.le_refl _) (Nat.le_refl _)
  refine z_iconst (pc := 0) (v := -1) hC dX3_findNextOnShelf_0 (by decide) ?_
  refine z_isn (pc := 1) (lv' := [(2, .int (-1)), (0, .ref (a 1)), (1, .int x)]) hC hm (by decide) rfl dX3_findNextOnShelf_1 ?_
  refine z_iconst (pc := 2) (v := nI 0) hC dX3_findNextOnShelf_2 (by decide) ?_
  refine z_isn (pc := 3) (lv' := [(3, .int (nI 0)), (2, .int (-1)), (0, .ref (a 1)), (1, .int x)]) hC hm (by decide) rfl dX3_findNextOnShelf_3 ?_
  refine z_lv [0, 1, 2, 3] rfl ?_
  exact loop 12 0 rfl (fun j h => absurd h (Nat.not_lt_zero j))

set_option maxRecDepth 100000 in
set_option maxHeartbeats 4000000 in
theorem c_has {g : zG} {a : Nat → Nat} {R : St} {x : Int32} : Gi g yX2_has cX2_has 2 .boolean 1 [.ref (a 2), .int x] (rW g.2 a R) (bI (isJob R x)) (rW g.2 a R) := by
  refine fi_entry (by decide) (Nat.le_of_ble_eq_true rfl) (fun C hC hm hE => ?_)
  refine z_iln (pc := 0) hC 1 rfl dX2_has_0 ?_
  refine z_iconst (pc := 1) (v := 0) hC dX2_has_1 (by decide) ?_
  refine z_aln (pc := 2) hC 0 rfl dX2_has_2 ?_
  refine z_get (pc := 3) hC fX2_36 2 rfl rfl dX2_has_3 ?_
  refine z_iconst (pc := 6) (v := 1) hC dX2_has_6 (by decide) ?_
  refine z_isub (pc := 7) (v := (R 14 10) - 1) hC rfl dX2_has_7 ?_
  refine z_gsN (pc := 8) (rest := []) hC sX5_isWithin nX2_46 dX2_has_8 (c_within (x := x) (y := 0) (z := R 14 10 - 1)) rfl rfl (by decide) (Nat.le_of_ble_eq_true rfl) ⟨Nat.le_refl _, Nat.le_refl _⟩ ?_
  exact hE _ _ _ () _ _ _ dX2_has_11 (bI_nar _) rfl rfl (Nat.le_refl _) (Nat.le_refl _)

set_option maxRecDepth 100000 in
set_option maxHeartbeats 4000000 in
theorem c_isFull {g : zG} {a : Nat → Nat} {R : St} {n : Nat} (hn : R 14 10 = nI n) (hn2 : n ≤ 12) : Gi g yX2_isFull cX2_isFull 1 .boolean 0 [.ref (a 2)] (rW g.2 a R) (bI (decide (12 ≤ n))) (rW g.2 a R) := by
  refine fi_entry (by decide) (Nat.le_of_ble_eq_true rfl) (fun C hC hm hE => ?_)
  refine z_aln (pc := 0) hC 0 rfl dX2_isFull_0 ?_
  refine z_get (pc := 1) hC fX2_36 2 rfl rfl dX2_isFull_1 ?_
  refine z_bipush (pc := 4) (v := nI 12) hC dX2_isFull_4 (by decide) ?_
  refine z_iclt (pc := 6) hC 13 (by decide) dX2_isFull_6 (fun c6 => ?_) (fun c6 => ?_)
  · have c6n : nI n < nI 12 := by rw [← hn]; exact c6
    refine z_iconst (pc := 13) (v := 0) hC dX2_isFull_13 (by decide) ?_
    exact hE _ _ _ () _ _ _ dX2_isFull_14 rfl (bI_f (by simp; exact (nI_ltI (by omega) (by omega)).mp c6n)) rfl (Nat.le_refl _) (Nat.le_refl _)
  · have c6n : nI 12 ≤ nI n := by rw [← hn]; exact Int32.not_lt.mp c6
    refine z_iconst (pc := 9) (v := 1) hC dX2_isFull_9 (by decide) ?_
    refine z_goto (pc := 10) hC 14 (by decide) dX2_isFull_10 ?_
    exact hE _ _ _ () _ _ _ dX2_isFull_14 rfl (bI_t (by simp; exact (nI_leI (by omega) (by omega)).mp c6n)) rfl (Nat.le_refl _) (Nat.le_refl _)

set_option maxRecDepth 100000 in
set_option maxHeartbeats 4000000 in
theorem c_countIn {g : zG} {a : Nat → Nat} {R : St} {n : Nat} (hn : R 14 10 = nI n) (hn2 : n ≤ 12) {x : Int32} : Gi g yX2_countIn cX2_countIn 4 .int 0 [.ref (a 2), .int x] (rW g.2 a R) (cntS R x 0 n 0) (rW g.2 a R) := by
  refine fi_entry (by decide) (Nat.le_of_ble_eq_true rfl) (fun C hC hm hE => ?_)
  have loop : ∀ (k m : Nat) (y : Int32), m + k = n → cntS R x m k y = cntS R x 0 n 0 → Z g C 0 0 (rW g.2 a R) [(3, .int (nI m)), (2, .int y), (0, .ref (a 2)), (1, .int x)] 4 [] := by
    intro k
    induction k with
    | zero =>
      intro m y hm2 hp
      refine z_iln (pc := 4) hC 0 rfl dX2_countIn_4 ?_
      refine z_aln (pc := 5) hC 2 rfl dX2_countIn_5 ?_
      refine z_get (pc := 6) hC fX2_36 2 rfl rfl dX2_countIn_6 ?_
      refine z_is_ (y := nI n) hn ?_
      refine z_icge (pc := 9) hC 31 (by decide) dX2_countIn_9 (fun c9 => ?_) (fun c9 => absurd (nI_le (by omega) (by omega)) c9)
      refine z_iln (pc := 31) hC 1 rfl dX2_countIn_31 ?_
      exact hE _ _ _ () _ _ _ dX2_countIn_32 rfl hp rfl (Nat.le_refl _) (Nat.le_refl _)
    | succ k ih =>
      intro m y hm2 hp
      refine z_iln (pc := 4) hC 0 rfl dX2_countIn_4 ?_
      refine z_aln (pc := 5) hC 2 rfl dX2_countIn_5 ?_
      refine z_get (pc := 6) hC fX2_36 2 rfl rfl dX2_countIn_6 ?_
      refine z_is_ (y := nI n) hn ?_
      refine z_icge (pc := 9) hC 31 (by decide) dX2_countIn_9 (fun c9 => absurd c9 (nI_ge (by omega) (by omega))) (fun c9 => ?_)
      refine z_aln (pc := 12) hC 2 rfl dX2_countIn_12 ?_
      refine z_get (pc := 13) hC fX2_24 2 rfl rfl dX2_countIn_13 ?_
      refine z_iln (pc := 16) hC 0 rfl dX2_countIn_16 ?_
      refine z_iald (pc := 17) hC 13 rfl dX2_countIn_17 m rfl (by omega) (by decide) ?_
      refine z_iln (pc := 18) hC 3 rfl dX2_countIn_18 ?_
      refine z_icne (pc := 19) hC 25 (by decide) dX2_countIn_19 (fun c19 => ?_) (fun c19 => ?_)
      · refine z_iinc (pc := 25) (v := nI (m + 1)) (j := 0) (lv' := [(3, .int (nI (m + 1))), (2, .int y), (0, .ref (a 2)), (1, .int x)]) hC hm (by decide) rfl (up_step m) rfl dX2_countIn_25 ?_
        refine z_goto (pc := 28) hC 4 (by decide) dX2_countIn_28 ?_
        refine z_lv [0, 1, 2, 3] rfl ?_
        exact ih (m + 1) _ (by omega) (by rw [← hp]; simp [cntS, c19])
      · refine z_iinc (pc := 22) (v := y + 1) (j := 1) (lv' := [(2, .int (y + 1)), (3, .int (nI m)), (0, .ref (a 2)), (1, .int x)]) hC hm (by decide) rfl (by rw [ofInt_1]) rfl dX2_countIn_22 ?_
        refine z_iinc (pc := 25) (v := nI (m + 1)) (j := 1) (lv' := [(3, .int (nI (m + 1))), (2, .int (y + 1)), (0, .ref (a 2)), (1, .int x)]) hC hm (by decide) rfl (up_step m) rfl dX2_countIn_25 ?_
        refine z_goto (pc := 28) hC 4 (by decide) dX2_countIn_28 ?_
        refine z_lv [0, 1, 2, 3] rfl ?_
        exact ih (m + 1) _ (by omega) (by rw [← hp]; simp [cntS, c19])
  refine z_iconst (pc := 0) (v := 0) hC dX2_countIn_0 (by decide) ?_
  refine z_isn (pc := 1) (lv' := [(2, .int 0), (0, .ref (a 2)), (1, .int x)]) hC hm (by decide) rfl dX2_countIn_1 ?_
  refine z_iconst (pc := 2) (v := nI 0) hC dX2_countIn_2 (by decide) ?_
  refine z_isn (pc := 3) (lv' := [(3, .int (nI 0)), (2, .int 0), (0, .ref (a 2)), (1, .int x)]) hC hm (by decide) rfl dX2_countIn_3 ?_
  refine z_lv [0, 1, 2, 3] rfl ?_
  exact loop n 0 0 (by omega) rfl

set_option maxRecDepth 100000 in
set_option maxHeartbeats 4000000 in
theorem c_wantedSticker {g : zG} {a : Nat → Nat} {R : St} {j : Nat} (hj : j < 12) : Gi g yX2_wantedSticker cX2_wantedSticker 2 .int 0 [.ref (a 2), .int (nI j)] (rW g.2 a R) (want R j) (rW g.2 a R) := by
  refine fi_entry (by decide) (Nat.le_of_ble_eq_true rfl) (fun C hC hm hE => ?_)
  refine z_aln (pc := 0) hC 0 rfl dX2_wantedSticker_0 ?_
  refine z_get (pc := 1) hC fX2_9 2 rfl rfl dX2_wantedSticker_1 ?_
  refine z_iln (pc := 4) hC 1 rfl dX2_wantedSticker_4 ?_
  refine z_iald (pc := 5) hC 9 rfl dX2_wantedSticker_5 j rfl (by omega) (by decide) ?_
  refine z_iconst (pc := 6) (v := 2) hC dX2_wantedSticker_6 (by decide) ?_
  refine z_icne (pc := 7) hC 14 (by decide) dX2_wantedSticker_7 (fun c7 => ?_) (fun c7 => ?_)
  · refine z_aln (pc := 14) hC 0 rfl dX2_wantedSticker_14 ?_
    refine z_get (pc := 15) hC fX2_15 2 rfl rfl dX2_wantedSticker_15 ?_
    refine z_iln (pc := 18) hC 1 rfl dX2_wantedSticker_18 ?_
    refine z_iald (pc := 19) hC 10 rfl dX2_wantedSticker_19 j rfl (by omega) (by decide) ?_
    exact hE _ _ _ () _ _ _ dX2_wantedSticker_20 rfl (by simp [want, c7]) rfl (Nat.le_refl _) (Nat.le_refl _)
  · refine z_iconst (pc := 10) (v := 0) hC dX2_wantedSticker_10 (by decide) ?_
    refine z_goto (pc := 11) hC 20 (by decide) dX2_wantedSticker_11 ?_
    exact hE _ _ _ () _ _ _ dX2_wantedSticker_20 rfl (by simp [want, c7]) rfl (Nat.le_refl _) (Nat.le_refl _)

set_option maxRecDepth 100000 in
set_option maxHeartbeats 4000000 in
theorem c_hasWaitingCreate {g : zG} {a : Nat → Nat} {R : St} {n : Nat} (hn : R 14 10 = nI n) (hn2 : n ≤ 12) {v : Int32} : Gi g yX2_hasWaitingCreate cX2_hasWaitingCreate 3 .boolean 0 [.ref (a 2), .int v] (rW g.2 a R) (bI (keptB R v n)) (rW g.2 a R) := by
  refine fi_entry (by decide) (Nat.le_of_ble_eq_true rfl) (fun C hC hm hE => ?_)
  have loop : ∀ k m : Nat, m + k = n → (∀ j, j < m → (decide (R 6 j = 2) && (decide (R 7 j = v) && decide (R 10 j = 0))) = false) → Z g C 0 0 (rW g.2 a R) [(2, .int (nI m)), (0, .ref (a 2)), (1, .int v)] 2 [] := by
    intro k
    induction k with
    | zero =>
      intro m hm2 hp
      refine z_iln (pc := 2) hC 0 rfl dX2_hasWaitingCreate_2 ?_
      refine z_aln (pc := 3) hC 1 rfl dX2_hasWaitingCreate_3 ?_
      refine z_get (pc := 4) hC fX2_36 2 rfl rfl dX2_hasWaitingCreate_4 ?_
      refine z_is_ (y := nI n) hn ?_
      refine z_icge (pc := 7) hC 47 (by decide) dX2_hasWaitingCreate_7 (fun c7 => ?_) (fun c7 => absurd (nI_le (by omega) (by omega)) c7)
      refine z_iconst (pc := 47) (v := 0) hC dX2_hasWaitingCreate_47 (by decide) ?_
      exact hE _ _ _ () _ _ _ dX2_hasWaitingCreate_48 rfl (bI_f (keptB_f (by rw [show n = m by omega]; exact hp))) rfl (Nat.le_refl _) (Nat.le_refl _)
    | succ k ih =>
      intro m hm2 hp
      refine z_iln (pc := 2) hC 0 rfl dX2_hasWaitingCreate_2 ?_
      refine z_aln (pc := 3) hC 1 rfl dX2_hasWaitingCreate_3 ?_
      refine z_get (pc := 4) hC fX2_36 2 rfl rfl dX2_hasWaitingCreate_4 ?_
      refine z_is_ (y := nI n) hn ?_
      refine z_icge (pc := 7) hC 47 (by decide) dX2_hasWaitingCreate_7 (fun c7 => absurd c7 (nI_ge (by omega) (by omega))) (fun c7 => ?_)
      refine z_aln (pc := 10) hC 1 rfl dX2_hasWaitingCreate_10 ?_
      refine z_get (pc := 11) hC fX2_24 2 rfl rfl dX2_hasWaitingCreate_11 ?_
      refine z_iln (pc := 14) hC 0 rfl dX2_hasWaitingCreate_14 ?_
      refine z_iald (pc := 15) hC 13 rfl dX2_hasWaitingCreate_15 m rfl (by omega) (by decide) ?_
      refine z_ifne (pc := 16) hC 41 (by decide) dX2_hasWaitingCreate_16 (fun c16 => ?_) (fun c16 => ?_)
      · refine z_iinc (pc := 41) (v := nI (m + 1)) (j := 0) (lv' := [(2, .int (nI (m + 1))), (0, .ref (a 2)), (1, .int v)]) hC hm (by decide) rfl (up_step m) rfl dX2_hasWaitingCreate_41 ?_
        refine z_goto (pc := 44) hC 2 (by decide) dX2_hasWaitingCreate_44 ?_
        refine z_lv [0, 1, 2] rfl ?_
        exact ih (m + 1) (by omega) (all_s (p := fun j => (decide (R 6 j = 2) && (decide (R 7 j = v) && decide (R 10 j = 0)))) hp (by first | (simp [c16]; done) | (simp [c26]; done) | (simp [c36]; done)))
      · refine z_aln (pc := 19) hC 1 rfl dX2_hasWaitingCreate_19 ?_
        refine z_get (pc := 20) hC fX2_9 2 rfl rfl dX2_hasWaitingCreate_20 ?_
        refine z_iln (pc := 23) hC 0 rfl dX2_hasWaitingCreate_23 ?_
        refine z_iald (pc := 24) hC 9 rfl dX2_hasWaitingCreate_24 m rfl (by omega) (by decide) ?_
        refine z_iconst (pc := 25) (v := 2) hC dX2_hasWaitingCreate_25 (by decide) ?_
        refine z_icne (pc := 26) hC 41 (by decide) dX2_hasWaitingCreate_26 (fun c26 => ?_) (fun c26 => ?_)
        · refine z_iinc (pc := 41) (v := nI (m + 1)) (j := 0) (lv' := [(2, .int (nI (m + 1))), (0, .ref (a 2)), (1, .int v)]) hC hm (by decide) rfl (up_step m) rfl dX2_hasWaitingCreate_41 ?_
          refine z_goto (pc := 44) hC 2 (by decide) dX2_hasWaitingCreate_44 ?_
          refine z_lv [0, 1, 2] rfl ?_
          exact ih (m + 1) (by omega) (all_s (p := fun j => (decide (R 6 j = 2) && (decide (R 7 j = v) && decide (R 10 j = 0)))) hp (by first | (simp [c16]; done) | (simp [c26]; done) | (simp [c36]; done)))
        · refine z_aln (pc := 29) hC 1 rfl dX2_hasWaitingCreate_29 ?_
          refine z_get (pc := 30) hC fX2_15 2 rfl rfl dX2_hasWaitingCreate_30 ?_
          refine z_iln (pc := 33) hC 0 rfl dX2_hasWaitingCreate_33 ?_
          refine z_iald (pc := 34) hC 10 rfl dX2_hasWaitingCreate_34 m rfl (by omega) (by decide) ?_
          refine z_iln (pc := 35) hC 2 rfl dX2_hasWaitingCreate_35 ?_
          refine z_icne (pc := 36) hC 41 (by decide) dX2_hasWaitingCreate_36 (fun c36 => ?_) (fun c36 => ?_)
          · refine z_iinc (pc := 41) (v := nI (m + 1)) (j := 0) (lv' := [(2, .int (nI (m + 1))), (0, .ref (a 2)), (1, .int v)]) hC hm (by decide) rfl (up_step m) rfl dX2_hasWaitingCreate_41 ?_
            refine z_goto (pc := 44) hC 2 (by decide) dX2_hasWaitingCreate_44 ?_
            refine z_lv [0, 1, 2] rfl ?_
            exact ih (m + 1) (by omega) (all_s (p := fun j => (decide (R 6 j = 2) && (decide (R 7 j = v) && decide (R 10 j = 0)))) hp (by first | (simp [c16]; done) | (simp [c26]; done) | (simp [c36]; done)))
          · refine z_iconst (pc := 39) (v := 1) hC dX2_hasWaitingCreate_39 (by decide) ?_
            exact hE _ _ _ () _ _ _ dX2_hasWaitingCreate_40 rfl (bI_t (keptB_t (m := m) (by simp [c16, c26, c36]) (by omega))) rfl (Nat.le_refl _) (Nat.le_refl _)
  refine z_iconst (pc := 0) (v := nI 0) hC dX2_hasWaitingCreate_0 (by decide) ?_
  refine z_isn (pc := 1) (lv' := [(2, .int (nI 0)), (0, .ref (a 2)), (1, .int v)]) hC hm (by decide) rfl dX2_hasWaitingCreate_1 ?_
  refine z_lv [0, 1, 2] rfl ?_
  exact loop n 0 (by omega) (fun j h => absurd h (Nat.not_lt_zero j))
