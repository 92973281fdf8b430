set_option maxRecDepth 100000 in
set_option maxHeartbeats 4000000 in
theorem m_kindOf {g : zG} {x : Nat} (hx : x < 1000) : Gi g yX6_kindOf cX6_kindOf 1 .int 0 [.int (nI x)] ([]) (kd x) ([]) := by
  refine fi_entry (by decide) (Nat.le_of_ble_eq_true rfl) (fun C hC hm hE => ?_)
  refine z_iln (pc := 0) hC 0 rfl dX6_kindOf_0 ?_
  refine z_bipush (pc := 1) (v := 114) hC dX6_kindOf_1 (by decide) ?_
  refine z_icne (pc := 3) hC 10 (by decide) dX6_kindOf_3 (fun c3 => ?_) (fun c3 => ?_)
  · have h : ¬ x = 114 := fun e => c3 (by rw [e]; rfl)
    refine z_iln (pc := 10) hC 0 rfl dX6_kindOf_10 ?_
    refine z_bipush (pc := 11) (v := 119) hC dX6_kindOf_11 (by decide) ?_
    refine z_icne (pc := 13) hC 20 (by decide) dX6_kindOf_13 (fun c13 => ?_) (fun c13 => ?_)
    · have h2 : ¬ x = 119 := fun e => c13 (by rw [e]; rfl)
      refine z_iconst (pc := 20) (v := 2) hC dX6_kindOf_20 (by decide) ?_
      exact hE _ _ _ () _ _ _ dX6_kindOf_21 rfl (by simp [kd, h, h2]) rfl (Nat.le_refl _) (Nat.le_refl _)
    · have h2 : x = 119 := nI_inj (by omega) (by omega) c13
      refine z_iconst (pc := 16) (v := 1) hC dX6_kindOf_16 (by decide) ?_
      refine z_goto (pc := 17) hC 21 (by decide) dX6_kindOf_17 ?_
      exact hE _ _ _ () _ _ _ dX6_kindOf_21 rfl (by simp [kd, h2]) rfl (Nat.le_refl _) (Nat.le_refl _)
  · have h : x = 114 := nI_inj (by omega) (by omega) c3
    refine z_iconst (pc := 6) (v := 0) hC dX6_kindOf_6 (by decide) ?_
    refine z_goto (pc := 7) hC 21 (by decide) dX6_kindOf_7 ?_
    exact hE _ _ _ () _ _ _ dX6_kindOf_21 rfl (by simp [kd, h]) rfl (Nat.le_refl _) (Nat.le_refl _)

set_option maxRecDepth 100000 in
set_option maxHeartbeats 4000000 in
theorem m_isCarriedOut {g : zG} {b : Nat → Nat} {R : St} {F : Nat → Nat → Int32} {V : Nat → Int32} {k : Nat} {c : Cmd} (hG : GR R) (hk : k < 48) (hA : cmdAt F k c) (hc : cOK c) : Gi g yX6_isCarriedOut cX6_isCarriedOut 4 .boolean 6 [.ref (b 0), .int (nI k)] (mW g.2 b R F V) (bI (exC c R).isSome) (mW g.2 b ((exC c R).getD R) F V) := by
  refine fi_entry (by decide) (Nat.le_of_ble_eq_true rfl) (fun C hC hm hE => ?_)
  refine z_aln (pc := 0) hC 0 rfl dX6_isCarriedOut_0 ?_
  refine z_get (pc := 1) hC fX6_22 0 rfl rfl dX6_isCarriedOut_1 ?_
  refine z_iln (pc := 4) hC 1 rfl dX6_isCarriedOut_4 ?_
  rcases hc with he | he | ⟨he, hv⟩
  · refine z_iald (pc := 5) hC 5 rfl dX6_isCarriedOut_5 k rfl (by omega) (by decide) ?_
    refine z_is_ (y := 116) (by rw [hA.1, he.1]; rfl) ?_
    refine z_bipush (pc := 6) (v := 116) hC dX6_isCarriedOut_6 (by decide) ?_
    refine z_icne (pc := 8) hC 24 (by decide) dX6_isCarriedOut_8 (fun c8 => absurd c8 (by decide)) (fun c8 => ?_)
    refine z_aln (pc := 11) hC 0 rfl dX6_isCarriedOut_11 ?_
    refine z_aln (pc := 12) hC 0 rfl dX6_isCarriedOut_12 ?_
    refine z_get (pc := 13) hC fX6_25 0 rfl rfl dX6_isCarriedOut_13 ?_
    refine z_iln (pc := 16) hC 1 rfl dX6_isCarriedOut_16 ?_
    refine z_iald (pc := 17) hC 6 rfl dX6_isCarriedOut_17 k rfl (by omega) (by decide) ?_
    refine z_is_ (y := nI c.2.1) (hA.2.1 (by rw [he.1]; decide)) ?_
    refine z_g (pc := 18) (rest := []) hC vX6_passNow lX6_133 dX6_isCarriedOut_18 (m_passNow hG.1 (by omega)) (fun w => w) isCtx_id rfl 0 6 rfl rfl rfl rfl rfl (by decide) (Nat.le_of_ble_eq_true rfl) ⟨Nat.le_refl _, Nat.le_refl _⟩ ?_
    refine z_isn (pc := 21) (lv' := [(2, .int ((pas (nn R) c.2.1 (R, 0)).2)), (0, .ref (b 0)), (1, .int (nI k))]) hC hm (by decide) rfl dX6_isCarriedOut_21 ?_
    refine z_iconst (pc := 22) (v := 1) hC dX6_isCarriedOut_22 (by decide) ?_
    exact hE _ _ _ () _ _ _ dX6_isCarriedOut_23 rfl (by simp [exC, he.1, bI]) (by simp [exC, he.1]) (Nat.le_refl _) (Nat.le_refl _)
  · refine z_iald (pc := 5) hC 5 rfl dX6_isCarriedOut_5 k rfl (by omega) (by decide) ?_
    refine z_is_ (y := 100) (by rw [hA.1, he]; rfl) ?_
    refine z_bipush (pc := 6) (v := 116) hC dX6_isCarriedOut_6 (by decide) ?_
    refine z_icne (pc := 8) hC 24 (by decide) dX6_isCarriedOut_8 (fun c8 => ?_) (fun c8 => absurd c8 (by decide))
    refine z_aln (pc := 24) hC 0 rfl dX6_isCarriedOut_24 ?_
    refine z_get (pc := 25) hC fX6_22 0 rfl rfl dX6_isCarriedOut_25 ?_
    refine z_iln (pc := 28) hC 1 rfl dX6_isCarriedOut_28 ?_
    refine z_iald (pc := 29) hC 5 rfl dX6_isCarriedOut_29 k rfl (by omega) (by decide) ?_
    refine z_is_ (y := 100) (by rw [hA.1, he]; rfl) ?_
    refine z_bipush (pc := 30) (v := 100) hC dX6_isCarriedOut_30 (by decide) ?_
    refine z_icne (pc := 32) hC 73 (by decide) dX6_isCarriedOut_32 (fun c32 => absurd c32 (by decide)) (fun c32 => ?_)
    refine z_aln (pc := 35) hC 0 rfl dX6_isCarriedOut_35 ?_
    refine z_get (pc := 36) hC fX6_7 0 rfl rfl dX6_isCarriedOut_36 ?_
    refine z_iconst (pc := 39) (v := nI 0) hC dX6_isCarriedOut_39 (by decide) ?_
    refine z_iald (pc := 40) hC 1 rfl dX6_isCarriedOut_40 0 rfl (by omega) (by decide) ?_
    refine z_is_ (y := R 14 0) (flat_num R (by decide)) ?_
    refine z_sipush (pc := 41) (v := 999) hC dX6_isCarriedOut_41 (by decide) ?_
    refine z_icge (pc := 44) hC 51 (by decide) dX6_isCarriedOut_44 (fun c44 => ?_) (fun c44 => ?_)
    · have hd : ¬ R 14 0 < 999 := Int32.not_lt.mpr c44
      have he1 : c.1 = 100 := by rw [he]
      refine z_iconst (pc := 51) (v := 0) hC dX6_isCarriedOut_51 (by decide) ?_
      refine z_isn (pc := 52) (lv' := [(2, .int 0), (0, .ref (b 0)), (1, .int (nI k))]) hC hm (by decide) rfl dX6_isCarriedOut_52 ?_
      refine z_aln (pc := 53) hC 1 rfl dX6_isCarriedOut_53 ?_
      refine z_get (pc := 54) hC fX6_7 0 rfl rfl dX6_isCarriedOut_54 ?_
      refine z_iconst (pc := 57) (v := nI 0) hC dX6_isCarriedOut_57 (by decide) ?_
      refine z_dup2 (pc := 58) hC rfl rfl dX6_isCarriedOut_58 ?_
      refine z_iald (pc := 59) hC 1 rfl dX6_isCarriedOut_59 0 rfl (by omega) (by decide) ?_
      refine z_is_ (y := R 14 0) (flat_num R (by decide)) ?_
      refine z_iln (pc := 60) hC 0 rfl dX6_isCarriedOut_60 ?_
      refine z_ifeq (pc := 61) hC 68 (by decide) dX6_isCarriedOut_61 (fun c61 => ?_) (fun c61 => absurd c61 (by decide))
      refine z_iconst (pc := 68) (v := 0) hC dX6_isCarriedOut_68 (by decide) ?_
      refine z_iadd (pc := 69) (v := R 14 0) hC (Int32.add_zero _) dX6_isCarriedOut_69 ?_
      refine z_iast (pc := 70) (ws' := mW g.2 b R F V) hC 1 rfl dX6_isCarriedOut_70 0 rfl (by omega) (by decide) ((mW_n (by decide)).trans (by rw [setS_self rfl])) ?_
      refine z_iln (pc := 71) hC 0 rfl dX6_isCarriedOut_71 ?_
      exact hE _ _ _ () _ _ _ dX6_isCarriedOut_72 rfl (by simp [exC, he1, hd, bI]) (by simp [exC, he1, hd]) (Nat.le_refl _) (Nat.le_refl _)
    · have hd : R 14 0 < 999 := Int32.not_le.mp c44
      have he1 : c.1 = 100 := by rw [he]
      refine z_iconst (pc := 47) (v := 1) hC dX6_isCarriedOut_47 (by decide) ?_
      refine z_goto (pc := 48) hC 52 (by decide) dX6_isCarriedOut_48 ?_
      refine z_isn (pc := 52) (lv' := [(2, .int 1), (0, .ref (b 0)), (1, .int (nI k))]) hC hm (by decide) rfl dX6_isCarriedOut_52 ?_
      refine z_aln (pc := 53) hC 1 rfl dX6_isCarriedOut_53 ?_
      refine z_get (pc := 54) hC fX6_7 0 rfl rfl dX6_isCarriedOut_54 ?_
      refine z_iconst (pc := 57) (v := nI 0) hC dX6_isCarriedOut_57 (by decide) ?_
      refine z_dup2 (pc := 58) hC rfl rfl dX6_isCarriedOut_58 ?_
      refine z_iald (pc := 59) hC 1 rfl dX6_isCarriedOut_59 0 rfl (by omega) (by decide) ?_
      refine z_is_ (y := R 14 0) (flat_num R (by decide)) ?_
      refine z_iln (pc := 60) hC 0 rfl dX6_isCarriedOut_60 ?_
      refine z_ifeq (pc := 61) hC 68 (by decide) dX6_isCarriedOut_61 (fun c61 => absurd c61 (by decide)) (fun c61 => ?_)
      refine z_iconst (pc := 64) (v := 1) hC dX6_isCarriedOut_64 (by decide) ?_
      refine z_goto (pc := 65) hC 69 (by decide) dX6_isCarriedOut_65 ?_
      refine z_iadd (pc := 69) (v := (R 14 0) + 1) hC rfl dX6_isCarriedOut_69 ?_
      refine z_iast (pc := 70) (ws' := mW g.2 b (setS R 14 0 ((R 14 0) + 1)) F V) hC 1 rfl dX6_isCarriedOut_70 0 rfl (by omega) (by decide) (mW_n (by decide)) ?_
      refine z_iln (pc := 71) hC 0 rfl dX6_isCarriedOut_71 ?_
      exact hE _ _ _ () _ _ _ dX6_isCarriedOut_72 rfl (by simp [exC, he1, hd, bI]) (by simp [exC, he1, hd]) (Nat.le_refl _) (Nat.le_refl _)
  · have n116 : ¬ nI c.1 = 116 := by rcases he with h | h | h <;> rw [h] <;> decide
    have n100 : ¬ nI c.1 = 100 := by rcases he with h | h | h <;> rw [h] <;> decide
    have k116 : ¬ c.1 = 116 := by omega
    have k100 : ¬ c.1 = 100 := by omega
    have hj : isJ c.1 = true := by simp [isJ]; omega
    refine z_iald (pc := 5) hC 5 rfl dX6_isCarriedOut_5 k rfl (by omega) (by decide) ?_
    refine z_is_ (y := nI c.1) hA.1 ?_
    refine z_bipush (pc := 6) (v := 116) hC dX6_isCarriedOut_6 (by decide) ?_
    refine z_icne (pc := 8) hC 24 (by decide) dX6_isCarriedOut_8 (fun c8 => ?_) (fun c8 => absurd c8 n116)
    refine z_aln (pc := 24) hC 0 rfl dX6_isCarriedOut_24 ?_
    refine z_get (pc := 25) hC fX6_22 0 rfl rfl dX6_isCarriedOut_25 ?_
    refine z_iln (pc := 28) hC 1 rfl dX6_isCarriedOut_28 ?_
    refine z_iald (pc := 29) hC 5 rfl dX6_isCarriedOut_29 k rfl (by omega) (by decide) ?_
    refine z_is_ (y := nI c.1) hA.1 ?_
    refine z_bipush (pc := 30) (v := 100) hC dX6_isCarriedOut_30 (by decide) ?_
    refine z_icne (pc := 32) hC 73 (by decide) dX6_isCarriedOut_32 (fun c32 => ?_) (fun c32 => absurd c32 n100)
    refine z_aln (pc := 73) hC 0 rfl dX6_isCarriedOut_73 ?_
    refine z_aln (pc := 74) hC 0 rfl dX6_isCarriedOut_74 ?_
    refine z_get (pc := 75) hC fX6_22 0 rfl rfl dX6_isCarriedOut_75 ?_
    refine z_iln (pc := 78) hC 1 rfl dX6_isCarriedOut_78 ?_
    refine z_iald (pc := 79) hC 5 rfl dX6_isCarriedOut_79 k rfl (by omega) (by decide) ?_
    refine z_is_ (y := nI c.1) hA.1 ?_
    refine z_gs (pc := 80) (rest := [.ref (b 0)]) hC sX6_kindOf lX6_170 dX6_isCarriedOut_80 (m_kindOf (by omega)) rfl rfl (by decide) (Nat.le_of_ble_eq_true rfl) ⟨Nat.le_refl _, Nat.le_refl _⟩ ?_
    refine z_aln (pc := 83) hC 0 rfl dX6_isCarriedOut_83 ?_
    refine z_get (pc := 84) hC fX6_25 0 rfl rfl dX6_isCarriedOut_84 ?_
    refine z_iln (pc := 87) hC 1 rfl dX6_isCarriedOut_87 ?_
    refine z_iald (pc := 88) hC 6 rfl dX6_isCarriedOut_88 k rfl (by omega) (by decide) ?_
    refine z_is_ (y := nI c.2.1) (hA.2.1 k100) ?_
    refine z_g (pc := 89) (rest := []) hC vX6_canSubmit lX6_116 dX6_isCarriedOut_89 (m_canSubmit hG.num hG.n12) (fun w => w) isCtx_id rfl 0 6 rfl rfl rfl rfl rfl (by decide) (Nat.le_of_ble_eq_true rfl) ⟨Nat.le_refl _, Nat.le_refl _⟩ ?_
    refine z_isn (pc := 92) (lv' := [(2, .int (bI (canS R (nn R) (kd c.1) (nI c.2.1)))), (0, .ref (b 0)), (1, .int (nI k))]) hC hm (by decide) rfl dX6_isCarriedOut_92 ?_
    refine z_iln (pc := 93) hC 0 rfl dX6_isCarriedOut_93 ?_
    refine z_ifeq (pc := 94) hC 129 (by decide) dX6_isCarriedOut_94 (fun c94 => ?_) (fun c94 => ?_)
    · have h2 : canS R (nn R) (kd c.1) (nI c.2.1) = false := bI_0.mp c94
      refine z_iln (pc := 129) hC 0 rfl dX6_isCarriedOut_129 ?_
      exact hE _ _ _ () _ _ _ dX6_isCarriedOut_130 (bI_nar _) (by simp [exC, k116, k100, h2]) (by simp [exC, k116, k100, h2]) (Nat.le_refl _) (Nat.le_refl _)
    · have h2 : canS R (nn R) (kd c.1) (nI c.2.1) = true := bI_n.mp c94
      refine z_aln (pc := 97) hC 1 rfl dX6_isCarriedOut_97 ?_
      refine z_aln (pc := 98) hC 1 rfl dX6_isCarriedOut_98 ?_
      refine z_get (pc := 99) hC fX6_22 0 rfl rfl dX6_isCarriedOut_99 ?_
      refine z_iln (pc := 102) hC 2 rfl dX6_isCarriedOut_102 ?_
      refine z_iald (pc := 103) hC 5 rfl dX6_isCarriedOut_103 k rfl (by omega) (by decide) ?_
      refine z_is_ (y := nI c.1) hA.1 ?_
      refine z_gs (pc := 104) (rest := [.ref (b 0)]) hC sX6_kindOf lX6_170 dX6_isCarriedOut_104 (m_kindOf (by omega)) rfl rfl (by decide) (Nat.le_of_ble_eq_true rfl) ⟨Nat.le_refl _, Nat.le_refl _⟩ ?_
      refine z_aln (pc := 107) hC 1 rfl dX6_isCarriedOut_107 ?_
      refine z_get (pc := 108) hC fX6_25 0 rfl rfl dX6_isCarriedOut_108 ?_
      refine z_iln (pc := 111) hC 2 rfl dX6_isCarriedOut_111 ?_
      refine z_iald (pc := 112) hC 6 rfl dX6_isCarriedOut_112 k rfl (by omega) (by decide) ?_
      refine z_is_ (y := nI c.2.1) (hA.2.1 k100) ?_
      refine z_aln (pc := 113) hC 1 rfl dX6_isCarriedOut_113 ?_
      refine z_get (pc := 114) hC fX6_28 0 rfl rfl dX6_isCarriedOut_114 ?_
      refine z_iln (pc := 117) hC 2 rfl dX6_isCarriedOut_117 ?_
      refine z_iald (pc := 118) hC 7 rfl dX6_isCarriedOut_118 k rfl (by omega) (by decide) ?_
      refine z_is_ (y := nI c.2.2.1) ((hA.2.2 hj).1) ?_
      refine z_aln (pc := 119) hC 1 rfl dX6_isCarriedOut_119 ?_
      refine z_get (pc := 120) hC fX6_31 0 rfl rfl dX6_isCarriedOut_120 ?_
      refine z_iln (pc := 123) hC 2 rfl dX6_isCarriedOut_123 ?_
      refine z_iald (pc := 124) hC 8 rfl dX6_isCarriedOut_124 k rfl (by omega) (by decide) ?_
      refine z_is_ (y := nI c.2.2.2) ((hA.2.2 hj).2) ?_
      refine z_g (pc := 125) (rest := []) hC vX6_submitNow lX6_123 dX6_isCarriedOut_125 (m_submitNow hG.num (canS_n h2)) (fun w => w) isCtx_id rfl 0 6 rfl rfl rfl rfl rfl (by decide) (Nat.le_of_ble_eq_true rfl) ⟨Nat.le_refl _, Nat.le_refl _⟩ ?_
      refine z_isn (pc := 128) (lv' := [(3, .int (nI (nn R))), (2, .int (bI (canS R (nn R) (kd c.1) (nI c.2.1)))), (0, .ref (b 0)), (1, .int (nI k))]) hC hm (by decide) rfl dX6_isCarriedOut_128 ?_
      refine z_iln (pc := 129) hC 1 rfl dX6_isCarriedOut_129 ?_
      exact hE _ _ _ () _ _ _ dX6_isCarriedOut_130 (bI_nar _) (by simp [exC, k116, k100, h2]) (by simp [exC, k116, k100, h2]) (Nat.le_refl _) (Nat.le_refl _)

set_option maxRecDepth 100000 in
set_option maxHeartbeats 4000000 in
theorem m_runText {g : zG} {b : Nat → Nat} {R : St} {F : Nat → Nat → Int32} {V : Nat → Int32} {H : Nat → St} {s : Nat} {t : Nat → Nat} {L : Nat} (hG : GR R) (hM : mR F V H s t L) : FI (S := (Nat → Nat → Int32) × (Nat → Int32)) g yX6_runText cX6_runText 2 .int 7 0 0 [.ref (b 0)] (mW g.2 b R F V) (mP (cRun t L) (nI (runC ((prs t L 80 0).1) R 0).2) (pushH H s R) (pushN s) H s t L) (fun S => mW g.2 b (if cRun t L = 0 then (runC ((prs t L 80 0).1) R 0).1 else R) S.1 S.2) := by
  refine fi_entry (by decide) (Nat.le_of_ble_eq_true rfl) (fun C hC hm hE => ?_)
  refine z_aln (pc := 0) hC 0 rfl dX6_runText_0 ?_
  refine z_iconst (pc := 1) (v := 0) hC dX6_runText_1 (by decide) ?_
  refine z_put (pc := 2) (ws' := mW g.2 b R F (upd V 1 0)) hC fX6_38 p6_4 0 rfl (Nat.le_of_ble_eq_true rfl) (mW_V 4 1 (by decide)) dX6_runText_2 ?_
  refine z_aln (pc := 5) hC 0 rfl dX6_runText_5 ?_
  refine z_i0 (pc := 6) (rest := []) hC vX6_isValid lX6_167 dX6_runText_6 (m_isValid (V := upd V 1 0) hM.2.2.2.2.2 hM.2.2.2.2.1 (by simp [upd]; exact hM.2.2.2.1)) rfl 0 6 rfl rfl rfl rfl rfl (by decide) (Nat.le_of_ble_eq_true rfl) ⟨Nat.le_refl _, Nat.le_refl _⟩ (fun r S hq => ?_)
  obtain ⟨rfl, q1, q2, q3, q4, q5, q6⟩ := hq
  have k0 : S.2 0 = V 0 := q1.1
  have k1 : S.2 1 = 0 := q1.2.1
  have k2 : S.2 2 = V 2 := q1.2.2
  have hM2 : mR S.1 S.2 H s t L := mR_keep hM k0 k2 q2.1 q2.2.2
  refine z_ifne (pc := 9) hC 18 (by decide) dX6_runText_9 (fun c9 => ?_) (fun c9 => ?_)
  · have hcd : cRun t L = 0 := by simpa [cRun] using bI_n.mp c9
    refine z_aln (pc := 18) hC 0 rfl dX6_runText_18 ?_
    refine z_v0 (pc := 19) (rest := []) hC vX6_save lX6_120 dX6_runText_19 (m_save (F := S.1) (V := S.2) hM2.1 hM2.2.1 hM2.2.2.1) rfl 0 6 rfl rfl rfl rfl rfl (by decide) (Nat.le_of_ble_eq_true rfl) ⟨Nat.le_refl _, Nat.le_refl _⟩ (fun f hf => ?_)
    refine z_iconst (pc := 22) (v := nI 0) hC dX6_runText_22 (by decide) ?_
    refine z_isn (pc := 23) (lv' := [(1, .int (nI 0)), (0, .ref (b 0))]) hC hm (by decide) rfl dX6_runText_23 ?_
    have loop : ∀ (cs : List Cmd) (m : Nat) (Q : St), (∀ i x, cs[i]? = some x → cmdAt (va_up S.1 0 f) (m + i) x) → (∀ x, x ∈ cs → cOK x) → m + cs.length = ((prs t L 80 0).1).length → GR Q → runC cs Q m = runC ((prs t L 80 0).1) R 0 → Z g C 0 0 (mW g.2 b Q (va_up S.1 0 f) (upd S.2 0 (nI (pushN s)))) [(1, .int (nI m)), (0, .ref (b 0))] 24 [] := by
      intro cs
      induction cs with
      | nil =>
        intro m Q hs ho hl hQ hr
        refine z_iln (pc := 24) hC 0 rfl dX6_runText_24 ?_
        refine z_aln (pc := 25) hC 1 rfl dX6_runText_25 ?_
        refine z_get (pc := 26) hC fX6_151 0 rfl rfl dX6_runText_26 ?_
        refine z_is_ (y := nI ((prs t L 80 0).1).length) (by simp [upd, q3]) ?_
        refine z_icge (pc := 29) hC 46 (by decide) dX6_runText_29 (fun c29 => ?_) (fun c29 => absurd (nI_le (by simp at hl; omega) (by omega)) c29)
        refine z_iln (pc := 46) hC 0 rfl dX6_runText_46 ?_
        exact hE _ _ _ (va_up S.1 0 f, upd S.2 0 (nI (pushN s))) _ _ _ dX6_runText_47 rfl (mP_0 (V' := upd S.2 0 (nI (pushN s))) hcd (by simp [upd, k1]) (mR_save hM2 hf (by simp [upd]) (by simp [upd])) (by rw [← hr]; rfl)) (by rw [if_pos hcd, ← hr]; rfl) (Nat.le_refl _) (Nat.le_refl _)
      | cons c cs ih =>
        intro m Q hs ho hl hQ hr
        refine z_iln (pc := 24) hC 0 rfl dX6_runText_24 ?_
        refine z_aln (pc := 25) hC 1 rfl dX6_runText_25 ?_
        refine z_get (pc := 26) hC fX6_151 0 rfl rfl dX6_runText_26 ?_
        refine z_is_ (y := nI ((prs t L 80 0).1).length) (by simp [upd, q3]) ?_
        refine z_icge (pc := 29) hC 46 (by decide) dX6_runText_29 (fun c29 => absurd c29 (nI_ge (by simp at hl; omega) (by omega))) (fun c29 => ?_)
        refine z_aln (pc := 32) hC 1 rfl dX6_runText_32 ?_
        refine z_iln (pc := 33) hC 0 rfl dX6_runText_33 ?_
        refine z_g (pc := 34) (rest := []) hC vX6_isCarriedOut lX6_173 dX6_runText_34 (m_isCarriedOut (F := va_up S.1 0 f) (V := upd S.2 0 (nI (pushN s))) (c := c) hQ (by omega) (by have := hs 0 c rfl; rw [Nat.add_zero] at this; exact this) (ho c List.mem_cons_self)) (fun w => w) isCtx_id rfl 0 6 rfl rfl rfl rfl rfl (by decide) (Nat.le_of_ble_eq_true rfl) ⟨Nat.le_refl _, Nat.le_refl _⟩ ?_
        rcases hex : exC c Q with _ | Q2
        · refine z_w (ws' := mW g.2 b Q (va_up S.1 0 f) (upd S.2 0 (nI (pushN s)))) rfl ?_
          refine z_is_ (y := 0) rfl ?_
          refine z_ifeq (pc := 37) hC 46 (by decide) dX6_runText_37 (fun c37 => ?_) (fun c37 => absurd c37 (by decide))
          refine z_iln (pc := 46) hC 0 rfl dX6_runText_46 ?_
          exact hE _ _ _ (va_up S.1 0 f, upd S.2 0 (nI (pushN s))) _ _ _ dX6_runText_47 rfl (mP_0 (V' := upd S.2 0 (nI (pushN s))) hcd (by simp [upd, k1]) (mR_save hM2 hf (by simp [upd]) (by simp [upd])) (by rw [← hr, runC_n hex])) (by rw [if_pos hcd, ← hr, runC_n hex]) (Nat.le_refl _) (Nat.le_refl _)
        · refine z_w (ws' := mW g.2 b Q2 (va_up S.1 0 f) (upd S.2 0 (nI (pushN s)))) rfl ?_
          refine z_is_ (y := 1) rfl ?_
          refine z_ifeq (pc := 37) hC 46 (by decide) dX6_runText_37 (fun c37 => absurd c37 (by decide)) (fun c37 => ?_)
          refine z_iinc (pc := 40) (v := nI (m + 1)) (j := 0) (lv' := [(1, .int (nI (m + 1))), (0, .ref (b 0))]) hC hm (by decide) rfl (up_step m) rfl dX6_runText_40 ?_
          refine z_goto (pc := 43) hC 24 (by decide) dX6_runText_43 ?_
          refine z_lv [0, 1] rfl ?_
          exact ih (m + 1) Q2 (fun i x hx => by have := hs (i + 1) x (by simpa using hx); rwa [show m + (i + 1) = m + 1 + i by omega] at this) (fun x hx => ho x (List.mem_cons_of_mem _ hx)) (by simp at hl; omega) (gr_exC hQ (ho c List.mem_cons_self) hex) (by rw [← hr, runC_s hex])
    refine z_lv [0, 1] rfl ?_
    exact loop ((prs t L 80 0).1) 0 R (fun i x hx => by rw [Nat.zero_add]; exact q5 i x hx) (fun x hx => prs_ok 80 0 x hx) (Nat.zero_add _) hG rfl
  · have hcd : cRun t L = 1 := by simpa [cRun] using bI_0.mp c9
    refine z_aln (pc := 12) hC 0 rfl dX6_runText_12 ?_
    refine z_iconst (pc := 13) (v := 1) hC dX6_runText_13 (by decide) ?_
    refine z_g (pc := 14) (rest := []) hC vX6_fails lX6_53 dX6_runText_14 (m_fails (x := 1)) (fun w => w) isCtx_id rfl 0 6 rfl rfl rfl rfl rfl (by decide) (Nat.le_of_ble_eq_true rfl) ⟨Nat.le_refl _, Nat.le_refl _⟩ ?_
    exact hE _ _ _ (S.1, upd (S.2) 1 1) _ _ _ dX6_runText_17 rfl (mP_f hM2 hcd (by decide) (by simp [upd]; rfl) (by simp [upd]) (by simp [upd])) (by rw [if_neg (by rw [hcd]; decide)]) (Nat.le_refl _) (Nat.le_refl _)
