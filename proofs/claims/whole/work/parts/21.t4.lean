/-- how a command is kept in the reference's rows -/
def cmdAt (F : Nat → Nat → Int32) (k : Nat) (x : Cmd) : Prop := F 3 k = nI x.1 ∧ (¬ x.1 = 100 → F 4 k = nI x.2.1) ∧ (isJ x.1 = true → F 5 k = nI x.2.2.1 ∧ F 6 k = nI x.2.2.2)
theorem sg_cases {t : Nat → Nat} {L p : Nat} (ht : ∀ q, q < L → t q < 1000) : (p < L ∧ t p = 114) ∨ (p < L ∧ t p = 119) ∨ (p < L ∧ t p = 99) ∨ (p < L ∧ t p = 116) ∨ (p < L ∧ t p = 100) ∨ ((¬ sgC t L p = 114 ∧ ¬ sgC t L p = 119 ∧ ¬ sgC t L p = 99 ∧ ¬ sgC t L p = 116 ∧ ¬ sgC t L p = 100) ∧ rdC t L p = (none, p)) := by
  rcases cmd_cases (p := p) ht with h | h | h | h | h | h
  · exact Or.inl h
  · exact Or.inr (Or.inl h)
  · exact Or.inr (Or.inr (Or.inl h))
  · exact Or.inr (Or.inr (Or.inr (Or.inl h)))
  · exact Or.inr (Or.inr (Or.inr (Or.inr (Or.inl h))))
  · have hk : ∀ x : Nat, x < 1000 → 0 < x → ¬ chC t L p = nI x → ¬ sgC t L p = nI x := fun x hx h0 hne e => hne ((chC_eq ht hx).mpr ((sgC_eq ht hx h0).mp e))
    exact Or.inr (Or.inr (Or.inr (Or.inr (Or.inr ⟨⟨hk 114 (by omega) (by omega) h.1.1, hk 119 (by omega) (by omega) h.1.2.1, hk 99 (by omega) (by omega) h.1.2.2.1, hk 116 (by omega) (by omega) h.1.2.2.2.1, hk 100 (by omega) (by omega) h.1.2.2.2.2⟩, h.2⟩))))
theorem kpF_tr {F F' F'' : Nat → Nat → Int32} (h : kpF F F') (h2 : kpF F' F'') : kpF F F'' := ⟨h2.1.trans h.1, h2.2.1.trans h.2.1, h2.2.2.trans h.2.2⟩
theorem kpV_tr {F F' F'' : Nat → Int32} (h : kpV F F') (h2 : kpV F' F'') : kpV F F'' := ⟨h2.1.trans h.1, h2.2.1.trans h.2.1, h2.2.2.trans h.2.2⟩

set_option maxRecDepth 100000 in
set_option maxHeartbeats 4000000 in
theorem m_readsCommand {g : zG} {b : Nat → Nat} {R : St} {F : Nat → Nat → Int32} {V : Nat → Int32} {t : Nat → Nat} {L p : Nat} {c : Nat} (hT : tOK (F 2) t L) (hL : L ≤ 80) (h2 : V 2 = nI L) (h3 : V 3 = nI p) (hp : p ≤ L) (hc : V 5 = nI c) (hcl : c < 48) : FI (S := (Nat → Nat → Int32) × (Nat → Int32)) g yX6_readsCommand cX6_readsCommand 4 .boolean 3 0 0 [.ref (b 0)] (mW g.2 b R F V) (fun r (S : (Nat → Nat → Int32) × (Nat → Int32)) => r = bI (rdC t L p).1.isSome ∧ kpV V S.2 ∧ S.2 3 = nI (rdC t L p).2 ∧ kpF F S.1 ∧ (∀ k j, j ≠ c → S.1 k j = F k j) ∧ ((rdC t L p).1 = none → S.2 5 = nI c) ∧ ∀ x, (rdC t L p).1 = some x → S.2 5 = nI (c + 1) ∧ cmdAt S.1 c x) (fun S => mW g.2 b R S.1 S.2) := by
  refine fi_entry (by decide) (Nat.le_of_ble_eq_true rfl) (fun C hC hm hE => ?_)
  refine z_aln (pc := 0) hC 0 rfl dX6_readsCommand_0 ?_
  refine z_g (pc := 1) (rest := []) hC vX6_sign lX6_142 dX6_readsCommand_1 (m_sign hT hL h2 h3 hp) (fun w => w) isCtx_id rfl 0 6 rfl rfl rfl rfl rfl (by decide) (Nat.le_of_ble_eq_true rfl) ⟨Nat.le_refl _, Nat.le_refl _⟩ ?_
  rcases sg_cases (p := p) hT.lt with he | he | he | he | he | he
  · refine z_is_ (y := 114) (sgC_is he) ?_
    refine z_isn (pc := 4) (lv' := [(1, .int 114), (0, .ref (b 0))]) hC hm (by decide) rfl dX6_readsCommand_4 ?_
    refine z_iln (pc := 5) hC 0 rfl dX6_readsCommand_5 ?_
    refine z_bipush (pc := 6) (v := 114) hC dX6_readsCommand_6 (by decide) ?_
    refine z_iceq (pc := 8) hC 23 (by decide) dX6_readsCommand_8 (fun c8 => ?_) (fun c8 => absurd c8 (by decide))
    refine z_iconst (pc := 23) (v := 1) hC dX6_readsCommand_23 (by decide) ?_
    refine z_goto (pc := 24) hC 28 (by decide) dX6_readsCommand_24 ?_
    refine z_isn (pc := 28) (lv' := [(2, .int 1), (1, .int 114), (0, .ref (b 0))]) hC hm (by decide) rfl dX6_readsCommand_28 ?_
    refine z_iln (pc := 29) hC 0 rfl dX6_readsCommand_29 ?_
    refine z_ifne (pc := 30) hC 47 (by decide) dX6_readsCommand_30 (fun c30 => ?_) (fun c30 => absurd c30 (by decide))
    refine z_aln (pc := 47) hC 2 rfl dX6_readsCommand_47 ?_
    refine z_dup (pc := 48) hC rfl dX6_readsCommand_48 ?_
    refine z_get (pc := 49) hC fX6_139 0 rfl rfl dX6_readsCommand_49 ?_
    refine z_is_ (y := nI p) h3 ?_
    refine z_iconst (pc := 52) (v := 1) hC dX6_readsCommand_52 (by decide) ?_
    refine z_iadd (pc := 53) (v := nI (p + 1)) hC (nI_1 p) dX6_readsCommand_53 ?_
    refine z_put (pc := 54) (ws' := mW g.2 b R F (upd V 3 (nI (p + 1)))) hC fX6_139 p6_7 0 rfl (Nat.le_of_ble_eq_true rfl) (mW_V 7 3 (by decide)) dX6_readsCommand_54 ?_
    refine z_iln (pc := 57) hC 0 rfl dX6_readsCommand_57 ?_
    refine z_ifeq (pc := 58) hC 68 (by decide) dX6_readsCommand_58 (fun c58 => absurd c58 (by decide)) (fun c58 => ?_)
    refine z_aln (pc := 61) hC 2 rfl dX6_readsCommand_61 ?_
    refine z_i0 (pc := 62) (rest := []) hC vX6_readsJob lX6_157 dX6_readsCommand_62 (m_readsJob (V := upd V 3 (nI (p + 1))) (p := p + 1) (c := c) hT hL (by simp [upd, h2]) (by simp [upd]) he.1 (by simp [upd, hc]) hcl) rfl 0 6 rfl rfl rfl rfl rfl (by decide) (Nat.le_of_ble_eq_true rfl) ⟨Nat.le_refl _, Nat.le_refl _⟩ (fun r S hq => ?_)
    obtain ⟨rfl, q1, q2, q3, q4, q5, q6⟩ := hq
    have k0 : S.2 0 = V 0 := q1.1
    have k1 : S.2 1 = V 1 := q1.2.1
    have k2 : S.2 2 = V 2 := q1.2.2
    have k5 : S.2 5 = nI c := q3.trans hc
    refine z_goto (pc := 65) hC 86 (by decide) dX6_readsCommand_65 ?_
    refine z_isn (pc := 86) (lv' := [(3, .int (bI (rdJ t L (p + 1)).1.isSome)), (2, .int 1), (1, .int 114), (0, .ref (b 0))]) hC hm (by decide) rfl dX6_readsCommand_86 ?_
    refine z_iln (pc := 87) hC 0 rfl dX6_readsCommand_87 ?_
    refine z_ifeq (pc := 88) hC 111 (by decide) dX6_readsCommand_88 (fun c88 => ?_) (fun c88 => ?_)
    · refine z_iln (pc := 111) hC 0 rfl dX6_readsCommand_111 ?_
      exact hE _ _ _ (S.1, S.2) _ _ _ dX6_readsCommand_112 (bI_nar _) (by rw [rdC_job he (by decide)]; exact ⟨by rw [Option.isSome_map], ⟨k0, k1, k2⟩, q2, q4, q5, fun _ => k5, fun x hx => by
      obtain ⟨z, hz, rfl⟩ := Option.map_eq_some_iff.mp hx
      exact absurd (bI_0.mp c88) (by simp [hz])⟩) rfl (Nat.le_refl _) (Nat.le_refl _)
    · refine z_aln (pc := 91) hC 3 rfl dX6_readsCommand_91 ?_
      refine z_get (pc := 92) hC fX6_22 0 rfl rfl dX6_readsCommand_92 ?_
      refine z_aln (pc := 95) hC 3 rfl dX6_readsCommand_95 ?_
      refine z_get (pc := 96) hC fX6_151 0 rfl rfl dX6_readsCommand_96 ?_
      refine z_is_ (y := nI c) k5 ?_
      refine z_iln (pc := 99) hC 2 rfl dX6_readsCommand_99 ?_
      refine z_iast (pc := 100) (ws' := mW g.2 b R (setS S.1 3 c 114) S.2) hC 5 rfl dX6_readsCommand_100 c rfl (by omega) (by decide) mW_F3 ?_
      refine z_aln (pc := 101) hC 3 rfl dX6_readsCommand_101 ?_
      refine z_dup (pc := 102) hC rfl dX6_readsCommand_102 ?_
      refine z_get (pc := 103) hC fX6_151 0 rfl rfl dX6_readsCommand_103 ?_
      refine z_is_ (y := nI c) k5 ?_
      refine z_iconst (pc := 106) (v := 1) hC dX6_readsCommand_106 (by decide) ?_
      refine z_iadd (pc := 107) (v := nI (c + 1)) hC (nI_1 c) dX6_readsCommand_107 ?_
      refine z_put (pc := 108) (ws' := mW g.2 b R (setS S.1 3 c 114) (upd S.2 5 (nI (c + 1)))) hC fX6_151 p6_9 0 rfl (Nat.le_of_ble_eq_true rfl) (mW_V 9 5 (by decide)) dX6_readsCommand_108 ?_
      refine z_iln (pc := 111) hC 0 rfl dX6_readsCommand_111 ?_
      exact hE _ _ _ (setS S.1 3 c 114, upd S.2 5 (nI (c + 1))) _ _ _ dX6_readsCommand_112 (bI_nar _) (by rw [rdC_job he (by decide)]; exact ⟨by rw [Option.isSome_map], ⟨by simp [upd, k0], by simp [upd, k1], by simp [upd, k2]⟩, by simp [upd, q2], kpF_set q4 (by omega), fun k j hj => by simp [setS_at, hj, q5 k j hj], fun e => by rw [Option.map_eq_none_iff] at e; exact absurd (bI_n.mp c88) (by simp [e]), fun x hx => by
      obtain ⟨z, hz, rfl⟩ := Option.map_eq_some_iff.mp hx
      obtain ⟨a4, a5, a6⟩ := q6 z hz
      exact ⟨by simp [upd], by simp [setS_at]; rfl, fun _ => by simp [setS_at, a4], fun _ => ⟨by simp [setS_at, a5], by simp [setS_at, a6]⟩⟩⟩) rfl (Nat.le_refl _) (Nat.le_refl _)
  · refine z_is_ (y := 119) (sgC_is he) ?_
    refine z_isn (pc := 4) (lv' := [(1, .int 119), (0, .ref (b 0))]) hC hm (by decide) rfl dX6_readsCommand_4 ?_
    refine z_iln (pc := 5) hC 0 rfl dX6_readsCommand_5 ?_
    refine z_bipush (pc := 6) (v := 114) hC dX6_readsCommand_6 (by decide) ?_
    refine z_iceq (pc := 8) hC 23 (by decide) dX6_readsCommand_8 (fun c8 => absurd c8 (by decide)) (fun c8 => ?_)
    refine z_iln (pc := 11) hC 0 rfl dX6_readsCommand_11 ?_
    refine z_bipush (pc := 12) (v := 119) hC dX6_readsCommand_12 (by decide) ?_
    refine z_iceq (pc := 14) hC 23 (by decide) dX6_readsCommand_14 (fun c14 => ?_) (fun c14 => absurd c14 (by decide))
    refine z_iconst (pc := 23) (v := 1) hC dX6_readsCommand_23 (by decide) ?_
    refine z_goto (pc := 24) hC 28 (by decide) dX6_readsCommand_24 ?_
    refine z_isn (pc := 28) (lv' := [(2, .int 1), (1, .int 119), (0, .ref (b 0))]) hC hm (by decide) rfl dX6_readsCommand_28 ?_
    refine z_iln (pc := 29) hC 0 rfl dX6_readsCommand_29 ?_
    refine z_ifne (pc := 30) hC 47 (by decide) dX6_readsCommand_30 (fun c30 => ?_) (fun c30 => absurd c30 (by decide))
    refine z_aln (pc := 47) hC 2 rfl dX6_readsCommand_47 ?_
    refine z_dup (pc := 48) hC rfl dX6_readsCommand_48 ?_
    refine z_get (pc := 49) hC fX6_139 0 rfl rfl dX6_readsCommand_49 ?_
    refine z_is_ (y := nI p) h3 ?_
    refine z_iconst (pc := 52) (v := 1) hC dX6_readsCommand_52 (by decide) ?_
    refine z_iadd (pc := 53) (v := nI (p + 1)) hC (nI_1 p) dX6_readsCommand_53 ?_
    refine z_put (pc := 54) (ws' := mW g.2 b R F (upd V 3 (nI (p + 1)))) hC fX6_139 p6_7 0 rfl (Nat.le_of_ble_eq_true rfl) (mW_V 7 3 (by decide)) dX6_readsCommand_54 ?_
    refine z_iln (pc := 57) hC 0 rfl dX6_readsCommand_57 ?_
    refine z_ifeq (pc := 58) hC 68 (by decide) dX6_readsCommand_58 (fun c58 => absurd c58 (by decide)) (fun c58 => ?_)
    refine z_aln (pc := 61) hC 2 rfl dX6_readsCommand_61 ?_
    refine z_i0 (pc := 62) (rest := []) hC vX6_readsJob lX6_157 dX6_readsCommand_62 (m_readsJob (V := upd V 3 (nI (p + 1))) (p := p + 1) (c := c) hT hL (by simp [upd, h2]) (by simp [upd]) he.1 (by simp [upd, hc]) hcl) rfl 0 6 rfl rfl rfl rfl rfl (by decide) (Nat.le_of_ble_eq_true rfl) ⟨Nat.le_refl _, Nat.le_refl _⟩ (fun r S hq => ?_)
    obtain ⟨rfl, q1, q2, q3, q4, q5, q6⟩ := hq
    have k0 : S.2 0 = V 0 := q1.1
    have k1 : S.2 1 = V 1 := q1.2.1
    have k2 : S.2 2 = V 2 := q1.2.2
    have k5 : S.2 5 = nI c := q3.trans hc
    refine z_goto (pc := 65) hC 86 (by decide) dX6_readsCommand_65 ?_
    refine z_isn (pc := 86) (lv' := [(3, .int (bI (rdJ t L (p + 1)).1.isSome)), (2, .int 1), (1, .int 119), (0, .ref (b 0))]) hC hm (by decide) rfl dX6_readsCommand_86 ?_
    refine z_iln (pc := 87) hC 0 rfl dX6_readsCommand_87 ?_
    refine z_ifeq (pc := 88) hC 111 (by decide) dX6_readsCommand_88 (fun c88 => ?_) (fun c88 => ?_)
    · refine z_iln (pc := 111) hC 0 rfl dX6_readsCommand_111 ?_
      exact hE _ _ _ (S.1, S.2) _ _ _ dX6_readsCommand_112 (bI_nar _) (by rw [rdC_job he (by decide)]; exact ⟨by rw [Option.isSome_map], ⟨k0, k1, k2⟩, q2, q4, q5, fun _ => k5, fun x hx => by
      obtain ⟨z, hz, rfl⟩ := Option.map_eq_some_iff.mp hx
      exact absurd (bI_0.mp c88) (by simp [hz])⟩) rfl (Nat.le_refl _) (Nat.le_refl _)
    · refine z_aln (pc := 91) hC 3 rfl dX6_readsCommand_91 ?_
      refine z_get (pc := 92) hC fX6_22 0 rfl rfl dX6_readsCommand_92 ?_
      refine z_aln (pc := 95) hC 3 rfl dX6_readsCommand_95 ?_
      refine z_get (pc := 96) hC fX6_151 0 rfl rfl dX6_readsCommand_96 ?_
      refine z_is_ (y := nI c) k5 ?_
      refine z_iln (pc := 99) hC 2 rfl dX6_readsCommand_99 ?_
      refine z_iast (pc := 100) (ws' := mW g.2 b R (setS S.1 3 c 119) S.2) hC 5 rfl dX6_readsCommand_100 c rfl (by omega) (by decide) mW_F3 ?_
      refine z_aln (pc := 101) hC 3 rfl dX6_readsCommand_101 ?_
      refine z_dup (pc := 102) hC rfl dX6_readsCommand_102 ?_
      refine z_get (pc := 103) hC fX6_151 0 rfl rfl dX6_readsCommand_103 ?_
      refine z_is_ (y := nI c) k5 ?_
      refine z_iconst (pc := 106) (v := 1) hC dX6_readsCommand_106 (by decide) ?_
      refine z_iadd (pc := 107) (v := nI (c + 1)) hC (nI_1 c) dX6_readsCommand_107 ?_
      refine z_put (pc := 108) (ws' := mW g.2 b R (setS S.1 3 c 119) (upd S.2 5 (nI (c + 1)))) hC fX6_151 p6_9 0 rfl (Nat.le_of_ble_eq_true rfl) (mW_V 9 5 (by decide)) dX6_readsCommand_108 ?_
      refine z_iln (pc := 111) hC 0 rfl dX6_readsCommand_111 ?_
      exact hE _ _ _ (setS S.1 3 c 119, upd S.2 5 (nI (c + 1))) _ _ _ dX6_readsCommand_112 (bI_nar _) (by rw [rdC_job he (by decide)]; exact ⟨by rw [Option.isSome_map], ⟨by simp [upd, k0], by simp [upd, k1], by simp [upd, k2]⟩, by simp [upd, q2], kpF_set q4 (by omega), fun k j hj => by simp [setS_at, hj, q5 k j hj], fun e => by rw [Option.map_eq_none_iff] at e; exact absurd (bI_n.mp c88) (by simp [e]), fun x hx => by
      obtain ⟨z, hz, rfl⟩ := Option.map_eq_some_iff.mp hx
      obtain ⟨a4, a5, a6⟩ := q6 z hz
      exact ⟨by simp [upd], by simp [setS_at]; rfl, fun _ => by simp [setS_at, a4], fun _ => ⟨by simp [setS_at, a5], by simp [setS_at, a6]⟩⟩⟩) rfl (Nat.le_refl _) (Nat.le_refl _)
  · refine z_is_ (y := 99) (sgC_is he) ?_
    refine z_isn (pc := 4) (lv' := [(1, .int 99), (0, .ref (b 0))]) hC hm (by decide) rfl dX6_readsCommand_4 ?_
    refine z_iln (pc := 5) hC 0 rfl dX6_readsCommand_5 ?_
    refine z_bipush (pc := 6) (v := 114) hC dX6_readsCommand_6 (by decide) ?_
    refine z_iceq (pc := 8) hC 23 (by decide) dX6_readsCommand_8 (fun c8 => absurd c8 (by decide)) (fun c8 => ?_)
    refine z_iln (pc := 11) hC 0 rfl dX6_readsCommand_11 ?_
    refine z_bipush (pc := 12) (v := 119) hC dX6_readsCommand_12 (by decide) ?_
    refine z_iceq (pc := 14) hC 23 (by decide) dX6_readsCommand_14 (fun c14 => absurd c14 (by decide)) (fun c14 => ?_)
    refine z_iln (pc := 17) hC 0 rfl dX6_readsCommand_17 ?_
    refine z_bipush (pc := 18) (v := 99) hC dX6_readsCommand_18 (by decide) ?_
    refine z_icne (pc := 20) hC 27 (by decide) dX6_readsCommand_20 (fun c20 => absurd c20 (by decide)) (fun c20 => ?_)
    refine z_iconst (pc := 23) (v := 1) hC dX6_readsCommand_23 (by decide) ?_
    refine z_goto (pc := 24) hC 28 (by decide) dX6_readsCommand_24 ?_
    refine z_isn (pc := 28) (lv' := [(2, .int 1), (1, .int 99), (0, .ref (b 0))]) hC hm (by decide) rfl dX6_readsCommand_28 ?_
    refine z_iln (pc := 29) hC 0 rfl dX6_readsCommand_29 ?_
    refine z_ifne (pc := 30) hC 47 (by decide) dX6_readsCommand_30 (fun c30 => ?_) (fun c30 => absurd c30 (by decide))
    refine z_aln (pc := 47) hC 2 rfl dX6_readsCommand_47 ?_
    refine z_dup (pc := 48) hC rfl dX6_readsCommand_48 ?_
    refine z_get (pc := 49) hC fX6_139 0 rfl rfl dX6_readsCommand_49 ?_
    refine z_is_ (y := nI p) h3 ?_
    refine z_iconst (pc := 52) (v := 1) hC dX6_readsCommand_52 (by decide) ?_
    refine z_iadd (pc := 53) (v := nI (p + 1)) hC (nI_1 p) dX6_readsCommand_53 ?_
    refine z_put (pc := 54) (ws' := mW g.2 b R F (upd V 3 (nI (p + 1)))) hC fX6_139 p6_7 0 rfl (Nat.le_of_ble_eq_true rfl) (mW_V 7 3 (by decide)) dX6_readsCommand_54 ?_
    refine z_iln (pc := 57) hC 0 rfl dX6_readsCommand_57 ?_
    refine z_ifeq (pc := 58) hC 68 (by decide) dX6_readsCommand_58 (fun c58 => absurd c58 (by decide)) (fun c58 => ?_)
    refine z_aln (pc := 61) hC 2 rfl dX6_readsCommand_61 ?_
    refine z_i0 (pc := 62) (rest := []) hC vX6_readsJob lX6_157 dX6_readsCommand_62 (m_readsJob (V := upd V 3 (nI (p + 1))) (p := p + 1) (c := c) hT hL (by simp [upd, h2]) (by simp [upd]) he.1 (by simp [upd, hc]) hcl) rfl 0 6 rfl rfl rfl rfl rfl (by decide) (Nat.le_of_ble_eq_true rfl) ⟨Nat.le_refl _, Nat.le_refl _⟩ (fun r S hq => ?_)
    obtain ⟨rfl, q1, q2, q3, q4, q5, q6⟩ := hq
    have k0 : S.2 0 = V 0 := q1.1
    have k1 : S.2 1 = V 1 := q1.2.1
    have k2 : S.2 2 = V 2 := q1.2.2
    have k5 : S.2 5 = nI c := q3.trans hc
    refine z_goto (pc := 65) hC 86 (by decide) dX6_readsCommand_65 ?_
    refine z_isn (pc := 86) (lv' := [(3, .int (bI (rdJ t L (p + 1)).1.isSome)), (2, .int 1), (1, .int 99), (0, .ref (b 0))]) hC hm (by decide) rfl dX6_readsCommand_86 ?_
    refine z_iln (pc := 87) hC 0 rfl dX6_readsCommand_87 ?_
    refine z_ifeq (pc := 88) hC 111 (by decide) dX6_readsCommand_88 (fun c88 => ?_) (fun c88 => ?_)
    · refine z_iln (pc := 111) hC 0 rfl dX6_readsCommand_111 ?_
      exact hE _ _ _ (S.1, S.2) _ _ _ dX6_readsCommand_112 (bI_nar _) (by rw [rdC_job he (by decide)]; exact ⟨by rw [Option.isSome_map], ⟨k0, k1, k2⟩, q2, q4, q5, fun _ => k5, fun x hx => by
      obtain ⟨z, hz, rfl⟩ := Option.map_eq_some_iff.mp hx
      exact absurd (bI_0.mp c88) (by simp [hz])⟩) rfl (Nat.le_refl _) (Nat.le_refl _)
    · refine z_aln (pc := 91) hC 3 rfl dX6_readsCommand_91 ?_
      refine z_get (pc := 92) hC fX6_22 0 rfl rfl dX6_readsCommand_92 ?_
      refine z_aln (pc := 95) hC 3 rfl dX6_readsCommand_95 ?_
      refine z_get (pc := 96) hC fX6_151 0 rfl rfl dX6_readsCommand_96 ?_
      refine z_is_ (y := nI c) k5 ?_
      refine z_iln (pc := 99) hC 2 rfl dX6_readsCommand_99 ?_
      refine z_iast (pc := 100) (ws' := mW g.2 b R (setS S.1 3 c 99) S.2) hC 5 rfl dX6_readsCommand_100 c rfl (by omega) (by decide) mW_F3 ?_
      refine z_aln (pc := 101) hC 3 rfl dX6_readsCommand_101 ?_
      refine z_dup (pc := 102) hC rfl dX6_readsCommand_102 ?_
      refine z_get (pc := 103) hC fX6_151 0 rfl rfl dX6_readsCommand_103 ?_
      refine z_is_ (y := nI c) k5 ?_
      refine z_iconst (pc := 106) (v := 1) hC dX6_readsCommand_106 (by decide) ?_
      refine z_iadd (pc := 107) (v := nI (c + 1)) hC (nI_1 c) dX6_readsCommand_107 ?_
      refine z_put (pc := 108) (ws' := mW g.2 b R (setS S.1 3 c 99) (upd S.2 5 (nI (c + 1)))) hC fX6_151 p6_9 0 rfl (Nat.le_of_ble_eq_true rfl) (mW_V 9 5 (by decide)) dX6_readsCommand_108 ?_
      refine z_iln (pc := 111) hC 0 rfl dX6_readsCommand_111 ?_
      exact hE _ _ _ (setS S.1 3 c 99, upd S.2 5 (nI (c + 1))) _ _ _ dX6_readsCommand_112 (bI_nar _) (by rw [rdC_job he (by decide)]; exact ⟨by rw [Option.isSome_map], ⟨by simp [upd, k0], by simp [upd, k1], by simp [upd, k2]⟩, by simp [upd, q2], kpF_set q4 (by omega), fun k j hj => by simp [setS_at, hj, q5 k j hj], fun e => by rw [Option.map_eq_none_iff] at e; exact absurd (bI_n.mp c88) (by simp [e]), fun x hx => by
      obtain ⟨z, hz, rfl⟩ := Option.map_eq_some_iff.mp hx
      obtain ⟨a4, a5, a6⟩ := q6 z hz
      exact ⟨by simp [upd], by simp [setS_at]; rfl, fun _ => by simp [setS_at, a4], fun _ => ⟨by simp [setS_at, a5], by simp [setS_at, a6]⟩⟩⟩) rfl (Nat.le_refl _) (Nat.le_refl _)
  · refine z_is_ (y := 116) (sgC_is he) ?_
    refine z_isn (pc := 4) (lv' := [(1, .int 116), (0, .ref (b 0))]) hC hm (by decide) rfl dX6_readsCommand_4 ?_
    refine z_iln (pc := 5) hC 0 rfl dX6_readsCommand_5 ?_
    refine z_bipush (pc := 6) (v := 114) hC dX6_readsCommand_6 (by decide) ?_
    refine z_iceq (pc := 8) hC 23 (by decide) dX6_readsCommand_8 (fun c8 => absurd c8 (by decide)) (fun c8 => ?_)
    refine z_iln (pc := 11) hC 0 rfl dX6_readsCommand_11 ?_
    refine z_bipush (pc := 12) (v := 119) hC dX6_readsCommand_12 (by decide) ?_
    refine z_iceq (pc := 14) hC 23 (by decide) dX6_readsCommand_14 (fun c14 => absurd c14 (by decide)) (fun c14 => ?_)
    refine z_iln (pc := 17) hC 0 rfl dX6_readsCommand_17 ?_
    refine z_bipush (pc := 18) (v := 99) hC dX6_readsCommand_18 (by decide) ?_
    refine z_icne (pc := 20) hC 27 (by decide) dX6_readsCommand_20 (fun c20 => ?_) (fun c20 => absurd c20 (by decide))
    refine z_iconst (pc := 27) (v := 0) hC dX6_readsCommand_27 (by decide) ?_
    refine z_isn (pc := 28) (lv' := [(2, .int 0), (1, .int 116), (0, .ref (b 0))]) hC hm (by decide) rfl dX6_readsCommand_28 ?_
    refine z_iln (pc := 29) hC 0 rfl dX6_readsCommand_29 ?_
    refine z_ifne (pc := 30) hC 47 (by decide) dX6_readsCommand_30 (fun c30 => absurd c30 (by decide)) (fun c30 => ?_)
    refine z_iln (pc := 33) hC 1 rfl dX6_readsCommand_33 ?_
    refine z_bipush (pc := 34) (v := 116) hC dX6_readsCommand_34 (by decide) ?_
    refine z_iceq (pc := 36) hC 47 (by decide) dX6_readsCommand_36 (fun c36 => ?_) (fun c36 => absurd c36 (by decide))
    refine z_aln (pc := 47) hC 2 rfl dX6_readsCommand_47 ?_
    refine z_dup (pc := 48) hC rfl dX6_readsCommand_48 ?_
    refine z_get (pc := 49) hC fX6_139 0 rfl rfl dX6_readsCommand_49 ?_
    refine z_is_ (y := nI p) h3 ?_
    refine z_iconst (pc := 52) (v := 1) hC dX6_readsCommand_52 (by decide) ?_
    refine z_iadd (pc := 53) (v := nI (p + 1)) hC (nI_1 p) dX6_readsCommand_53 ?_
    refine z_put (pc := 54) (ws' := mW g.2 b R F (upd V 3 (nI (p + 1)))) hC fX6_139 p6_7 0 rfl (Nat.le_of_ble_eq_true rfl) (mW_V 7 3 (by decide)) dX6_readsCommand_54 ?_
    refine z_iln (pc := 57) hC 0 rfl dX6_readsCommand_57 ?_
    refine z_ifeq (pc := 58) hC 68 (by decide) dX6_readsCommand_58 (fun c58 => ?_) (fun c58 => absurd c58 (by decide))
    refine z_iln (pc := 68) hC 1 rfl dX6_readsCommand_68 ?_
    refine z_bipush (pc := 69) (v := 100) hC dX6_readsCommand_69 (by decide) ?_
    refine z_iceq (pc := 71) hC 81 (by decide) dX6_readsCommand_71 (fun c71 => absurd c71 (by decide)) (fun c71 => ?_)
    refine z_aln (pc := 74) hC 2 rfl dX6_readsCommand_74 ?_
    refine z_g (pc := 75) (rest := []) hC vX6_readsMinutes lX6_161 dX6_readsCommand_75 (m_readsMinutes (V := upd V 3 (nI (p + 1))) (p := p + 1) (c := c) hT hL (by simp [upd, h2]) (by simp [upd]) he.1 (by simp [upd, hc]) hcl) (fun w => w) isCtx_id rfl 0 6 rfl rfl rfl rfl rfl (by decide) (Nat.le_of_ble_eq_true rfl) ⟨Nat.le_refl _, Nat.le_refl _⟩ ?_
    obtain ⟨q, v, e1⟩ : ∃ q v, rdN t L 99 (L - (p + 1)) (p + 1) 0 = (q, v) := ⟨_, _, rfl⟩
    obtain ⟨f1, f2, f3⟩ := rdN_ok t L 99 (L - (p + 1)) (p + 1) 0 (by omega) he.1
    rw [e1] at f1 f2 f3
    dsimp only at f1 f2 f3
    simp only [e1]
    refine z_ifeq (pc := 78) hC 85 (by decide) dX6_readsCommand_78 (fun c78 => ?_) (fun c78 => ?_)
    · have hv : v = 0 := by
        have := bI_0.mp c78
        simpa using this
      refine z_iconst (pc := 85) (v := 0) hC dX6_readsCommand_85 (by decide) ?_
      refine z_isn (pc := 86) (lv' := [(3, .int 0), (2, .int 0), (1, .int 116), (0, .ref (b 0))]) hC hm (by decide) rfl dX6_readsCommand_86 ?_
      refine z_iln (pc := 87) hC 0 rfl dX6_readsCommand_87 ?_
      refine z_ifeq (pc := 88) hC 111 (by decide) dX6_readsCommand_88 (fun c88 => ?_) (fun c88 => absurd c88 (by decide))
      refine z_iln (pc := 111) hC 0 rfl dX6_readsCommand_111 ?_
      exact hE _ _ _ (setS F 4 c (nI v), upd (upd (upd V 3 (nI (p + 1))) 4 (nI v)) 3 (nI q)) _ _ _ dX6_readsCommand_112 rfl (by rw [rdC_t he e1, if_pos hv]; exact ⟨rfl, ⟨by simp [upd], by simp [upd], by simp [upd]⟩, by simp [upd], kpF_set (kpF_id F) (by omega), fun k j hj => by simp [setS_at, hj], fun _ => by simp [upd, hc], fun x hx => by cases hx⟩) rfl (Nat.le_refl _) (Nat.le_refl _)
    · have hv : ¬ v = 0 := fun e => by rw [e] at c78; exact c78 rfl
      refine z_iconst (pc := 81) (v := 1) hC dX6_readsCommand_81 (by decide) ?_
      refine z_goto (pc := 82) hC 86 (by decide) dX6_readsCommand_82 ?_
      refine z_isn (pc := 86) (lv' := [(3, .int 1), (2, .int 0), (1, .int 116), (0, .ref (b 0))]) hC hm (by decide) rfl dX6_readsCommand_86 ?_
      refine z_iln (pc := 87) hC 0 rfl dX6_readsCommand_87 ?_
      refine z_ifeq (pc := 88) hC 111 (by decide) dX6_readsCommand_88 (fun c88 => absurd c88 (by decide)) (fun c88 => ?_)
      refine z_aln (pc := 91) hC 3 rfl dX6_readsCommand_91 ?_
      refine z_get (pc := 92) hC fX6_22 0 rfl rfl dX6_readsCommand_92 ?_
      refine z_aln (pc := 95) hC 3 rfl dX6_readsCommand_95 ?_
      refine z_get (pc := 96) hC fX6_151 0 rfl rfl dX6_readsCommand_96 ?_
      refine z_is_ (y := nI c) (by simp [upd, hc]) ?_
      refine z_iln (pc := 99) hC 2 rfl dX6_readsCommand_99 ?_
      refine z_iast (pc := 100) (ws' := mW g.2 b R (setS (setS F 4 c (nI v)) 3 c 116) (upd (upd (upd V 3 (nI (p + 1))) 4 (nI v)) 3 (nI q))) hC 5 rfl dX6_readsCommand_100 c rfl (by omega) (by decide) mW_F3 ?_
      refine z_aln (pc := 101) hC 3 rfl dX6_readsCommand_101 ?_
      refine z_dup (pc := 102) hC rfl dX6_readsCommand_102 ?_
      refine z_get (pc := 103) hC fX6_151 0 rfl rfl dX6_readsCommand_103 ?_
      refine z_is_ (y := nI c) (by simp [upd, hc]) ?_
      refine z_iconst (pc := 106) (v := 1) hC dX6_readsCommand_106 (by decide) ?_
      refine z_iadd (pc := 107) (v := nI (c + 1)) hC (nI_1 c) dX6_readsCommand_107 ?_
      refine z_put (pc := 108) (ws' := mW g.2 b R (setS (setS F 4 c (nI v)) 3 c 116) (upd (upd (upd (upd V 3 (nI (p + 1))) 4 (nI v)) 3 (nI q)) 5 (nI (c + 1)))) hC fX6_151 p6_9 0 rfl (Nat.le_of_ble_eq_true rfl) (mW_V 9 5 (by decide)) dX6_readsCommand_108 ?_
      refine z_iln (pc := 111) hC 0 rfl dX6_readsCommand_111 ?_
      exact hE _ _ _ (setS (setS F 4 c (nI v)) 3 c 116, upd (upd (upd (upd V 3 (nI (p + 1))) 4 (nI v)) 3 (nI q)) 5 (nI (c + 1))) _ _ _ dX6_readsCommand_112 rfl (by rw [rdC_t he e1, if_neg hv]; exact ⟨rfl, ⟨by simp [upd], by simp [upd], by simp [upd]⟩, by simp [upd], kpF_set (kpF_set (kpF_id F) (by omega)) (by omega), fun k j hj => by simp [setS_at, hj], fun e => (by cases e), fun x hx => by cases hx; exact ⟨by simp [upd], by simp [setS_at]; rfl, fun _ => by simp [setS_at], fun e => absurd e (show ¬ isJ 116 = true by decide)⟩⟩) rfl (Nat.le_refl _) (Nat.le_refl _)
  · refine z_is_ (y := 100) (sgC_is he) ?_
    refine z_isn (pc := 4) (lv' := [(1, .int 100), (0, .ref (b 0))]) hC hm (by decide) rfl dX6_readsCommand_4 ?_
    refine z_iln (pc := 5) hC 0 rfl dX6_readsCommand_5 ?_
    refine z_bipush (pc := 6) (v := 114) hC dX6_readsCommand_6 (by decide) ?_
    refine z_iceq (pc := 8) hC 23 (by decide) dX6_readsCommand_8 (fun c8 => absurd c8 (by decide)) (fun c8 => ?_)
    refine z_iln (pc := 11) hC 0 rfl dX6_readsCommand_11 ?_
    refine z_bipush (pc := 12) (v := 119) hC dX6_readsCommand_12 (by decide) ?_
    refine z_iceq (pc := 14) hC 23 (by decide) dX6_readsCommand_14 (fun c14 => absurd c14 (by decide)) (fun c14 => ?_)
    refine z_iln (pc := 17) hC 0 rfl dX6_readsCommand_17 ?_
    refine z_bipush (pc := 18) (v := 99) hC dX6_readsCommand_18 (by decide) ?_
    refine z_icne (pc := 20) hC 27 (by decide) dX6_readsCommand_20 (fun c20 => ?_) (fun c20 => absurd c20 (by decide))
    refine z_iconst (pc := 27) (v := 0) hC dX6_readsCommand_27 (by decide) ?_
    refine z_isn (pc := 28) (lv' := [(2, .int 0), (1, .int 100), (0, .ref (b 0))]) hC hm (by decide) rfl dX6_readsCommand_28 ?_
    refine z_iln (pc := 29) hC 0 rfl dX6_readsCommand_29 ?_
    refine z_ifne (pc := 30) hC 47 (by decide) dX6_readsCommand_30 (fun c30 => absurd c30 (by decide)) (fun c30 => ?_)
    refine z_iln (pc := 33) hC 1 rfl dX6_readsCommand_33 ?_
    refine z_bipush (pc := 34) (v := 116) hC dX6_readsCommand_34 (by decide) ?_
    refine z_iceq (pc := 36) hC 47 (by decide) dX6_readsCommand_36 (fun c36 => absurd c36 (by decide)) (fun c36 => ?_)
    refine z_iln (pc := 39) hC 1 rfl dX6_readsCommand_39 ?_
    refine z_bipush (pc := 40) (v := 100) hC dX6_readsCommand_40 (by decide) ?_
    refine z_iceq (pc := 42) hC 47 (by decide) dX6_readsCommand_42 (fun c42 => ?_) (fun c42 => absurd c42 (by decide))
    refine z_aln (pc := 47) hC 2 rfl dX6_readsCommand_47 ?_
    refine z_dup (pc := 48) hC rfl dX6_readsCommand_48 ?_
    refine z_get (pc := 49) hC fX6_139 0 rfl rfl dX6_readsCommand_49 ?_
    refine z_is_ (y := nI p) h3 ?_
    refine z_iconst (pc := 52) (v := 1) hC dX6_readsCommand_52 (by decide) ?_
    refine z_iadd (pc := 53) (v := nI (p + 1)) hC (nI_1 p) dX6_readsCommand_53 ?_
    refine z_put (pc := 54) (ws' := mW g.2 b R F (upd V 3 (nI (p + 1)))) hC fX6_139 p6_7 0 rfl (Nat.le_of_ble_eq_true rfl) (mW_V 7 3 (by decide)) dX6_readsCommand_54 ?_
    refine z_iln (pc := 57) hC 0 rfl dX6_readsCommand_57 ?_
    refine z_ifeq (pc := 58) hC 68 (by decide) dX6_readsCommand_58 (fun c58 => ?_) (fun c58 => absurd c58 (by decide))
    refine z_iln (pc := 68) hC 1 rfl dX6_readsCommand_68 ?_
    refine z_bipush (pc := 69) (v := 100) hC dX6_readsCommand_69 (by decide) ?_
    refine z_iceq (pc := 71) hC 81 (by decide) dX6_readsCommand_71 (fun c71 => ?_) (fun c71 => absurd c71 (by decide))
    refine z_iconst (pc := 81) (v := 1) hC dX6_readsCommand_81 (by decide) ?_
    refine z_goto (pc := 82) hC 86 (by decide) dX6_readsCommand_82 ?_
    refine z_isn (pc := 86) (lv' := [(3, .int 1), (2, .int 0), (1, .int 100), (0, .ref (b 0))]) hC hm (by decide) rfl dX6_readsCommand_86 ?_
    refine z_iln (pc := 87) hC 0 rfl dX6_readsCommand_87 ?_
    refine z_ifeq (pc := 88) hC 111 (by decide) dX6_readsCommand_88 (fun c88 => absurd c88 (by decide)) (fun c88 => ?_)
    refine z_aln (pc := 91) hC 3 rfl dX6_readsCommand_91 ?_
    refine z_get (pc := 92) hC fX6_22 0 rfl rfl dX6_readsCommand_92 ?_
    refine z_aln (pc := 95) hC 3 rfl dX6_readsCommand_95 ?_
    refine z_get (pc := 96) hC fX6_151 0 rfl rfl dX6_readsCommand_96 ?_
    refine z_is_ (y := nI c) (by simp [upd, hc]) ?_
    refine z_iln (pc := 99) hC 2 rfl dX6_readsCommand_99 ?_
    refine z_iast (pc := 100) (ws' := mW g.2 b R (setS F 3 c 100) (upd V 3 (nI (p + 1)))) hC 5 rfl dX6_readsCommand_100 c rfl (by omega) (by decide) mW_F3 ?_
    refine z_aln (pc := 101) hC 3 rfl dX6_readsCommand_101 ?_
    refine z_dup (pc := 102) hC rfl dX6_readsCommand_102 ?_
    refine z_get (pc := 103) hC fX6_151 0 rfl rfl dX6_readsCommand_103 ?_
    refine z_is_ (y := nI c) (by simp [upd, hc]) ?_
    refine z_iconst (pc := 106) (v := 1) hC dX6_readsCommand_106 (by decide) ?_
    refine z_iadd (pc := 107) (v := nI (c + 1)) hC (nI_1 c) dX6_readsCommand_107 ?_
    refine z_put (pc := 108) (ws' := mW g.2 b R (setS F 3 c 100) (upd (upd V 3 (nI (p + 1))) 5 (nI (c + 1)))) hC fX6_151 p6_9 0 rfl (Nat.le_of_ble_eq_true rfl) (mW_V 9 5 (by decide)) dX6_readsCommand_108 ?_
    refine z_iln (pc := 111) hC 0 rfl dX6_readsCommand_111 ?_
    exact hE _ _ _ (setS F 3 c 100, upd (upd V 3 (nI (p + 1))) 5 (nI (c + 1))) _ _ _ dX6_readsCommand_112 rfl (by rw [rdC_d he]; exact ⟨rfl, ⟨by simp [upd], by simp [upd], by simp [upd]⟩, by simp [upd], kpF_set (kpF_id F) (by omega), fun k j hj => by simp [setS_at, hj], fun e => (by cases e), fun x hx => by cases hx; exact ⟨by simp [upd], by simp [setS_at]; rfl, fun e => absurd rfl e, fun e => absurd e (show ¬ isJ 100 = true by decide)⟩⟩) rfl (Nat.le_refl _) (Nat.le_refl _)
  · refine z_isn (pc := 4) (lv' := [(1, .int (sgC t L p)), (0, .ref (b 0))]) hC hm (by decide) rfl dX6_readsCommand_4 ?_
    refine z_iln (pc := 5) hC 0 rfl dX6_readsCommand_5 ?_
    refine z_bipush (pc := 6) (v := 114) hC dX6_readsCommand_6 (by decide) ?_
    refine z_iceq (pc := 8) hC 23 (by decide) dX6_readsCommand_8 (fun c8 => absurd c8 he.1.1) (fun c8 => ?_)
    refine z_iln (pc := 11) hC 0 rfl dX6_readsCommand_11 ?_
    refine z_bipush (pc := 12) (v := 119) hC dX6_readsCommand_12 (by decide) ?_
    refine z_iceq (pc := 14) hC 23 (by decide) dX6_readsCommand_14 (fun c14 => absurd c14 he.1.2.1) (fun c14 => ?_)
    refine z_iln (pc := 17) hC 0 rfl dX6_readsCommand_17 ?_
    refine z_bipush (pc := 18) (v := 99) hC dX6_readsCommand_18 (by decide) ?_
    refine z_icne (pc := 20) hC 27 (by decide) dX6_readsCommand_20 (fun c20 => ?_) (fun c20 => absurd c20 he.1.2.2.1)
    refine z_iconst (pc := 27) (v := 0) hC dX6_readsCommand_27 (by decide) ?_
    refine z_isn (pc := 28) (lv' := [(2, .int 0), (1, .int (sgC t L p)), (0, .ref (b 0))]) hC hm (by decide) rfl dX6_readsCommand_28 ?_
    refine z_iln (pc := 29) hC 0 rfl dX6_readsCommand_29 ?_
    refine z_ifne (pc := 30) hC 47 (by decide) dX6_readsCommand_30 (fun c30 => absurd c30 (by decide)) (fun c30 => ?_)
    refine z_iln (pc := 33) hC 1 rfl dX6_readsCommand_33 ?_
    refine z_bipush (pc := 34) (v := 116) hC dX6_readsCommand_34 (by decide) ?_
    refine z_iceq (pc := 36) hC 47 (by decide) dX6_readsCommand_36 (fun c36 => absurd c36 he.1.2.2.2.1) (fun c36 => ?_)
    refine z_iln (pc := 39) hC 1 rfl dX6_readsCommand_39 ?_
    refine z_bipush (pc := 40) (v := 100) hC dX6_readsCommand_40 (by decide) ?_
    refine z_iceq (pc := 42) hC 47 (by decide) dX6_readsCommand_42 (fun c42 => absurd c42 he.1.2.2.2.2) (fun c42 => ?_)
    refine z_iconst (pc := 45) (v := 0) hC dX6_readsCommand_45 (by decide) ?_
    exact hE _ _ _ (F, V) _ _ _ dX6_readsCommand_46 rfl (by rw [he.2]; exact ⟨rfl, ⟨rfl, rfl, rfl⟩, h3, kpF_id F, fun _ _ _ => rfl, fun _ => hc, fun x hx => by cases hx⟩) rfl (Nat.le_refl _) (Nat.le_refl _)
