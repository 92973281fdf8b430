set_option maxRecDepth 100000 in
set_option maxHeartbeats 4000000 in
theorem i_room {g : zG} {b : Nat} : FV (S := Nat → Nat) g yX4_init cX4_init 1 2 16 183 [.ref b] ([(b, .inr (4, [.null, .null, .int 0, .int 0, .int 0, .int 0, .int 0, .int 0, .int 0, .int 0, .int 0, .int 0]))]) (fun u => u 0 = b) (fun u => rW g.2 u (RI_ 12)) := by
  refine fv_entry (by decide) (Nat.le_of_ble_eq_true rfl) (fun C hC hm hn0 hE => ?_)
  refine z_aln (pc := 0) hC 0 rfl dX4_init_0 ?_
  refine z_objInit (pc := 1) hC (in_aw 29 (by decide +kernel) (by decide +kernel)) (by decide) dX4_init_1 (Nat.le_of_ble_eq_true rfl) ?_
  refine z_aln (pc := 4) hC 0 rfl dX4_init_4 ?_
  refine z_new (pc := 5) (ci := 3) hC uX3 tyX3 tyX3_ok (in_aw 30 (by decide +kernel) (by decide +kernel)) (in_aw 31 (by decide +kernel) (by decide +kernel)) (in_aw 4 (by decide +kernel) (by decide +kernel)) rfl (fs := [.null, .null, .null, .null, .null, .null]) (fun j hj => by rcases (show j = 0 ∨ j = 1 ∨ j = 2 ∨ j = 3 ∨ j = 4 ∨ j = 5 by omega) with h | h | h | h | h | h <;> subst h <;> rfl) ⟨Nat.le_of_ble_eq_true rfl, Nat.le_of_ble_eq_true rfl⟩ dX4_init_5 (fun qn => ?_)
  refine z_w (ws' := [(b, .inr (4, [.null, .null, .int 0, .int 0, .int 0, .int 0, .int 0, .int 0, .int 0, .int 0, .int 0, .int 0])), (qn, .inr (3, [.null, .null, .null, .null, .null, .null]))]) rfl ?_
  refine z_dup (pc := 8) hC rfl dX4_init_8 ?_
  refine z_iv (pc := 9) (rest := [.ref qn, .ref b]) hC iX3_init lX4_11 dX4_init_9 i_reels ([(b, .inr (4, [.null, .null, .int 0, .int 0, .int 0, .int 0, .int 0, .int 0, .int 0, .int 0, .int 0, .int 0]))]) [] rfl rfl rfl (by decide) (Nat.le_of_ble_eq_true rfl) ⟨Nat.le_of_ble_eq_true rfl, Nat.le_of_ble_eq_true rfl⟩ (fun qr _ => ?_)
  refine z_w (ws' := [(b, .inr (4, [.null, .null, .int 0, .int 0, .int 0, .int 0, .int 0, .int 0, .int 0, .int 0, .int 0, .int 0]))] ++ (rl_ g.2 qn qr (RI_ 12))) (by rw [List.append_nil]; try rfl) ?_
  refine z_putQ (pc := 12) (ws' := [(b, .inr (4, [.ref qn, .null, .int 0, .int 0, .int 0, .int 0, .int 0, .int 0, .int 0, .int 0, .int 0, .int 0]))] ++ (rl_ g.2 qn qr (RI_ 12))) hC hn0 fX4_12 (⟨(RX4, TX4, 12), tyX4, rfl, tyX4_ok, nmX4, rfl, rfl, by decide +kernel⟩ : fq 4 0 RX4 (.object RX3)) rfl rfl 0 rfl (Nat.le_of_ble_eq_true rfl) rfl dX4_init_12 ?_
  refine z_aln (pc := 15) hC 0 rfl dX4_init_15 ?_
  refine z_new (pc := 16) (ci := 2) hC uX2 tyX2 tyX2_ok (in_aw 69 (by decide +kernel) (by decide +kernel)) (in_aw 70 (by decide +kernel) (by decide +kernel)) (in_aw 5 (by decide +kernel) (by decide +kernel)) rfl (fs := [.null, .null, .null, .null, .null, .null, .null, .null, .int 0]) (fun j hj => by rcases (show j = 0 ∨ j = 1 ∨ j = 2 ∨ j = 3 ∨ j = 4 ∨ j = 5 ∨ j = 6 ∨ j = 7 ∨ j = 8 by omega) with h | h | h | h | h | h | h | h | h <;> subst h <;> rfl) ⟨Nat.le_of_ble_eq_true rfl, Nat.le_of_ble_eq_true rfl⟩ dX4_init_16 (fun qm => ?_)
  refine z_w (ws' := [(b, .inr (4, [.ref qn, .null, .int 0, .int 0, .int 0, .int 0, .int 0, .int 0, .int 0, .int 0, .int 0, .int 0]))] ++ (rl_ g.2 qn qr (RI_ 12) ++ ([(qm, .inr (2, [.null, .null, .null, .null, .null, .null, .null, .null, .int 0]))]))) rfl ?_
  refine z_dup (pc := 19) hC rfl dX4_init_19 ?_
  refine z_ivN (pc := 20) (rest := [.ref qm, .ref b]) hC iX2_init nX4_20 dX4_init_20 i_jobs ([(b, .inr (4, [.ref qn, .null, .int 0, .int 0, .int 0, .int 0, .int 0, .int 0, .int 0, .int 0, .int 0, .int 0]))] ++ (rl_ g.2 qn qr (RI_ 12))) [] rfl rfl rfl (by decide) (Nat.le_of_ble_eq_true rfl) ⟨Nat.le_of_ble_eq_true rfl, Nat.le_of_ble_eq_true rfl⟩ (fun qj _ => ?_)
  refine z_w (ws' := [(b, .inr (4, [.ref qn, .null, .int 0, .int 0, .int 0, .int 0, .int 0, .int 0, .int 0, .int 0, .int 0, .int 0]))] ++ (rl_ g.2 qn qr (RI_ 12) ++ (jb_ g.2 qm qj (RI_ 12)))) (by rw [List.append_nil]; try rfl) ?_
  refine z_putQ (pc := 23) (ws' := [(b, .inr (4, [.ref qn, .ref qm, .int 0, .int 0, .int 0, .int 0, .int 0, .int 0, .int 0, .int 0, .int 0, .int 0]))] ++ (rl_ g.2 qn qr (RI_ 12) ++ (jb_ g.2 qm qj (RI_ 12)))) hC hn0 fX4_21 (⟨(RX4, TX4, 12), tyX4, rfl, tyX4_ok, nmX4, rfl, rfl, by decide +kernel⟩ : fq 4 1 RX4 (.object RX2)) rfl rfl 0 rfl (Nat.le_of_ble_eq_true rfl) rfl dX4_init_23 ?_
  refine z_aln (pc := 26) hC 0 rfl dX4_init_26 ?_
  refine z_iconst (pc := 27) (v := 0) hC dX4_init_27 (by decide) ?_
  refine z_put (pc := 28) (ws' := [(b, .inr (4, [.ref qn, .ref qm, .int 0, .int 0, .int 0, .int 0, .int 0, .int 0, .int 0, .int 0, .int 0, .int 0]))] ++ (rl_ g.2 qn qr (RI_ 12) ++ (jb_ g.2 qm qj (RI_ 12)))) hC fX4_25 p4_2 0 rfl (Nat.le_of_ble_eq_true rfl) rfl dX4_init_28 ?_
  refine z_aln (pc := 31) hC 0 rfl dX4_init_31 ?_
  refine z_iconst (pc := 32) (v := 0) hC dX4_init_32 (by decide) ?_
  refine z_put (pc := 33) (ws' := [(b, .inr (4, [.ref qn, .ref qm, .int 0, .int 0, .int 0, .int 0, .int 0, .int 0, .int 0, .int 0, .int 0, .int 0]))] ++ (rl_ g.2 qn qr (RI_ 12) ++ (jb_ g.2 qm qj (RI_ 12)))) hC fX4_29 p4_3 0 rfl (Nat.le_of_ble_eq_true rfl) rfl dX4_init_33 ?_
  refine z_aln (pc := 36) hC 0 rfl dX4_init_36 ?_
  refine z_bipush (pc := 37) (v := 10) hC dX4_init_37 (by decide) ?_
  refine z_put (pc := 39) (ws' := [(b, .inr (4, [.ref qn, .ref qm, .int 0, .int 0, .int 10, .int 0, .int 0, .int 0, .int 0, .int 0, .int 0, .int 0]))] ++ (rl_ g.2 qn qr (RI_ 12) ++ (jb_ g.2 qm qj (RI_ 12)))) hC fX4_32 p4_4 0 rfl (Nat.le_of_ble_eq_true rfl) rfl dX4_init_39 ?_
  refine z_aln (pc := 42) hC 0 rfl dX4_init_42 ?_
  refine z_iconst (pc := 43) (v := 0) hC dX4_init_43 (by decide) ?_
  refine z_put (pc := 44) (ws' := [(b, .inr (4, [.ref qn, .ref qm, .int 0, .int 0, .int 10, .int 0, .int 0, .int 0, .int 0, .int 0, .int 0, .int 0]))] ++ (rl_ g.2 qn qr (RI_ 12) ++ (jb_ g.2 qm qj (RI_ 12)))) hC fX4_35 p4_5 0 rfl (Nat.le_of_ble_eq_true rfl) rfl dX4_init_44 ?_
  refine z_aln (pc := 47) hC 0 rfl dX4_init_47 ?_
  refine z_iconst (pc := 48) (v := 0) hC dX4_init_48 (by decide) ?_
  refine z_put (pc := 49) (ws' := [(b, .inr (4, [.ref qn, .ref qm, .int 0, .int 0, .int 10, .int 0, .int 0, .int 0, .int 0, .int 0, .int 0, .int 0]))] ++ (rl_ g.2 qn qr (RI_ 12) ++ (jb_ g.2 qm qj (RI_ 12)))) hC fX4_38 p4_6 0 rfl (Nat.le_of_ble_eq_true rfl) rfl dX4_init_49 ?_
  refine z_aln (pc := 52) hC 0 rfl dX4_init_52 ?_
  refine z_iconst (pc := 53) (v := 0) hC dX4_init_53 (by decide) ?_
  refine z_put (pc := 54) (ws' := [(b, .inr (4, [.ref qn, .ref qm, .int 0, .int 0, .int 10, .int 0, .int 0, .int 0, .int 0, .int 0, .int 0, .int 0]))] ++ (rl_ g.2 qn qr (RI_ 12) ++ (jb_ g.2 qm qj (RI_ 12)))) hC fX4_41 p4_7 0 rfl (Nat.le_of_ble_eq_true rfl) rfl dX4_init_54 ?_
  refine z_aln (pc := 57) hC 0 rfl dX4_init_57 ?_
  refine z_iconst (pc := 58) (v := 0) hC dX4_init_58 (by decide) ?_
  refine z_put (pc := 59) (ws' := [(b, .inr (4, [.ref qn, .ref qm, .int 0, .int 0, .int 10, .int 0, .int 0, .int 0, .int 0, .int 0, .int 0, .int 0]))] ++ (rl_ g.2 qn qr (RI_ 12) ++ (jb_ g.2 qm qj (RI_ 12)))) hC fX4_44 p4_8 0 rfl (Nat.le_of_ble_eq_true rfl) rfl dX4_init_59 ?_
  refine z_aln (pc := 62) hC 0 rfl dX4_init_62 ?_
  refine z_iconst (pc := 63) (v := 0) hC dX4_init_63 (by decide) ?_
  refine z_put (pc := 64) (ws' := [(b, .inr (4, [.ref qn, .ref qm, .int 0, .int 0, .int 10, .int 0, .int 0, .int 0, .int 0, .int 0, .int 0, .int 0]))] ++ (rl_ g.2 qn qr (RI_ 12) ++ (jb_ g.2 qm qj (RI_ 12)))) hC fX4_47 p4_9 0 rfl (Nat.le_of_ble_eq_true rfl) rfl dX4_init_64 ?_
  refine z_aln (pc := 67) hC 0 rfl dX4_init_67 ?_
  refine z_iconst (pc := 68) (v := 0) hC dX4_init_68 (by decide) ?_
  refine z_put (pc := 69) (ws' := [(b, .inr (4, [.ref qn, .ref qm, .int 0, .int 0, .int 10, .int 0, .int 0, .int 0, .int 0, .int 0, .int 0, .int 0]))] ++ (rl_ g.2 qn qr (RI_ 12) ++ (jb_ g.2 qm qj (RI_ 12)))) hC fX4_50 p4_10 0 rfl (Nat.le_of_ble_eq_true rfl) rfl dX4_init_69 ?_
  refine z_aln (pc := 72) hC 0 rfl dX4_init_72 ?_
  refine z_iconst (pc := 73) (v := 0) hC dX4_init_73 (by decide) ?_
  refine z_put (pc := 74) (ws' := [(b, .inr (4, [.ref qn, .ref qm, .int 0, .int 0, .int 10, .int 0, .int 0, .int 0, .int 0, .int 0, .int 0, .int 0]))] ++ (rl_ g.2 qn qr (RI_ 12) ++ (jb_ g.2 qm qj (RI_ 12)))) hC fX4_53 p4_11 0 rfl (Nat.le_of_ble_eq_true rfl) rfl dX4_init_74 ?_
  refine z_perm (ws' := rW g.2 (adr [b, qn, qm, qr 0, qr 1, qr 2, qr 3, qr 4, qr 5, qj 0, qj 1, qj 2, qj 3, qj 4, qj 5, qj 6, qj 7]) (RI_ 12)) (((List.perm_middle (l₁ := rlA g.2 qr (RI_ 12)) (a := jo_ qm qj (RI_ 12)) (l₂ := jbA g.2 qj (RI_ 12))).cons _).cons _) ?_
  exact hE _ _ (adr [b, qn, qm, qr 0, qr 1, qr 2, qr 3, qr 4, qr 5, qj 0, qj 1, qj 2, qj 3, qj 4, qj 5, qj 6, qj 7]) _ _ _ dX4_init_77 rfl rfl (Nat.le_of_ble_eq_true rfl) (Nat.le_of_ble_eq_true rfl)

set_option maxRecDepth 100000 in
set_option maxHeartbeats 4000000 in
theorem i_hist {g : zG} {b : Nat} : FV (S := Nat × (Nat → Nat → Nat)) g yX1_init cX1_init 2 3 103 1176 [.ref b] ([(b, .inr (1, [.null, .int 0, .int 0]))]) (fun _ => True) (fun S => hW g.2 (adr [b, S.1]) S.2 (nI 0) (nI 0) (fun _ => RI_ 12)) := by
  refine fv_entry (by decide) (Nat.le_of_ble_eq_true rfl) (fun C hC hm hn0 hE => ?_)
  refine z_aln (pc := 0) hC 0 rfl dX1_init_0 ?_
  refine z_objInit (pc := 1) hC (in_aw 175 (by decide +kernel) (by decide +kernel)) (by decide) dX1_init_1 (Nat.le_of_ble_eq_true rfl) ?_
  refine z_aln (pc := 4) hC 0 rfl dX1_init_4 ?_
  refine z_bipush (pc := 5) (v := nI 6) hC dX1_init_5 (by decide) ?_
  refine z_newq (pc := 7) hC (in_aw 176 (by decide +kernel) (by decide +kernel)) dX1_init_7 6 rfl (by decide) ⟨Nat.le_of_ble_eq_true rfl, Nat.le_of_ble_eq_true rfl⟩ (fun q => ?_)
  refine z_w (ws' := [(b, .inr (1, [.null, .int 0, .int 0])), (q, .inl (g.2 2, 6, .inr (.inr (.inr (.inr (fun _ => none))))))]) rfl ?_
  refine z_putQ (pc := 10) (ws' := [(b, .inr (1, [.ref q, .int 0, .int 0])), (q, .inl (g.2 2, 6, .inr (.inr (.inr (.inr (fun _ => none))))))]) hC hn0 fX1_11 (⟨(RX1, TX1, 3), tyX1, rfl, tyX1_ok, nmX1, rfl, rfl, by decide +kernel⟩ : fq 1 0 RX1 (.array (.object RX4))) rfl rfl 0 rfl (Nat.le_of_ble_eq_true rfl) rfl dX1_init_10 ?_
  refine z_aln (pc := 13) hC 0 rfl dX1_init_13 ?_
  refine z_iconst (pc := 14) (v := 0) hC dX1_init_14 (by decide) ?_
  refine z_put (pc := 15) (ws' := [(b, .inr (1, [.ref q, .int 0, .int 0])), (q, .inl (g.2 2, 6, .inr (.inr (.inr (.inr (fun _ => none))))))]) hC fX1_17 p1_1 0 rfl (Nat.le_of_ble_eq_true rfl) rfl dX1_init_15 ?_
  refine z_aln (pc := 18) hC 0 rfl dX1_init_18 ?_
  refine z_iconst (pc := 19) (v := 0) hC dX1_init_19 (by decide) ?_
  refine z_put (pc := 20) (ws' := [(b, .inr (1, [.ref q, .int 0, .int 0])), (q, .inl (g.2 2, 6, .inr (.inr (.inr (.inr (fun _ => none))))))]) hC fX1_21 p1_2 0 rfl (Nat.le_of_ble_eq_true rfl) rfl dX1_init_20 ?_
  refine z_iconst (pc := 23) (v := 0) hC dX1_init_23 (by decide) ?_
  refine z_isn (pc := 24) (lv' := [(1, .int 0), (0, .ref b)]) hC hm (by decide) rfl dX1_init_24 ?_
  refine z_iln (pc := 25) hC 0 rfl dX1_init_25 ?_
  refine z_bipush (pc := 26) (v := 6) hC dX1_init_26 (by decide) ?_
  refine z_icge (pc := 28) hC 50 (by decide) dX1_init_28 (fun c28 => absurd c28 (by decide)) (fun c28 => ?_)
  refine z_aln (pc := 31) hC 1 rfl dX1_init_31 ?_
  refine z_get (pc := 32) hC fX1_11 0 rfl rfl dX1_init_32 ?_
  refine z_iln (pc := 35) hC 0 rfl dX1_init_35 ?_
  refine z_new (pc := 36) (ci := 4) hC uX4 tyX4 tyX4_ok (in_aw 176 (by decide +kernel) (by decide +kernel)) (in_aw 25 (by decide +kernel) (by decide +kernel)) (in_aw 3 (by decide +kernel) (by decide +kernel)) rfl (fs := [.null, .null, .int 0, .int 0, .int 0, .int 0, .int 0, .int 0, .int 0, .int 0, .int 0, .int 0]) (fun j hj => by rcases (show j = 0 ∨ j = 1 ∨ j = 2 ∨ j = 3 ∨ j = 4 ∨ j = 5 ∨ j = 6 ∨ j = 7 ∨ j = 8 ∨ j = 9 ∨ j = 10 ∨ j = 11 by omega) with h | h | h | h | h | h | h | h | h | h | h | h <;> subst h <;> rfl) ⟨Nat.le_of_ble_eq_true rfl, Nat.le_of_ble_eq_true rfl⟩ dX1_init_36 (fun n0 => ?_)
  refine z_w (ws' := [(b, .inr (1, [.ref q, .int 0, .int 0])), (q, .inl (g.2 2, 6, .inr (.inr (.inr (.inr (fun _ => none)))))), (n0, .inr (4, [.null, .null, .int 0, .int 0, .int 0, .int 0, .int 0, .int 0, .int 0, .int 0, .int 0, .int 0]))]) rfl ?_
  refine z_dup (pc := 39) hC rfl dX1_init_39 ?_
  refine z_ivN (pc := 40) (rest := [.ref n0, .int 0, .ref q]) hC iX4_init nX1_24 dX1_init_40 i_room ([(b, .inr (1, [.ref q, .int 0, .int 0])), (q, .inl (g.2 2, 6, .inr (.inr (.inr (.inr (fun _ => none))))))]) [] rfl rfl rfl (by decide) (Nat.le_of_ble_eq_true rfl) ⟨Nat.le_of_ble_eq_true rfl, Nat.le_of_ble_eq_true rfl⟩ (fun a0 ha0 => ?_)
  subst ha0
  refine z_w (ws' := [(b, .inr (1, [.ref q, .int 0, .int 0])), (q, .inl (g.2 2, 6, .inr (.inr (.inr (.inr (fun _ => none))))))] ++ (rW g.2 a0 (RI_ 12))) (by rw [List.append_nil]; try rfl) ?_
  refine z_aast (pc := 43) (ws' := [(b, .inr (1, [.ref q, .int 0, .int 0])), (q, .inl (g.2 2, 6, .inr (.inr (.inr (.inr (va_up (fun _ => none) 0 (some (a0 0))))))))] ++ (rW g.2 a0 (RI_ 12))) hC 1 2 rfl rfl dX1_init_43 0 rfl (by decide) (by decide) rfl ?_
  refine z_iinc (pc := 44) (v := 1) (j := 0) (lv' := [(1, .int 1), (0, .ref b)]) hC hm (by decide) rfl (by decide) rfl dX1_init_44 ?_
  refine z_goto (pc := 47) hC 25 (by decide) dX1_init_47 ?_
  refine z_iln (pc := 25) hC 0 rfl dX1_init_25 ?_
  refine z_bipush (pc := 26) (v := 6) hC dX1_init_26 (by decide) ?_
  refine z_icge (pc := 28) hC 50 (by decide) dX1_init_28 (fun c28 => absurd c28 (by decide)) (fun c28 => ?_)
  refine z_aln (pc := 31) hC 1 rfl dX1_init_31 ?_
  refine z_get (pc := 32) hC fX1_11 0 rfl rfl dX1_init_32 ?_
  refine z_iln (pc := 35) hC 0 rfl dX1_init_35 ?_
  refine z_new (pc := 36) (ci := 4) hC uX4 tyX4 tyX4_ok (in_aw 176 (by decide +kernel) (by decide +kernel)) (in_aw 25 (by decide +kernel) (by decide +kernel)) (in_aw 3 (by decide +kernel) (by decide +kernel)) rfl (fs := [.null, .null, .int 0, .int 0, .int 0, .int 0, .int 0, .int 0, .int 0, .int 0, .int 0, .int 0]) (fun j hj => by rcases (show j = 0 ∨ j = 1 ∨ j = 2 ∨ j = 3 ∨ j = 4 ∨ j = 5 ∨ j = 6 ∨ j = 7 ∨ j = 8 ∨ j = 9 ∨ j = 10 ∨ j = 11 by omega) with h | h | h | h | h | h | h | h | h | h | h | h <;> subst h <;> rfl) ⟨Nat.le_of_ble_eq_true rfl, Nat.le_of_ble_eq_true rfl⟩ dX1_init_36 (fun n1 => ?_)
  refine z_w (ws' := [(b, .inr (1, [.ref q, .int 0, .int 0])), (q, .inl (g.2 2, 6, .inr (.inr (.inr (.inr (va_up (fun _ => none) 0 (some (a0 0))))))))] ++ (rW g.2 a0 (RI_ 12) ++ ([(n1, .inr (4, [.null, .null, .int 0, .int 0, .int 0, .int 0, .int 0, .int 0, .int 0, .int 0, .int 0, .int 0]))]))) rfl ?_
  refine z_dup (pc := 39) hC rfl dX1_init_39 ?_
  refine z_ivN (pc := 40) (rest := [.ref n1, .int 1, .ref q]) hC iX4_init nX1_24 dX1_init_40 i_room ([(b, .inr (1, [.ref q, .int 0, .int 0])), (q, .inl (g.2 2, 6, .inr (.inr (.inr (.inr (va_up (fun _ => none) 0 (some (a0 0))))))))] ++ (rW g.2 a0 (RI_ 12))) [] rfl rfl rfl (by decide) (Nat.le_of_ble_eq_true rfl) ⟨Nat.le_of_ble_eq_true rfl, Nat.le_of_ble_eq_true rfl⟩ (fun a1 ha1 => ?_)
  subst ha1
  refine z_w (ws' := [(b, .inr (1, [.ref q, .int 0, .int 0])), (q, .inl (g.2 2, 6, .inr (.inr (.inr (.inr (va_up (fun _ => none) 0 (some (a0 0))))))))] ++ (rW g.2 a0 (RI_ 12) ++ (rW g.2 a1 (RI_ 12)))) (by rw [List.append_nil]; try rfl) ?_
  refine z_aast (pc := 43) (ws' := [(b, .inr (1, [.ref q, .int 0, .int 0])), (q, .inl (g.2 2, 6, .inr (.inr (.inr (.inr (va_up (va_up (fun _ => none) 0 (some (a0 0))) 1 (some (a1 0))))))))] ++ (rW g.2 a0 (RI_ 12) ++ (rW g.2 a1 (RI_ 12)))) hC 1 19 rfl rfl dX1_init_43 1 rfl (by decide) (by decide) rfl ?_
  refine z_iinc (pc := 44) (v := 2) (j := 0) (lv' := [(1, .int 2), (0, .ref b)]) hC hm (by decide) rfl (by decide) rfl dX1_init_44 ?_
  refine z_goto (pc := 47) hC 25 (by decide) dX1_init_47 ?_
  refine z_iln (pc := 25) hC 0 rfl dX1_init_25 ?_
  refine z_bipush (pc := 26) (v := 6) hC dX1_init_26 (by decide) ?_
  refine z_icge (pc := 28) hC 50 (by decide) dX1_init_28 (fun c28 => absurd c28 (by decide)) (fun c28 => ?_)
  refine z_aln (pc := 31) hC 1 rfl dX1_init_31 ?_
  refine z_get (pc := 32) hC fX1_11 0 rfl rfl dX1_init_32 ?_
  refine z_iln (pc := 35) hC 0 rfl dX1_init_35 ?_
  refine z_new (pc := 36) (ci := 4) hC uX4 tyX4 tyX4_ok (in_aw 176 (by decide +kernel) (by decide +kernel)) (in_aw 25 (by decide +kernel) (by decide +kernel)) (in_aw 3 (by decide +kernel) (by decide +kernel)) rfl (fs := [.null, .null, .int 0, .int 0, .int 0, .int 0, .int 0, .int 0, .int 0, .int 0, .int 0, .int 0]) (fun j hj => by rcases (show j = 0 ∨ j = 1 ∨ j = 2 ∨ j = 3 ∨ j = 4 ∨ j = 5 ∨ j = 6 ∨ j = 7 ∨ j = 8 ∨ j = 9 ∨ j = 10 ∨ j = 11 by omega) with h | h | h | h | h | h | h | h | h | h | h | h <;> subst h <;> rfl) ⟨Nat.le_of_ble_eq_true rfl, Nat.le_of_ble_eq_true rfl⟩ dX1_init_36 (fun n2 => ?_)
  refine z_w (ws' := [(b, .inr (1, [.ref q, .int 0, .int 0])), (q, .inl (g.2 2, 6, .inr (.inr (.inr (.inr (va_up (va_up (fun _ => none) 0 (some (a0 0))) 1 (some (a1 0))))))))] ++ (rW g.2 a0 (RI_ 12) ++ (rW g.2 a1 (RI_ 12) ++ ([(n2, .inr (4, [.null, .null, .int 0, .int 0, .int 0, .int 0, .int 0, .int 0, .int 0, .int 0, .int 0, .int 0]))])))) rfl ?_
  refine z_dup (pc := 39) hC rfl dX1_init_39 ?_
  refine z_ivN (pc := 40) (rest := [.ref n2, .int 2, .ref q]) hC iX4_init nX1_24 dX1_init_40 i_room ([(b, .inr (1, [.ref q, .int 0, .int 0])), (q, .inl (g.2 2, 6, .inr (.inr (.inr (.inr (va_up (va_up (fun _ => none) 0 (some (a0 0))) 1 (some (a1 0))))))))] ++ (rW g.2 a0 (RI_ 12) ++ (rW g.2 a1 (RI_ 12)))) [] rfl rfl rfl (by decide) (Nat.le_of_ble_eq_true rfl) ⟨Nat.le_of_ble_eq_true rfl, Nat.le_of_ble_eq_true rfl⟩ (fun a2 ha2 => ?_)
  subst ha2
  refine z_w (ws' := [(b, .inr (1, [.ref q, .int 0, .int 0])), (q, .inl (g.2 2, 6, .inr (.inr (.inr (.inr (va_up (va_up (fun _ => none) 0 (some (a0 0))) 1 (some (a1 0))))))))] ++ (rW g.2 a0 (RI_ 12) ++ (rW g.2 a1 (RI_ 12) ++ (rW g.2 a2 (RI_ 12))))) (by rw [List.append_nil]; try rfl) ?_
  refine z_aast (pc := 43) (ws' := [(b, .inr (1, [.ref q, .int 0, .int 0])), (q, .inl (g.2 2, 6, .inr (.inr (.inr (.inr (va_up (va_up (va_up (fun _ => none) 0 (some (a0 0))) 1 (some (a1 0))) 2 (some (a2 0))))))))] ++ (rW g.2 a0 (RI_ 12) ++ (rW g.2 a1 (RI_ 12) ++ (rW g.2 a2 (RI_ 12))))) hC 1 36 rfl rfl dX1_init_43 2 rfl (by decide) (by decide) rfl ?_
  refine z_iinc (pc := 44) (v := 3) (j := 0) (lv' := [(1, .int 3), (0, .ref b)]) hC hm (by decide) rfl (by decide) rfl dX1_init_44 ?_
  refine z_goto (pc := 47) hC 25 (by decide) dX1_init_47 ?_
  refine z_iln (pc := 25) hC 0 rfl dX1_init_25 ?_
  refine z_bipush (pc := 26) (v := 6) hC dX1_init_26 (by decide) ?_
  refine z_icge (pc := 28) hC 50 (by decide) dX1_init_28 (fun c28 => absurd c28 (by decide)) (fun c28 => ?_)
  refine z_aln (pc := 31) hC 1 rfl dX1_init_31 ?_
  refine z_get (pc := 32) hC fX1_11 0 rfl rfl dX1_init_32 ?_
  refine z_iln (pc := 35) hC 0 rfl dX1_init_35 ?_
  refine z_new (pc := 36) (ci := 4) hC uX4 tyX4 tyX4_ok (in_aw 176 (by decide +kernel) (by decide +kernel)) (in_aw 25 (by decide +kernel) (by decide +kernel)) (in_aw 3 (by decide +kernel) (by decide +kernel)) rfl (fs := [.null, .null, .int 0, .int 0, .int 0, .int 0, .int 0, .int 0, .int 0, .int 0, .int 0, .int 0]) (fun j hj => by rcases (show j = 0 ∨ j = 1 ∨ j = 2 ∨ j = 3 ∨ j = 4 ∨ j = 5 ∨ j = 6 ∨ j = 7 ∨ j = 8 ∨ j = 9 ∨ j = 10 ∨ j = 11 by omega) with h | h | h | h | h | h | h | h | h | h | h | h <;> subst h <;> rfl) ⟨Nat.le_of_ble_eq_true rfl, Nat.le_of_ble_eq_true rfl⟩ dX1_init_36 (fun n3 => ?_)
  refine z_w (ws' := [(b, .inr (1, [.ref q, .int 0, .int 0])), (q, .inl (g.2 2, 6, .inr (.inr (.inr (.inr (va_up (va_up (va_up (fun _ => none) 0 (some (a0 0))) 1 (some (a1 0))) 2 (some (a2 0))))))))] ++ (rW g.2 a0 (RI_ 12) ++ (rW g.2 a1 (RI_ 12) ++ (rW g.2 a2 (RI_ 12) ++ ([(n3, .inr (4, [.null, .null, .int 0, .int 0, .int 0, .int 0, .int 0, .int 0, .int 0, .int 0, .int 0, .int 0]))]))))) rfl ?_
  refine z_dup (pc := 39) hC rfl dX1_init_39 ?_
  refine z_ivN (pc := 40) (rest := [.ref n3, .int 3, .ref q]) hC iX4_init nX1_24 dX1_init_40 i_room ([(b, .inr (1, [.ref q, .int 0, .int 0])), (q, .inl (g.2 2, 6, .inr (.inr (.inr (.inr (va_up (va_up (va_up (fun _ => none) 0 (some (a0 0))) 1 (some (a1 0))) 2 (some (a2 0))))))))] ++ (rW g.2 a0 (RI_ 12) ++ (rW g.2 a1 (RI_ 12) ++ (rW g.2 a2 (RI_ 12))))) [] rfl rfl rfl (by decide) (Nat.le_of_ble_eq_true rfl) ⟨Nat.le_of_ble_eq_true rfl, Nat.le_of_ble_eq_true rfl⟩ (fun a3 ha3 => ?_)
  subst ha3
  refine z_w (ws' := [(b, .inr (1, [.ref q, .int 0, .int 0])), (q, .inl (g.2 2, 6, .inr (.inr (.inr (.inr (va_up (va_up (va_up (fun _ => none) 0 (some (a0 0))) 1 (some (a1 0))) 2 (some (a2 0))))))))] ++ (rW g.2 a0 (RI_ 12) ++ (rW g.2 a1 (RI_ 12) ++ (rW g.2 a2 (RI_ 12) ++ (rW g.2 a3 (RI_ 12)))))) (by rw [List.append_nil]; try rfl) ?_
  refine z_aast (pc := 43) (ws' := [(b, .inr (1, [.ref q, .int 0, .int 0])), (q, .inl (g.2 2, 6, .inr (.inr (.inr (.inr (va_up (va_up (va_up (va_up (fun _ => none) 0 (some (a0 0))) 1 (some (a1 0))) 2 (some (a2 0))) 3 (some (a3 0))))))))] ++ (rW g.2 a0 (RI_ 12) ++ (rW g.2 a1 (RI_ 12) ++ (rW g.2 a2 (RI_ 12) ++ (rW g.2 a3 (RI_ 12)))))) hC 1 53 rfl rfl dX1_init_43 3 rfl (by decide) (by decide) rfl ?_
  refine z_iinc (pc := 44) (v := 4) (j := 0) (lv' := [(1, .int 4), (0, .ref b)]) hC hm (by decide) rfl (by decide) rfl dX1_init_44 ?_
  refine z_goto (pc := 47) hC 25 (by decide) dX1_init_47 ?_
  refine z_iln (pc := 25) hC 0 rfl dX1_init_25 ?_
  refine z_bipush (pc := 26) (v := 6) hC dX1_init_26 (by decide) ?_
  refine z_icge (pc := 28) hC 50 (by decide) dX1_init_28 (fun c28 => absurd c28 (by decide)) (fun c28 => ?_)
  refine z_aln (pc := 31) hC 1 rfl dX1_init_31 ?_
  refine z_get (pc := 32) hC fX1_11 0 rfl rfl dX1_init_32 ?_
  refine z_iln (pc := 35) hC 0 rfl dX1_init_35 ?_
  refine z_new (pc := 36) (ci := 4) hC uX4 tyX4 tyX4_ok (in_aw 176 (by decide +kernel) (by decide +kernel)) (in_aw 25 (by decide +kernel) (by decide +kernel)) (in_aw 3 (by decide +kernel) (by decide +kernel)) rfl (fs := [.null, .null, .int 0, .int 0, .int 0, .int 0, .int 0, .int 0, .int 0, .int 0, .int 0, .int 0]) (fun j hj => by rcases (show j = 0 ∨ j = 1 ∨ j = 2 ∨ j = 3 ∨ j = 4 ∨ j = 5 ∨ j = 6 ∨ j = 7 ∨ j = 8 ∨ j = 9 ∨ j = 10 ∨ j = 11 by omega) with h | h | h | h | h | h | h | h | h | h | h | h <;> subst h <;> rfl) ⟨Nat.le_of_ble_eq_true rfl, Nat.le_of_ble_eq_true rfl⟩ dX1_init_36 (fun n4 => ?_)
  refine z_w (ws' := [(b, .inr (1, [.ref q, .int 0, .int 0])), (q, .inl (g.2 2, 6, .inr (.inr (.inr (.inr (va_up (va_up (va_up (va_up (fun _ => none) 0 (some (a0 0))) 1 (some (a1 0))) 2 (some (a2 0))) 3 (some (a3 0))))))))] ++ (rW g.2 a0 (RI_ 12) ++ (rW g.2 a1 (RI_ 12) ++ (rW g.2 a2 (RI_ 12) ++ (rW g.2 a3 (RI_ 12) ++ ([(n4, .inr (4, [.null, .null, .int 0, .int 0, .int 0, .int 0, .int 0, .int 0, .int 0, .int 0, .int 0, .int 0]))])))))) rfl ?_
  refine z_dup (pc := 39) hC rfl dX1_init_39 ?_
  refine z_ivN (pc := 40) (rest := [.ref n4, .int 4, .ref q]) hC iX4_init nX1_24 dX1_init_40 i_room ([(b, .inr (1, [.ref q, .int 0, .int 0])), (q, .inl (g.2 2, 6, .inr (.inr (.inr (.inr (va_up (va_up (va_up (va_up (fun _ => none) 0 (some (a0 0))) 1 (some (a1 0))) 2 (some (a2 0))) 3 (some (a3 0))))))))] ++ (rW g.2 a0 (RI_ 12) ++ (rW g.2 a1 (RI_ 12) ++ (rW g.2 a2 (RI_ 12) ++ (rW g.2 a3 (RI_ 12)))))) [] rfl rfl rfl (by decide) (Nat.le_of_ble_eq_true rfl) ⟨Nat.le_of_ble_eq_true rfl, Nat.le_of_ble_eq_true rfl⟩ (fun a4 ha4 => ?_)
  subst ha4
  refine z_w (ws' := [(b, .inr (1, [.ref q, .int 0, .int 0])), (q, .inl (g.2 2, 6, .inr (.inr (.inr (.inr (va_up (va_up (va_up (va_up (fun _ => none) 0 (some (a0 0))) 1 (some (a1 0))) 2 (some (a2 0))) 3 (some (a3 0))))))))] ++ (rW g.2 a0 (RI_ 12) ++ (rW g.2 a1 (RI_ 12) ++ (rW g.2 a2 (RI_ 12) ++ (rW g.2 a3 (RI_ 12) ++ (rW g.2 a4 (RI_ 12))))))) (by rw [List.append_nil]; try rfl) ?_
  refine z_aast (pc := 43) (ws' := [(b, .inr (1, [.ref q, .int 0, .int 0])), (q, .inl (g.2 2, 6, .inr (.inr (.inr (.inr (va_up (va_up (va_up (va_up (va_up (fun _ => none) 0 (some (a0 0))) 1 (some (a1 0))) 2 (some (a2 0))) 3 (some (a3 0))) 4 (some (a4 0))))))))] ++ (rW g.2 a0 (RI_ 12) ++ (rW g.2 a1 (RI_ 12) ++ (rW g.2 a2 (RI_ 12) ++ (rW g.2 a3 (RI_ 12) ++ (rW g.2 a4 (RI_ 12))))))) hC 1 70 rfl rfl dX1_init_43 4 rfl (by decide) (by decide) rfl ?_
  refine z_iinc (pc := 44) (v := 5) (j := 0) (lv' := [(1, .int 5), (0, .ref b)]) hC hm (by decide) rfl (by decide) rfl dX1_init_44 ?_
  refine z_goto (pc := 47) hC 25 (by decide) dX1_init_47 ?_
  refine z_iln (pc := 25) hC 0 rfl dX1_init_25 ?_
  refine z_bipush (pc := 26) (v := 6) hC dX1_init_26 (by decide) ?_
  refine z_icge (pc := 28) hC 50 (by decide) dX1_init_28 (fun c28 => absurd c28 (by decide)) (fun c28 => ?_)
  refine z_aln (pc := 31) hC 1 rfl dX1_init_31 ?_
  refine z_get (pc := 32) hC fX1_11 0 rfl rfl dX1_init_32 ?_
  refine z_iln (pc := 35) hC 0 rfl dX1_init_35 ?_
  refine z_new (pc := 36) (ci := 4) hC uX4 tyX4 tyX4_ok (in_aw 176 (by decide +kernel) (by decide +kernel)) (in_aw 25 (by decide +kernel) (by decide +kernel)) (in_aw 3 (by decide +kernel) (by decide +kernel)) rfl (fs := [.null, .null, .int 0, .int 0, .int 0, .int 0, .int 0, .int 0, .int 0, .int 0, .int 0, .int 0]) (fun j hj => by rcases (show j = 0 ∨ j = 1 ∨ j = 2 ∨ j = 3 ∨ j = 4 ∨ j = 5 ∨ j = 6 ∨ j = 7 ∨ j = 8 ∨ j = 9 ∨ j = 10 ∨ j = 11 by omega) with h | h | h | h | h | h | h | h | h | h | h | h <;> subst h <;> rfl) ⟨Nat.le_of_ble_eq_true rfl, Nat.le_of_ble_eq_true rfl⟩ dX1_init_36 (fun n5 => ?_)
  refine z_w (ws' := [(b, .inr (1, [.ref q, .int 0, .int 0])), (q, .inl (g.2 2, 6, .inr (.inr (.inr (.inr (va_up (va_up (va_up (va_up (va_up (fun _ => none) 0 (some (a0 0))) 1 (some (a1 0))) 2 (some (a2 0))) 3 (some (a3 0))) 4 (some (a4 0))))))))] ++ (rW g.2 a0 (RI_ 12) ++ (rW g.2 a1 (RI_ 12) ++ (rW g.2 a2 (RI_ 12) ++ (rW g.2 a3 (RI_ 12) ++ (rW g.2 a4 (RI_ 12) ++ ([(n5, .inr (4, [.null, .null, .int 0, .int 0, .int 0, .int 0, .int 0, .int 0, .int 0, .int 0, .int 0, .int 0]))]))))))) rfl ?_
  refine z_dup (pc := 39) hC rfl dX1_init_39 ?_
  refine z_ivN (pc := 40) (rest := [.ref n5, .int 5, .ref q]) hC iX4_init nX1_24 dX1_init_40 i_room ([(b, .inr (1, [.ref q, .int 0, .int 0])), (q, .inl (g.2 2, 6, .inr (.inr (.inr (.inr (va_up (va_up (va_up (va_up (va_up (fun _ => none) 0 (some (a0 0))) 1 (some (a1 0))) 2 (some (a2 0))) 3 (some (a3 0))) 4 (some (a4 0))))))))] ++ (rW g.2 a0 (RI_ 12) ++ (rW g.2 a1 (RI_ 12) ++ (rW g.2 a2 (RI_ 12) ++ (rW g.2 a3 (RI_ 12) ++ (rW g.2 a4 (RI_ 12))))))) [] rfl rfl rfl (by decide) (Nat.le_of_ble_eq_true rfl) ⟨Nat.le_of_ble_eq_true rfl, Nat.le_of_ble_eq_true rfl⟩ (fun a5 ha5 => ?_)
  subst ha5
  refine z_w (ws' := [(b, .inr (1, [.ref q, .int 0, .int 0])), (q, .inl (g.2 2, 6, .inr (.inr (.inr (.inr (va_up (va_up (va_up (va_up (va_up (fun _ => none) 0 (some (a0 0))) 1 (some (a1 0))) 2 (some (a2 0))) 3 (some (a3 0))) 4 (some (a4 0))))))))] ++ (rW g.2 a0 (RI_ 12) ++ (rW g.2 a1 (RI_ 12) ++ (rW g.2 a2 (RI_ 12) ++ (rW g.2 a3 (RI_ 12) ++ (rW g.2 a4 (RI_ 12) ++ (rW g.2 a5 (RI_ 12)))))))) (by rw [List.append_nil]; try rfl) ?_
  refine z_aast (pc := 43) (ws' := [(b, .inr (1, [.ref q, .int 0, .int 0])), (q, .inl (g.2 2, 6, .inr (.inr (.inr (.inr (va_up (va_up (va_up (va_up (va_up (va_up (fun _ => none) 0 (some (a0 0))) 1 (some (a1 0))) 2 (some (a2 0))) 3 (some (a3 0))) 4 (some (a4 0))) 5 (some (a5 0))))))))] ++ (rW g.2 a0 (RI_ 12) ++ (rW g.2 a1 (RI_ 12) ++ (rW g.2 a2 (RI_ 12) ++ (rW g.2 a3 (RI_ 12) ++ (rW g.2 a4 (RI_ 12) ++ (rW g.2 a5 (RI_ 12)))))))) hC 1 87 rfl rfl dX1_init_43 5 rfl (by decide) (by decide) rfl ?_
  refine z_iinc (pc := 44) (v := 6) (j := 0) (lv' := [(1, .int 6), (0, .ref b)]) hC hm (by decide) rfl (by decide) rfl dX1_init_44 ?_
  refine z_goto (pc := 47) hC 25 (by decide) dX1_init_47 ?_
  refine z_iln (pc := 25) hC 0 rfl dX1_init_25 ?_
  refine z_bipush (pc := 26) (v := 6) hC dX1_init_26 (by decide) ?_
  refine z_icge (pc := 28) hC 50 (by decide) dX1_init_28 (fun c28 => ?_) (fun c28 => absurd c28 (by decide))
  refine z_cellq 1 (f' := fun k => some ((fun k => [a0, a1, a2, a3, a4, a5].getD k a0) k 0)) (ws' := hW g.2 (adr [b, q]) (fun k => [a0, a1, a2, a3, a4, a5].getD k a0) (nI 0) (nI 0) (fun _ => RI_ 12)) rfl (fun j hj => by rcases (show j = 0 ∨ j = 1 ∨ j = 2 ∨ j = 3 ∨ j = 4 ∨ j = 5 by omega) with h | h | h | h | h | h <;> subst h <;> rfl) rfl ?_
  exact hE _ _ (q, (fun k => [a0, a1, a2, a3, a4, a5].getD k a0)) _ _ _ dX1_init_50 trivial rfl (Nat.le_of_ble_eq_true rfl) (Nat.le_of_ble_eq_true rfl)

theorem perm4 (A C H W : va_W) : (A ++ (C ++ (H ++ W))).Perm (W ++ (C ++ (A ++ H))) := by
  have e : A ++ (C ++ (H ++ W)) = (A ++ (C ++ H)) ++ W := by simp [List.append_assoc]
  rw [e]
  exact List.perm_append_comm.trans (List.Perm.append_left _ (List.perm_append_comm_assoc _ _ _))
abbrev XA : Type := (Nat → Nat) × (Nat → Nat) × (Nat → Nat) × (Nat → Nat) × (Nat → Nat → Nat)

set_option maxRecDepth 100000 in
set_option maxHeartbeats 4000000 in
theorem i_console {g : zG} {b : Nat} : FV (S := XA) g yX5_init cX5_init 1 4 140 1657 [.ref b] ([(b, .inr (5, [.null, .null, .null, .null]))]) (fun _ => True) (fun S => xW g.2 b S.1 S.2.1 S.2.2.1 S.2.2.2.1 S.2.2.2.2 (fun _ => 0) (fun _ => 0) (RI_ 12) (RI_ 12) (nI 0) (nI 0) (fun _ => RI_ 12)) := by
  refine fv_entry (by decide) (Nat.le_of_ble_eq_true rfl) (fun C hC hm hn0 hE => ?_)
  refine z_aln (pc := 0) hC 0 rfl dX5_init_0 ?_
  refine z_objInit (pc := 1) hC (in_aw 21 (by decide +kernel) (by decide +kernel)) (by decide) dX5_init_1 (Nat.le_of_ble_eq_true rfl) ?_
  refine z_aln (pc := 4) hC 0 rfl dX5_init_4 ?_
  refine z_new (pc := 5) (ci := 4) hC uX4 tyX4 tyX4_ok (in_aw 24 (by decide +kernel) (by decide +kernel)) (in_aw 25 (by decide +kernel) (by decide +kernel)) (in_aw 3 (by decide +kernel) (by decide +kernel)) rfl (fs := [.null, .null, .int 0, .int 0, .int 0, .int 0, .int 0, .int 0, .int 0, .int 0, .int 0, .int 0]) (fun j hj => by rcases (show j = 0 ∨ j = 1 ∨ j = 2 ∨ j = 3 ∨ j = 4 ∨ j = 5 ∨ j = 6 ∨ j = 7 ∨ j = 8 ∨ j = 9 ∨ j = 10 ∨ j = 11 by omega) with h | h | h | h | h | h | h | h | h | h | h | h <;> subst h <;> rfl) ⟨Nat.le_of_ble_eq_true rfl, Nat.le_of_ble_eq_true rfl⟩ dX5_init_5 (fun n0 => ?_)
  refine z_w (ws' := [(b, .inr (5, [.null, .null, .null, .null])), (n0, .inr (4, [.null, .null, .int 0, .int 0, .int 0, .int 0, .int 0, .int 0, .int 0, .int 0, .int 0, .int 0]))]) rfl ?_
  refine z_dup (pc := 8) hC rfl dX5_init_8 ?_
  refine z_ivN (pc := 9) (rest := [.ref n0, .ref b]) hC iX4_init nX5_9 dX5_init_9 i_room ([(b, .inr (5, [.null, .null, .null, .null]))]) [] rfl rfl rfl (by decide) (Nat.le_of_ble_eq_true rfl) ⟨Nat.le_of_ble_eq_true rfl, Nat.le_of_ble_eq_true rfl⟩ (fun a ha => ?_)
  subst ha
  refine z_w (ws' := [(b, .inr (5, [.null, .null, .null, .null]))] ++ (rW g.2 a (RI_ 12))) (by rw [List.append_nil]; try rfl) ?_
  refine z_putQ (pc := 12) (ws' := [(b, .inr (5, [.ref (a 0), .null, .null, .null]))] ++ (rW g.2 a (RI_ 12))) hC hn0 fX5_10 (⟨(RX5, TX5, 4), tyX5, rfl, tyX5_ok, nmX5, rfl, rfl, by decide +kernel⟩ : fq 5 0 RX5 (.object RX4)) rfl rfl 0 rfl (Nat.le_of_ble_eq_true rfl) rfl dX5_init_12 ?_
  refine z_aln (pc := 15) hC 0 rfl dX5_init_15 ?_
  refine z_new (pc := 16) (ci := 4) hC uX4 tyX4 tyX4_ok (in_aw 24 (by decide +kernel) (by decide +kernel)) (in_aw 25 (by decide +kernel) (by decide +kernel)) (in_aw 3 (by decide +kernel) (by decide +kernel)) rfl (fs := [.null, .null, .int 0, .int 0, .int 0, .int 0, .int 0, .int 0, .int 0, .int 0, .int 0, .int 0]) (fun j hj => by rcases (show j = 0 ∨ j = 1 ∨ j = 2 ∨ j = 3 ∨ j = 4 ∨ j = 5 ∨ j = 6 ∨ j = 7 ∨ j = 8 ∨ j = 9 ∨ j = 10 ∨ j = 11 by omega) with h | h | h | h | h | h | h | h | h | h | h | h <;> subst h <;> rfl) ⟨Nat.le_of_ble_eq_true rfl, Nat.le_of_ble_eq_true rfl⟩ dX5_init_16 (fun n1 => ?_)
  refine z_w (ws' := [(b, .inr (5, [.ref (a 0), .null, .null, .null]))] ++ (rW g.2 a (RI_ 12) ++ ([(n1, .inr (4, [.null, .null, .int 0, .int 0, .int 0, .int 0, .int 0, .int 0, .int 0, .int 0, .int 0, .int 0]))]))) rfl ?_
  refine z_dup (pc := 19) hC rfl dX5_init_19 ?_
  refine z_ivN (pc := 20) (rest := [.ref n1, .ref b]) hC iX4_init nX5_9 dX5_init_20 i_room ([(b, .inr (5, [.ref (a 0), .null, .null, .null]))] ++ (rW g.2 a (RI_ 12))) [] rfl rfl rfl (by decide) (Nat.le_of_ble_eq_true rfl) ⟨Nat.le_of_ble_eq_true rfl, Nat.le_of_ble_eq_true rfl⟩ (fun c hc => ?_)
  subst hc
  refine z_w (ws' := [(b, .inr (5, [.ref (a 0), .null, .null, .null]))] ++ (rW g.2 a (RI_ 12) ++ (rW g.2 c (RI_ 12)))) (by rw [List.append_nil]; try rfl) ?_
  refine z_putQ (pc := 23) (ws' := [(b, .inr (5, [.ref (a 0), .ref (c 0), .null, .null]))] ++ (rW g.2 a (RI_ 12) ++ (rW g.2 c (RI_ 12)))) hC hn0 fX5_16 (⟨(RX5, TX5, 4), tyX5, rfl, tyX5_ok, nmX5, rfl, rfl, by decide +kernel⟩ : fq 5 1 RX5 (.object RX4)) rfl rfl 0 rfl (Nat.le_of_ble_eq_true rfl) rfl dX5_init_23 ?_
  refine z_aln (pc := 26) hC 0 rfl dX5_init_26 ?_
  refine z_new (pc := 27) (ci := 1) hC uX1 tyX1 tyX1_ok (in_aw 170 (by decide +kernel) (by decide +kernel)) (in_aw 171 (by decide +kernel) (by decide +kernel)) (in_aw 6 (by decide +kernel) (by decide +kernel)) rfl (fs := [.null, .int 0, .int 0]) (fun j hj => by rcases (show j = 0 ∨ j = 1 ∨ j = 2 by omega) with h | h | h <;> subst h <;> rfl) ⟨Nat.le_of_ble_eq_true rfl, Nat.le_of_ble_eq_true rfl⟩ dX5_init_27 (fun qh => ?_)
  refine z_w (ws' := [(b, .inr (5, [.ref (a 0), .ref (c 0), .null, .null]))] ++ (rW g.2 a (RI_ 12) ++ (rW g.2 c (RI_ 12) ++ ([(qh, .inr (1, [.null, .int 0, .int 0]))])))) rfl ?_
  refine z_dup (pc := 30) hC rfl dX5_init_30 ?_
  refine z_iv (pc := 31) (rest := [.ref qh, .ref b]) hC iX1_init lX5_21 dX5_init_31 i_hist ([(b, .inr (5, [.ref (a 0), .ref (c 0), .null, .null]))] ++ (rW g.2 a (RI_ 12) ++ (rW g.2 c (RI_ 12)))) [] rfl rfl rfl (by decide) (Nat.le_of_ble_eq_true rfl) ⟨Nat.le_of_ble_eq_true rfl, Nat.le_of_ble_eq_true rfl⟩ (fun y _ => ?_)
  refine z_w (ws' := [(b, .inr (5, [.ref (a 0), .ref (c 0), .null, .null]))] ++ (rW g.2 a (RI_ 12) ++ (rW g.2 c (RI_ 12) ++ (hW g.2 (adr [qh, y.1]) y.2 (nI 0) (nI 0) (fun _ => RI_ 12))))) (by rw [List.append_nil]; try rfl) ?_
  refine z_putQ (pc := 34) (ws' := [(b, .inr (5, [.ref (a 0), .ref (c 0), .ref qh, .null]))] ++ (rW g.2 a (RI_ 12) ++ (rW g.2 c (RI_ 12) ++ (hW g.2 (adr [qh, y.1]) y.2 (nI 0) (nI 0) (fun _ => RI_ 12))))) hC hn0 fX5_22 (⟨(RX5, TX5, 4), tyX5, rfl, tyX5_ok, nmX5, rfl, rfl, by decide +kernel⟩ : fq 5 2 RX5 (.object RX1)) rfl rfl 0 rfl (Nat.le_of_ble_eq_true rfl) rfl dX5_init_34 ?_
  refine z_aln (pc := 37) hC 0 rfl dX5_init_37 ?_
  refine z_new (pc := 38) (ci := 0) hC uX0 tyX0 tyX0_ok (in_aw 189 (by decide +kernel) (by decide +kernel)) (in_aw 190 (by decide +kernel) (by decide +kernel)) (in_aw 7 (by decide +kernel) (by decide +kernel)) rfl (fs := [.null, .int 0, .int 0, .int 0, .int 0, .int 0, .int 0, .int 0]) (fun j hj => by rcases (show j = 0 ∨ j = 1 ∨ j = 2 ∨ j = 3 ∨ j = 4 ∨ j = 5 ∨ j = 6 ∨ j = 7 by omega) with h | h | h | h | h | h | h | h <;> subst h <;> rfl) ⟨Nat.le_of_ble_eq_true rfl, Nat.le_of_ble_eq_true rfl⟩ dX5_init_38 (fun qt => ?_)
  refine z_w (ws' := [(b, .inr (5, [.ref (a 0), .ref (c 0), .ref qh, .null]))] ++ (rW g.2 a (RI_ 12) ++ (rW g.2 c (RI_ 12) ++ (hW g.2 (adr [qh, y.1]) y.2 (nI 0) (nI 0) (fun _ => RI_ 12) ++ ([(qt, .inr (0, [.null, .int 0, .int 0, .int 0, .int 0, .int 0, .int 0, .int 0]))]))))) rfl ?_
  refine z_dup (pc := 41) hC rfl dX5_init_41 ?_
  refine z_ivN (pc := 42) (rest := [.ref qt, .ref b]) hC iX0_init nX5_28 dX5_init_42 i_text ([(b, .inr (5, [.ref (a 0), .ref (c 0), .ref qh, .null]))] ++ (rW g.2 a (RI_ 12) ++ (rW g.2 c (RI_ 12) ++ (hW g.2 (adr [qh, y.1]) y.2 (nI 0) (nI 0) (fun _ => RI_ 12))))) [] rfl rfl rfl (by decide) (Nat.le_of_ble_eq_true rfl) ⟨Nat.le_of_ble_eq_true rfl, Nat.le_of_ble_eq_true rfl⟩ (fun z _ => ?_)
  refine z_w (ws' := [(b, .inr (5, [.ref (a 0), .ref (c 0), .ref qh, .null]))] ++ (rW g.2 a (RI_ 12) ++ (rW g.2 c (RI_ 12) ++ (hW g.2 (adr [qh, y.1]) y.2 (nI 0) (nI 0) (fun _ => RI_ 12) ++ (tW g.2 (adr [qt, z]) (fun _ => 0) (fun _ => 0)))))) (by rw [List.append_nil]; try rfl) ?_
  refine z_putQ (pc := 45) (ws' := [(b, .inr (5, [.ref (a 0), .ref (c 0), .ref qh, .ref qt]))] ++ (rW g.2 a (RI_ 12) ++ (rW g.2 c (RI_ 12) ++ (hW g.2 (adr [qh, y.1]) y.2 (nI 0) (nI 0) (fun _ => RI_ 12) ++ (tW g.2 (adr [qt, z]) (fun _ => 0) (fun _ => 0)))))) hC hn0 fX5_29 (⟨(RX5, TX5, 4), tyX5, rfl, tyX5_ok, nmX5, rfl, rfl, by decide +kernel⟩ : fq 5 3 RX5 (.object RX0)) rfl rfl 0 rfl (Nat.le_of_ble_eq_true rfl) rfl dX5_init_45 ?_
  refine z_perm (ws' := xW g.2 b (adr [qt, z]) c a (adr [qh, y.1]) y.2 (fun _ => 0) (fun _ => 0) (RI_ 12) (RI_ 12) (nI 0) (nI 0) (fun _ => RI_ 12)) ((perm4 (rW g.2 a (RI_ 12)) (rW g.2 c (RI_ 12)) (hW g.2 (adr [qh, y.1]) y.2 (nI 0) (nI 0) (fun _ => RI_ 12)) (tW g.2 (adr [qt, z]) (fun _ => 0) (fun _ => 0))).cons _) ?_
  exact hE _ _ (adr [qt, z], c, a, adr [qh, y.1], y.2) _ _ _ dX5_init_48 trivial rfl (Nat.le_of_ble_eq_true rfl) (Nat.le_of_ble_eq_true rfl)

theorem flat_0 : flat (fun _ _ => 0) = fun _ => 0 := by
  funext q; unfold flat; split
  · rfl
  · split
    · rfl
    · split <;> rfl
theorem RI_00 : setS (fun _ _ => 0) 14 9 10 = RI_ 0 := by
  funext c r
  simp only [setS_at, RI_, Nat.not_lt_zero, if_false]
  by_cases h : c = 14 ∧ r = 9
  · obtain ⟨rfl, rfl⟩ := h; rfl
  · rw [if_neg h]
    split
    · rfl
    · split <;> rfl
