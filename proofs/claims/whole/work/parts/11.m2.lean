set_option maxRecDepth 100000 in
set_option maxHeartbeats 4000000 in
theorem m_mount {g : zG} {b : Nat → Nat} {R : St} {F : Nat → Nat → Int32} {V : Nat → Int32} {j r : Nat} (hj : j < 12) (hr : r < 12) {x : Int32} : Gv g yX6_mount cX6_mount 4 2 [.ref (b 0), .int (nI j), .int (nI r), .int x] (mW g.2 b R F V) (mW g.2 b (mnt R j r x) F V) := by
  refine fv_entry (by decide) (Nat.le_of_ble_eq_true rfl) (fun C hC hm _ hE => ?_)
  refine z_aln (pc := 0) hC 0 rfl dX6_mount_0 ?_
  refine z_iln (pc := 1) hC 2 rfl dX6_mount_1 ?_
  refine z_iconst (pc := 2) (v := 5) hC dX6_mount_2 (by decide) ?_
  refine z_iln (pc := 3) hC 3 rfl dX6_mount_3 ?_
  refine z_gv (pc := 4) (rest := []) hC vX6_put lX6_34 dX6_mount_4 (m_put (w := 5) (v := x) hr (by decide)) (fun w => w) isCtx_id rfl 0 6 rfl rfl rfl rfl rfl (by decide) (Nat.le_of_ble_eq_true rfl) ⟨Nat.le_refl _, Nat.le_refl _⟩ ?_
  refine z_aln (pc := 7) hC 0 rfl dX6_mount_7 ?_
  refine z_iln (pc := 8) hC 1 rfl dX6_mount_8 ?_
  refine z_iconst (pc := 9) (v := 4) hC dX6_mount_9 (by decide) ?_
  refine z_iconst (pc := 10) (v := 1) hC dX6_mount_10 (by decide) ?_
  refine z_gv (pc := 11) (rest := []) hC vX6_putJob lX6_73 dX6_mount_11 (m_putJob (c := 10) (w := 4) (v := 1) hj (by decide) rfl) (fun w => w) isCtx_id rfl 0 6 rfl rfl rfl rfl rfl (by decide) (Nat.le_of_ble_eq_true rfl) ⟨Nat.le_refl _, Nat.le_refl _⟩ ?_
  refine z_aln (pc := 14) hC 0 rfl dX6_mount_14 ?_
  refine z_iln (pc := 15) hC 1 rfl dX6_mount_15 ?_
  refine z_bipush (pc := 16) (v := 6) hC dX6_mount_16 (by decide) ?_
  refine z_iln (pc := 18) hC 2 rfl dX6_mount_18 ?_
  refine z_gv (pc := 19) (rest := []) hC vX6_putJob lX6_73 dX6_mount_19 (m_putJob (c := 12) (w := 6) (v := nI r) hj (by decide) rfl) (fun w => w) isCtx_id rfl 0 6 rfl rfl rfl rfl rfl (by decide) (Nat.le_of_ble_eq_true rfl) ⟨Nat.le_refl _, Nat.le_refl _⟩ ?_
  refine z_aln (pc := 22) hC 0 rfl dX6_mount_22 ?_
  refine z_iln (pc := 23) hC 1 rfl dX6_mount_23 ?_
  refine z_iconst (pc := 24) (v := 0) hC dX6_mount_24 (by decide) ?_
  refine z_g (pc := 25) (rest := []) hC vX6_ofJob lX6_57 dX6_mount_25 (m_ofJob (c := 6) (w := 0) hj (by decide) rfl) (fun w => w) isCtx_id rfl 0 6 rfl rfl rfl rfl rfl (by decide) (Nat.le_of_ble_eq_true rfl) ⟨Nat.le_refl _, Nat.le_refl _⟩ ?_
  refine z_is_ (y := R 6 j) rfl ?_
  refine z_iconst (pc := 28) (v := 2) hC dX6_mount_28 (by decide) ?_
  refine z_icne (pc := 29) hC 83 (by decide) dX6_mount_29 (fun c29 => ?_) (fun c29 => ?_)
  · exact hE _ _ () _ _ _ dX6_mount_83 trivial (by rw [mnt, if_neg c29]) (Nat.le_refl _) (Nat.le_refl _)
  · refine z_aln (pc := 32) hC 0 rfl dX6_mount_32 ?_
    refine z_iln (pc := 33) hC 2 rfl dX6_mount_33 ?_
    refine z_iconst (pc := 34) (v := 0) hC dX6_mount_34 (by decide) ?_
    refine z_aln (pc := 35) hC 0 rfl dX6_mount_35 ?_
    refine z_iln (pc := 36) hC 1 rfl dX6_mount_36 ?_
    refine z_iconst (pc := 37) (v := 1) hC dX6_mount_37 (by decide) ?_
    refine z_g (pc := 38) (rest := [.int 0, .int (nI r), .ref (b 0)]) hC vX6_ofJob lX6_57 dX6_mount_38 (m_ofJob (c := 7) (w := 1) hj (by decide) rfl) (fun w => w) isCtx_id rfl 0 6 rfl rfl rfl rfl rfl (by decide) (Nat.le_of_ble_eq_true rfl) ⟨Nat.le_refl _, Nat.le_refl _⟩ ?_
    refine z_is_ (y := R 7 j) rfl ?_
    refine z_gv (pc := 41) (rest := []) hC vX6_put lX6_34 dX6_mount_41 (m_put (w := 0) (v := R 7 j) hr (by decide)) (fun w => w) isCtx_id rfl 0 6 rfl rfl rfl rfl rfl (by decide) (Nat.le_of_ble_eq_true rfl) ⟨Nat.le_refl _, Nat.le_refl _⟩ ?_
    refine z_aln (pc := 44) hC 0 rfl dX6_mount_44 ?_
    refine z_iln (pc := 45) hC 2 rfl dX6_mount_45 ?_
    refine z_iconst (pc := 46) (v := 1) hC dX6_mount_46 (by decide) ?_
    refine z_aln (pc := 47) hC 0 rfl dX6_mount_47 ?_
    refine z_iln (pc := 48) hC 1 rfl dX6_mount_48 ?_
    refine z_iconst (pc := 49) (v := 1) hC dX6_mount_49 (by decide) ?_
    refine z_g (pc := 50) (rest := [.int 1, .int (nI r), .ref (b 0)]) hC vX6_ofJob lX6_57 dX6_mount_50 (m_ofJob (c := 7) (w := 1) hj (by decide) rfl) (fun w => w) isCtx_id rfl 0 6 rfl rfl rfl rfl rfl (by decide) (Nat.le_of_ble_eq_true rfl) ⟨Nat.le_refl _, Nat.le_refl _⟩ ?_
    refine z_is_ (y := R 7 j) rfl ?_
    refine z_gv (pc := 53) (rest := []) hC vX6_put lX6_34 dX6_mount_53 (m_put (w := 1) (v := R 7 j) hr (by decide)) (fun w => w) isCtx_id rfl 0 6 rfl rfl rfl rfl rfl (by decide) (Nat.le_of_ble_eq_true rfl) ⟨Nat.le_refl _, Nat.le_refl _⟩ ?_
    refine z_aln (pc := 56) hC 0 rfl dX6_mount_56 ?_
    refine z_iln (pc := 57) hC 2 rfl dX6_mount_57 ?_
    refine z_iconst (pc := 58) (v := 3) hC dX6_mount_58 (by decide) ?_
    refine z_aln (pc := 59) hC 0 rfl dX6_mount_59 ?_
    refine z_get (pc := 60) hC fX6_7 0 rfl rfl dX6_mount_60 ?_
    refine z_iconst (pc := 63) (v := 0) hC dX6_mount_63 (by decide) ?_
    refine z_iald (pc := 64) hC 1 rfl dX6_mount_64 0 rfl (by decide) (by decide) ?_
    refine z_is_ (y := R 14 0) (flat_num _ (by decide)) ?_
    refine z_aln (pc := 65) hC 0 rfl dX6_mount_65 ?_
    refine z_get (pc := 66) hC fX6_7 0 rfl rfl dX6_mount_66 ?_
    refine z_bipush (pc := 69) (v := 9) hC dX6_mount_69 (by decide) ?_
    refine z_iald (pc := 71) hC 1 rfl dX6_mount_71 9 rfl (by decide) (by decide) ?_
    refine z_is_ (y := R 14 9) (flat_num _ (by decide)) ?_
    refine z_iadd (pc := 72) (v := (R 14 0) + (R 14 9)) hC rfl dX6_mount_72 ?_
    refine z_gv (pc := 73) (rest := []) hC vX6_put lX6_34 dX6_mount_73 (m_put (w := 3) (v := R 14 0 + R 14 9) hr (by decide)) (fun w => w) isCtx_id rfl 0 6 rfl rfl rfl rfl rfl (by decide) (Nat.le_of_ble_eq_true rfl) ⟨Nat.le_refl _, Nat.le_refl _⟩ ?_
    refine z_aln (pc := 76) hC 0 rfl dX6_mount_76 ?_
    refine z_iln (pc := 77) hC 2 rfl dX6_mount_77 ?_
    refine z_iconst (pc := 78) (v := 4) hC dX6_mount_78 (by decide) ?_
    refine z_iconst (pc := 79) (v := 0) hC dX6_mount_79 (by decide) ?_
    refine z_gv (pc := 80) (rest := []) hC vX6_put lX6_34 dX6_mount_80 (m_put (w := 4) (v := 0) hr (by decide)) (fun w => w) isCtx_id rfl 0 6 rfl rfl rfl rfl rfl (by decide) (Nat.le_of_ble_eq_true rfl) ⟨Nat.le_refl _, Nat.le_refl _⟩ ?_
    exact hE _ _ () _ _ _ dX6_mount_83 trivial (by rw [mnt, if_pos c29]) (Nat.le_refl _) (Nat.le_refl _)

set_option maxRecDepth 100000 in
set_option maxHeartbeats 4000000 in
theorem m_takeOff {g : zG} {b : Nat → Nat} {R : St} {F : Nat → Nat → Int32} {V : Nat → Int32} {j r : Nat} (hj : j < 12) (hr : r < 12) (h : R 12 j = nI r) : Gv g yX6_takeOff cX6_takeOff 2 2 [.ref (b 0), .int (nI j)] (mW g.2 b R F V) (mW g.2 b (toff R j r) F V) := by
  refine fv_entry (by decide) (Nat.le_of_ble_eq_true rfl) (fun C hC hm _ hE => ?_)
  refine z_aln (pc := 0) hC 0 rfl dX6_takeOff_0 ?_
  refine z_aln (pc := 1) hC 0 rfl dX6_takeOff_1 ?_
  refine z_iln (pc := 2) hC 1 rfl dX6_takeOff_2 ?_
  refine z_bipush (pc := 3) (v := 6) hC dX6_takeOff_3 (by decide) ?_
  refine z_g (pc := 5) (rest := [.ref (b 0)]) hC vX6_ofJob lX6_57 dX6_takeOff_5 (m_ofJob (c := 12) (w := 6) hj (by decide) rfl) (fun w => w) isCtx_id rfl 0 6 rfl rfl rfl rfl rfl (by decide) (Nat.le_of_ble_eq_true rfl) ⟨Nat.le_refl _, Nat.le_refl _⟩ ?_
  refine z_is_ (y := nI r) h ?_
  refine z_iconst (pc := 8) (v := 5) hC dX6_takeOff_8 (by decide) ?_
  refine z_iconst (pc := 9) (v := -1) hC dX6_takeOff_9 (by decide) ?_
  refine z_gv (pc := 10) (rest := []) hC vX6_put lX6_34 dX6_takeOff_10 (m_put (w := 5) (v := -1) hr (by decide)) (fun w => w) isCtx_id rfl 0 6 rfl rfl rfl rfl rfl (by decide) (Nat.le_of_ble_eq_true rfl) ⟨Nat.le_refl _, Nat.le_refl _⟩ ?_
  refine z_aln (pc := 13) hC 0 rfl dX6_takeOff_13 ?_
  refine z_iln (pc := 14) hC 1 rfl dX6_takeOff_14 ?_
  refine z_bipush (pc := 15) (v := 6) hC dX6_takeOff_15 (by decide) ?_
  refine z_iconst (pc := 17) (v := -1) hC dX6_takeOff_17 (by decide) ?_
  refine z_gv (pc := 18) (rest := []) hC vX6_putJob lX6_73 dX6_takeOff_18 (m_putJob (c := 12) (w := 6) (v := -1) hj (by decide) rfl) (fun w => w) isCtx_id rfl 0 6 rfl rfl rfl rfl rfl (by decide) (Nat.le_of_ble_eq_true rfl) ⟨Nat.le_refl _, Nat.le_refl _⟩ ?_
  exact hE _ _ () _ _ _ dX6_takeOff_21 trivial rfl (Nat.le_refl _) (Nat.le_refl _)

set_option maxRecDepth 100000 in
set_option maxHeartbeats 4000000 in
theorem m_isDoneNow {g : zG} {b : Nat → Nat} {R : St} {F : Nat → Nat → Int32} {V : Nat → Int32} {j r : Nat} (hj : j < 12) (hr : r < 12) (h : R 12 j = nI r) : Gi g yX6_isDoneNow cX6_isDoneNow 3 .boolean 2 [.ref (b 0), .int (nI j)] (mW g.2 b R F V) (bI (decide (R 11 j + 1 = R 8 j))) (mW g.2 b (blk R j r) F V) := by
  refine fi_entry (by decide) (Nat.le_of_ble_eq_true rfl) (fun C hC hm hE => ?_)
  have J : ∀ Q : St, Q 11 j = R 11 j → Q 8 j = R 8 j → blk R j r = setS Q 11 j (R 11 j + 1) → Z g C 0 0 (mW g.2 b Q F V) [(2, .int (nI r)), (0, .ref (b 0)), (1, .int (nI j))] 80 [] := by
    intro Q e1 e2 e3
    refine z_aln (pc := 80) hC 1 rfl dX6_isDoneNow_80 ?_
    refine z_iln (pc := 81) hC 2 rfl dX6_isDoneNow_81 ?_
    refine z_iconst (pc := 82) (v := 5) hC dX6_isDoneNow_82 (by decide) ?_
    refine z_aln (pc := 83) hC 1 rfl dX6_isDoneNow_83 ?_
    refine z_iln (pc := 84) hC 2 rfl dX6_isDoneNow_84 ?_
    refine z_iconst (pc := 85) (v := 5) hC dX6_isDoneNow_85 (by decide) ?_
    refine z_g (pc := 86) (rest := [.int 5, .int (nI j), .ref (b 0)]) hC vX6_ofJob lX6_57 dX6_isDoneNow_86 (m_ofJob (c := 11) (w := 5) hj (by decide) rfl) (fun w => w) isCtx_id rfl 0 6 rfl rfl rfl rfl rfl (by decide) (Nat.le_of_ble_eq_true rfl) ⟨Nat.le_refl _, Nat.le_refl _⟩ ?_
    refine z_is_ (y := R 11 j) e1 ?_
    refine z_iconst (pc := 89) (v := 1) hC dX6_isDoneNow_89 (by decide) ?_
    refine z_iadd (pc := 90) (v := (R 11 j) + 1) hC rfl dX6_isDoneNow_90 ?_
    refine z_gv (pc := 91) (rest := []) hC vX6_putJob lX6_73 dX6_isDoneNow_91 (m_putJob (c := 11) (w := 5) (v := R 11 j + 1) hj (by decide) rfl) (fun w => w) isCtx_id rfl 0 6 rfl rfl rfl rfl rfl (by decide) (Nat.le_of_ble_eq_true rfl) ⟨Nat.le_refl _, Nat.le_refl _⟩ ?_
    refine z_aln (pc := 94) hC 1 rfl dX6_isDoneNow_94 ?_
    refine z_iln (pc := 95) hC 2 rfl dX6_isDoneNow_95 ?_
    refine z_iconst (pc := 96) (v := 5) hC dX6_isDoneNow_96 (by decide) ?_
    refine z_g (pc := 97) (rest := []) hC vX6_ofJob lX6_57 dX6_isDoneNow_97 (m_ofJob (c := 11) (w := 5) hj (by decide) rfl) (fun w => w) isCtx_id rfl 0 6 rfl rfl rfl rfl rfl (by decide) (Nat.le_of_ble_eq_true rfl) ⟨Nat.le_refl _, Nat.le_refl _⟩ ?_
    refine z_is_ (y := R 11 j + 1) (setS_eq _ _ _ _) ?_
    refine z_aln (pc := 100) hC 1 rfl dX6_isDoneNow_100 ?_
    refine z_iln (pc := 101) hC 2 rfl dX6_isDoneNow_101 ?_
    refine z_iconst (pc := 102) (v := 2) hC dX6_isDoneNow_102 (by decide) ?_
    refine z_g (pc := 103) (rest := [.int (R 11 j + 1)]) hC vX6_ofJob lX6_57 dX6_isDoneNow_103 (m_ofJob (c := 8) (w := 2) hj (by decide) rfl) (fun w => w) isCtx_id rfl 0 6 rfl rfl rfl rfl rfl (by decide) (Nat.le_of_ble_eq_true rfl) ⟨Nat.le_refl _, Nat.le_refl _⟩ ?_
    refine z_is_ (y := R 8 j) e2 ?_
    refine z_icne (pc := 106) hC 113 (by decide) dX6_isDoneNow_106 (fun c106 => ?_) (fun c106 => ?_)
    · refine z_iconst (pc := 113) (v := 0) hC dX6_isDoneNow_113 (by decide) ?_
      exact hE _ _ _ () _ _ _ dX6_isDoneNow_114 rfl (bI_f (by simp [c106])) (by rw [e3]) (Nat.le_refl _) (Nat.le_refl _)
    · refine z_iconst (pc := 109) (v := 1) hC dX6_isDoneNow_109 (by decide) ?_
      refine z_goto (pc := 110) hC 114 (by decide) dX6_isDoneNow_110 ?_
      exact hE _ _ _ () _ _ _ dX6_isDoneNow_114 rfl (bI_t (by simp [c106])) (by rw [e3]) (Nat.le_refl _) (Nat.le_refl _)
  refine z_aln (pc := 0) hC 0 rfl dX6_isDoneNow_0 ?_
  refine z_iln (pc := 1) hC 1 rfl dX6_isDoneNow_1 ?_
  refine z_bipush (pc := 2) (v := 6) hC dX6_isDoneNow_2 (by decide) ?_
  refine z_g (pc := 4) (rest := []) hC vX6_ofJob lX6_57 dX6_isDoneNow_4 (m_ofJob (c := 12) (w := 6) hj (by decide) rfl) (fun w => w) isCtx_id rfl 0 6 rfl rfl rfl rfl rfl (by decide) (Nat.le_of_ble_eq_true rfl) ⟨Nat.le_refl _, Nat.le_refl _⟩ ?_
  refine z_is_ (y := nI r) h ?_
  refine z_isn (pc := 7) (lv' := [(2, .int (nI r)), (0, .ref (b 0)), (1, .int (nI j))]) hC hm (by decide) rfl dX6_isDoneNow_7 ?_
  refine z_aln (pc := 8) hC 1 rfl dX6_isDoneNow_8 ?_
  refine z_iln (pc := 9) hC 2 rfl dX6_isDoneNow_9 ?_
  refine z_iconst (pc := 10) (v := 0) hC dX6_isDoneNow_10 (by decide) ?_
  refine z_g (pc := 11) (rest := []) hC vX6_ofJob lX6_57 dX6_isDoneNow_11 (m_ofJob (c := 6) (w := 0) hj (by decide) rfl) (fun w => w) isCtx_id rfl 0 6 rfl rfl rfl rfl rfl (by decide) (Nat.le_of_ble_eq_true rfl) ⟨Nat.le_refl _, Nat.le_refl _⟩ ?_
  refine z_ifne (pc := 14) hC 30 (by decide) dX6_isDoneNow_14 (fun c14 => ?_) (fun c14 => ?_)
  · refine z_aln (pc := 30) hC 1 rfl dX6_isDoneNow_30 ?_
    refine z_iln (pc := 31) hC 0 rfl dX6_isDoneNow_31 ?_
    refine z_iconst (pc := 32) (v := 4) hC dX6_isDoneNow_32 (by decide) ?_
    refine z_g (pc := 33) (rest := []) hC vX6_of lX6_46 dX6_isDoneNow_33 (m_of (w := 4) hr (by decide)) (fun w => w) isCtx_id rfl 0 6 rfl rfl rfl rfl rfl (by decide) (Nat.le_of_ble_eq_true rfl) ⟨Nat.le_refl _, Nat.le_refl _⟩ ?_
    refine z_bipush (pc := 36) (v := 99) hC dX6_isDoneNow_36 (by decide) ?_
    refine z_icne (pc := 38) hC 55 (by decide) dX6_isDoneNow_38 (fun c38 => ?_) (fun c38 => ?_)
    · refine z_aln (pc := 55) hC 1 rfl dX6_isDoneNow_55 ?_
      refine z_iln (pc := 56) hC 0 rfl dX6_isDoneNow_56 ?_
      refine z_iconst (pc := 57) (v := 4) hC dX6_isDoneNow_57 (by decide) ?_
      refine z_aln (pc := 58) hC 1 rfl dX6_isDoneNow_58 ?_
      refine z_iln (pc := 59) hC 0 rfl dX6_isDoneNow_59 ?_
      refine z_iconst (pc := 60) (v := 4) hC dX6_isDoneNow_60 (by decide) ?_
      refine z_g (pc := 61) (rest := [.int 4, .int (nI r), .ref (b 0)]) hC vX6_of lX6_46 dX6_isDoneNow_61 (m_of (w := 4) hr (by decide)) (fun w => w) isCtx_id rfl 0 6 rfl rfl rfl rfl rfl (by decide) (Nat.le_of_ble_eq_true rfl) ⟨Nat.le_refl _, Nat.le_refl _⟩ ?_
      refine z_iconst (pc := 64) (v := 1) hC dX6_isDoneNow_64 (by decide) ?_
      refine z_iadd (pc := 65) (v := (R 4 r) + 1) hC rfl dX6_isDoneNow_65 ?_
      refine z_gv (pc := 66) (rest := []) hC vX6_put lX6_34 dX6_isDoneNow_66 (m_put (w := 4) (v := R 4 r + 1) hr (by decide)) (fun w => w) isCtx_id rfl 0 6 rfl rfl rfl rfl rfl (by decide) (Nat.le_of_ble_eq_true rfl) ⟨Nat.le_refl _, Nat.le_refl _⟩ ?_
      refine z_aln (pc := 69) hC 1 rfl dX6_isDoneNow_69 ?_
      refine z_get (pc := 70) hC fX6_7 0 rfl rfl dX6_isDoneNow_70 ?_
      refine z_bipush (pc := 73) (v := 6) hC dX6_isDoneNow_73 (by decide) ?_
      refine z_dup2 (pc := 75) hC rfl rfl dX6_isDoneNow_75 ?_
      refine z_iald (pc := 76) hC 1 rfl dX6_isDoneNow_76 6 rfl (by decide) (by decide) ?_
      refine z_is_ (y := R 14 6) (flat_num _ (by decide)) ?_
      refine z_iconst (pc := 77) (v := 1) hC dX6_isDoneNow_77 (by decide) ?_
      refine z_iadd (pc := 78) (v := (R 14 6) + 1) hC rfl dX6_isDoneNow_78 ?_
      refine z_iast (pc := 79) (ws' := mW g.2 b (setS (setS R 4 r (R 4 r + 1)) 14 6 ((R 14 6) + 1)) F V) hC 1 rfl dX6_isDoneNow_79 6 rfl (by decide) (by decide) (mW_n (by decide)) ?_
      refine z_lv [0, 1, 2] rfl ?_
      exact J _ rfl rfl (by rw [blk, if_neg c14, if_neg c38])
    · refine z_aln (pc := 41) hC 1 rfl dX6_isDoneNow_41 ?_
      refine z_get (pc := 42) hC fX6_7 0 rfl rfl dX6_isDoneNow_42 ?_
      refine z_bipush (pc := 45) (v := 7) hC dX6_isDoneNow_45 (by decide) ?_
      refine z_dup2 (pc := 47) hC rfl rfl dX6_isDoneNow_47 ?_
      refine z_iald (pc := 48) hC 1 rfl dX6_isDoneNow_48 7 rfl (by decide) (by decide) ?_
      refine z_is_ (y := R 14 7) (flat_num R (by decide)) ?_
      refine z_iconst (pc := 49) (v := 1) hC dX6_isDoneNow_49 (by decide) ?_
      refine z_iadd (pc := 50) (v := (R 14 7) + 1) hC rfl dX6_isDoneNow_50 ?_
      refine z_iast (pc := 51) (ws' := mW g.2 b (setS R 14 7 ((R 14 7) + 1)) F V) hC 1 rfl dX6_isDoneNow_51 7 rfl (by decide) (by decide) (mW_n (by decide)) ?_
      refine z_goto (pc := 52) hC 80 (by decide) dX6_isDoneNow_52 ?_
      refine z_lv [0, 1, 2] rfl ?_
      exact J _ rfl rfl (by rw [blk, if_neg c14, if_pos c38])
  · refine z_aln (pc := 17) hC 1 rfl dX6_isDoneNow_17 ?_
    refine z_get (pc := 18) hC fX6_7 0 rfl rfl dX6_isDoneNow_18 ?_
    refine z_iconst (pc := 21) (v := 5) hC dX6_isDoneNow_21 (by decide) ?_
    refine z_dup2 (pc := 22) hC rfl rfl dX6_isDoneNow_22 ?_
    refine z_iald (pc := 23) hC 1 rfl dX6_isDoneNow_23 5 rfl (by decide) (by decide) ?_
    refine z_is_ (y := R 14 5) (flat_num R (by decide)) ?_
    refine z_iconst (pc := 24) (v := 1) hC dX6_isDoneNow_24 (by decide) ?_
    refine z_iadd (pc := 25) (v := (R 14 5) + 1) hC rfl dX6_isDoneNow_25 ?_
    refine z_iast (pc := 26) (ws' := mW g.2 b (setS R 14 5 ((R 14 5) + 1)) F V) hC 1 rfl dX6_isDoneNow_26 5 rfl (by decide) (by decide) (mW_n (by decide)) ?_
    refine z_goto (pc := 27) hC 80 (by decide) dX6_isDoneNow_27 ?_
    refine z_lv [0, 1, 2] rfl ?_
    exact J _ rfl rfl (by rw [blk, if_pos c14])

set_option maxRecDepth 100000 in
set_option maxHeartbeats 4000000 in
theorem m_serve {g : zG} {b : Nat → Nat} {R : St} {F : Nat → Nat → Int32} {V : Nat → Int32} {j : Nat} (hj : j < 12) (hne : ¬ fnd R j = -1) {x : Int32} : Gv g yX6_serve cX6_serve 4 3 [.ref (b 0), .int (nI j), .int x] (mW g.2 b R F V) (mW g.2 b (srv R j x) F V) := by
  refine fv_entry (by decide) (Nat.le_of_ble_eq_true rfl) (fun C hC hm _ hE => ?_)
  obtain ⟨r, hr, hf, hon⟩ := fnd_ne hne
  obtain ⟨r2, hr2, ha, -⟩ := aft_ok (x := nI r) hr hon
  have J : ∀ (Q : St) (q : Nat), q < 12 → srv R j x = srv2 Q j q x → Z g C 0 0 (mW g.2 b Q F V) [(3, .int (nI q)), (0, .ref (b 0)), (1, .int (nI j)), (2, .int x)] 68 [] := by
    intro Q q hq e1
    refine z_aln (pc := 68) hC 1 rfl dX6_serve_68 ?_
    refine z_iln (pc := 69) hC 2 rfl dX6_serve_69 ?_
    refine z_iln (pc := 70) hC 0 rfl dX6_serve_70 ?_
    refine z_g (pc := 71) (rest := []) hC vX6_check lX6_82 dX6_serve_71 (m_check hj hq) (fun w => w) isCtx_id rfl 0 6 rfl rfl rfl rfl rfl (by decide) (Nat.le_of_ble_eq_true rfl) ⟨Nat.le_refl _, Nat.le_refl _⟩ ?_
    refine z_ifne (pc := 74) hC 87 (by decide) dX6_serve_74 (fun c74 => ?_) (fun c74 => ?_)
    · refine z_aln (pc := 87) hC 1 rfl dX6_serve_87 ?_
      refine z_iln (pc := 88) hC 0 rfl dX6_serve_88 ?_
      refine z_iconst (pc := 89) (v := 1) hC dX6_serve_89 (by decide) ?_
      refine z_aln (pc := 90) hC 1 rfl dX6_serve_90 ?_
      refine z_iln (pc := 91) hC 0 rfl dX6_serve_91 ?_
      refine z_g (pc := 92) (rest := [.int 1, .int (nI q), .ref (b 0)]) hC vX6_isScratch lX6_67 dX6_serve_92 (m_isScratch hq) (fun w => w) isCtx_id rfl 0 6 rfl rfl rfl rfl rfl (by decide) (Nat.le_of_ble_eq_true rfl) ⟨Nat.le_refl _, Nat.le_refl _⟩ ?_
      refine z_ifeq (pc := 95) hC 102 (by decide) dX6_serve_95 (fun c95 => ?_) (fun c95 => ?_)
      · refine z_aln (pc := 102) hC 1 rfl dX6_serve_102 ?_
        refine z_iln (pc := 103) hC 0 rfl dX6_serve_103 ?_
        refine z_iconst (pc := 104) (v := 0) hC dX6_serve_104 (by decide) ?_
        refine z_g (pc := 105) (rest := [.int 1, .int (nI q), .ref (b 0)]) hC vX6_of lX6_46 dX6_serve_105 (m_of (w := 0) hq (by decide)) (fun w => w) isCtx_id rfl 0 6 rfl rfl rfl rfl rfl (by decide) (Nat.le_of_ble_eq_true rfl) ⟨Nat.le_refl _, Nat.le_refl _⟩ ?_
        refine z_is_ (y := if scr Q q = true then 0 else Q 0 q) (by simp [bI_0.mp c95]) ?_
        refine z_gv (pc := 108) (rest := []) hC vX6_put lX6_34 dX6_serve_108 (m_put (w := 1) (v := if scr Q q = true then 0 else Q 0 q) hq (by decide)) (fun w => w) isCtx_id rfl 0 6 rfl rfl rfl rfl rfl (by decide) (Nat.le_of_ble_eq_true rfl) ⟨Nat.le_refl _, Nat.le_refl _⟩ ?_
        refine z_aln (pc := 111) hC 1 rfl dX6_serve_111 ?_
        refine z_iln (pc := 112) hC 2 rfl dX6_serve_112 ?_
        refine z_bipush (pc := 113) (v := 7) hC dX6_serve_113 (by decide) ?_
        refine z_aln (pc := 115) hC 1 rfl dX6_serve_115 ?_
        refine z_iln (pc := 116) hC 2 rfl dX6_serve_116 ?_
        refine z_bipush (pc := 117) (v := 7) hC dX6_serve_117 (by decide) ?_
        refine z_g (pc := 119) (rest := [.int 7, .int (nI j), .ref (b 0)]) hC vX6_ofJob lX6_57 dX6_serve_119 (m_ofJob (c := 13) (w := 7) hj (by decide) rfl) (fun w => w) isCtx_id rfl 0 6 rfl rfl rfl rfl rfl (by decide) (Nat.le_of_ble_eq_true rfl) ⟨Nat.le_refl _, Nat.le_refl _⟩ ?_
        refine z_is_ (y := Q 13 j) rfl ?_
        refine z_iconst (pc := 122) (v := 1) hC dX6_serve_122 (by decide) ?_
        refine z_iadd (pc := 123) (v := (Q 13 j) + 1) hC rfl dX6_serve_123 ?_
        refine z_gv (pc := 124) (rest := []) hC vX6_putJob lX6_73 dX6_serve_124 (m_putJob (c := 13) (w := 7) (v := Q 13 j + 1) hj (by decide) rfl) (fun w => w) isCtx_id rfl 0 6 rfl rfl rfl rfl rfl (by decide) (Nat.le_of_ble_eq_true rfl) ⟨Nat.le_refl _, Nat.le_refl _⟩ ?_
        refine z_aln (pc := 127) hC 1 rfl dX6_serve_127 ?_
        refine z_get (pc := 128) hC fX6_7 0 rfl rfl dX6_serve_128 ?_
        refine z_iconst (pc := 131) (v := 4) hC dX6_serve_131 (by decide) ?_
        refine z_dup2 (pc := 132) hC rfl rfl dX6_serve_132 ?_
        refine z_iald (pc := 133) hC 1 rfl dX6_serve_133 4 rfl (by decide) (by decide) ?_
        refine z_is_ (y := Q 14 4) (flat_num _ (by decide)) ?_
        refine z_iconst (pc := 134) (v := 1) hC dX6_serve_134 (by decide) ?_
        refine z_iadd (pc := 135) (v := (Q 14 4) + 1) hC rfl dX6_serve_135 ?_
        refine z_iast (pc := 136) (ws' := mW g.2 b (setS (setS (setS Q 1 q (if scr Q q = true then 0 else Q 0 q)) 13 j (Q 13 j + 1)) 14 4 ((Q 14 4) + 1)) F V) hC 1 rfl dX6_serve_136 4 rfl (by decide) (by decide) (mW_n (by decide)) ?_
        exact hE _ _ () _ _ _ dX6_serve_137 trivial (by rw [e1, srv2, if_neg c74]; rfl) (Nat.le_refl _) (Nat.le_refl _)
      · refine z_iconst (pc := 98) (v := 0) hC dX6_serve_98 (by decide) ?_
        refine z_goto (pc := 99) hC 108 (by decide) dX6_serve_99 ?_
        refine z_is_ (y := if scr Q q = true then 0 else Q 0 q) (by simp [bI_n.mp c95]) ?_
        refine z_gv (pc := 108) (rest := []) hC vX6_put lX6_34 dX6_serve_108 (m_put (w := 1) (v := if scr Q q = true then 0 else Q 0 q) hq (by decide)) (fun w => w) isCtx_id rfl 0 6 rfl rfl rfl rfl rfl (by decide) (Nat.le_of_ble_eq_true rfl) ⟨Nat.le_refl _, Nat.le_refl _⟩ ?_
        refine z_aln (pc := 111) hC 1 rfl dX6_serve_111 ?_
        refine z_iln (pc := 112) hC 2 rfl dX6_serve_112 ?_
        refine z_bipush (pc := 113) (v := 7) hC dX6_serve_113 (by decide) ?_
        refine z_aln (pc := 115) hC 1 rfl dX6_serve_115 ?_
        refine z_iln (pc := 116) hC 2 rfl dX6_serve_116 ?_
        refine z_bipush (pc := 117) (v := 7) hC dX6_serve_117 (by decide) ?_
        refine z_g (pc := 119) (rest := [.int 7, .int (nI j), .ref (b 0)]) hC vX6_ofJob lX6_57 dX6_serve_119 (m_ofJob (c := 13) (w := 7) hj (by decide) rfl) (fun w => w) isCtx_id rfl 0 6 rfl rfl rfl rfl rfl (by decide) (Nat.le_of_ble_eq_true rfl) ⟨Nat.le_refl _, Nat.le_refl _⟩ ?_
        refine z_is_ (y := Q 13 j) rfl ?_
        refine z_iconst (pc := 122) (v := 1) hC dX6_serve_122 (by decide) ?_
        refine z_iadd (pc := 123) (v := (Q 13 j) + 1) hC rfl dX6_serve_123 ?_
        refine z_gv (pc := 124) (rest := []) hC vX6_putJob lX6_73 dX6_serve_124 (m_putJob (c := 13) (w := 7) (v := Q 13 j + 1) hj (by decide) rfl) (fun w => w) isCtx_id rfl 0 6 rfl rfl rfl rfl rfl (by decide) (Nat.le_of_ble_eq_true rfl) ⟨Nat.le_refl _, Nat.le_refl _⟩ ?_
        refine z_aln (pc := 127) hC 1 rfl dX6_serve_127 ?_
        refine z_get (pc := 128) hC fX6_7 0 rfl rfl dX6_serve_128 ?_
        refine z_iconst (pc := 131) (v := 4) hC dX6_serve_131 (by decide) ?_
        refine z_dup2 (pc := 132) hC rfl rfl dX6_serve_132 ?_
        refine z_iald (pc := 133) hC 1 rfl dX6_serve_133 4 rfl (by decide) (by decide) ?_
        refine z_is_ (y := Q 14 4) (flat_num _ (by decide)) ?_
        refine z_iconst (pc := 134) (v := 1) hC dX6_serve_134 (by decide) ?_
        refine z_iadd (pc := 135) (v := (Q 14 4) + 1) hC rfl dX6_serve_135 ?_
        refine z_iast (pc := 136) (ws' := mW g.2 b (setS (setS (setS Q 1 q (if scr Q q = true then 0 else Q 0 q)) 13 j (Q 13 j + 1)) 14 4 ((Q 14 4) + 1)) F V) hC 1 rfl dX6_serve_136 4 rfl (by decide) (by decide) (mW_n (by decide)) ?_
        exact hE _ _ () _ _ _ dX6_serve_137 trivial (by rw [e1, srv2, if_neg c74]; rfl) (Nat.le_refl _) (Nat.le_refl _)
    · refine z_aln (pc := 77) hC 1 rfl dX6_serve_77 ?_
      refine z_iln (pc := 78) hC 2 rfl dX6_serve_78 ?_
      refine z_iln (pc := 79) hC 0 rfl dX6_serve_79 ?_
      refine z_iln (pc := 80) hC 3 rfl dX6_serve_80 ?_
      refine z_gv (pc := 81) (rest := []) hC vX6_mount lX6_85 dX6_serve_81 (m_mount hj hq) (fun w => w) isCtx_id rfl 0 6 rfl rfl rfl rfl rfl (by decide) (Nat.le_of_ble_eq_true rfl) ⟨Nat.le_refl _, Nat.le_refl _⟩ ?_
      refine z_goto (pc := 84) hC 137 (by decide) dX6_serve_84 ?_
      exact hE _ _ () _ _ _ dX6_serve_137 trivial (by rw [e1, srv2, if_pos c74]) (Nat.le_refl _) (Nat.le_refl _)
  refine z_aln (pc := 0) hC 0 rfl dX6_serve_0 ?_
  refine z_get (pc := 1) hC fX6_7 0 rfl rfl dX6_serve_1 ?_
  refine z_iconst (pc := 4) (v := 2) hC dX6_serve_4 (by decide) ?_
  refine z_dup2 (pc := 5) hC rfl rfl dX6_serve_5 ?_
  refine z_iald (pc := 6) hC 1 rfl dX6_serve_6 2 rfl (by decide) (by decide) ?_
  refine z_is_ (y := R 14 2) (flat_num R (by decide)) ?_
  refine z_iconst (pc := 7) (v := 1) hC dX6_serve_7 (by decide) ?_
  refine z_iadd (pc := 8) (v := (R 14 2) + 1) hC rfl dX6_serve_8 ?_
  refine z_iast (pc := 9) (ws' := mW g.2 b (setS R 14 2 ((R 14 2) + 1)) F V) hC 1 rfl dX6_serve_9 2 rfl (by decide) (by decide) (mW_n (by decide)) ?_
  refine z_aln (pc := 10) hC 0 rfl dX6_serve_10 ?_
  refine z_iln (pc := 11) hC 1 rfl dX6_serve_11 ?_
  refine z_g (pc := 12) (rest := []) hC vX6_found lX6_64 dX6_serve_12 (m_found hj) (fun w => w) isCtx_id rfl 0 6 rfl rfl rfl rfl rfl (by decide) (Nat.le_of_ble_eq_true rfl) ⟨Nat.le_refl _, Nat.le_refl _⟩ ?_
  refine z_is_ (y := nI r) hf ?_
  refine z_isn (pc := 15) (lv' := [(3, .int (nI r)), (0, .ref (b 0)), (1, .int (nI j)), (2, .int x)]) hC hm (by decide) rfl dX6_serve_15 ?_
  refine z_aln (pc := 16) hC 1 rfl dX6_serve_16 ?_
  refine z_aln (pc := 17) hC 1 rfl dX6_serve_17 ?_
  refine z_get (pc := 18) hC fX6_7 0 rfl rfl dX6_serve_18 ?_
  refine z_iconst (pc := 21) (v := 2) hC dX6_serve_21 (by decide) ?_
  refine z_iald (pc := 22) hC 1 rfl dX6_serve_22 2 rfl (by decide) (by decide) ?_
  refine z_is_ (y := R 14 2 + 1) (by rw [flat_num _ (by decide), setS_eq]) ?_
  refine z_g (pc := 23) (rest := []) hC vX6_isSlip lX6_76 dX6_serve_23 (m_isSlip (x := R 14 2 + 1)) (fun w => w) isCtx_id rfl 0 6 rfl rfl rfl rfl rfl (by decide) (Nat.le_of_ble_eq_true rfl) ⟨Nat.le_refl _, Nat.le_refl _⟩ ?_
  refine z_is_ (y := bI (slp R (R 14 2 + 1))) rfl ?_
  refine z_ifeq (pc := 26) hC 48 (by decide) dX6_serve_26 (fun c26 => ?_) (fun c26 => ?_)
  · refine z_aln (pc := 48) hC 1 rfl dX6_serve_48 ?_
    refine z_iln (pc := 49) hC 0 rfl dX6_serve_49 ?_
    refine z_iconst (pc := 50) (v := 2) hC dX6_serve_50 (by decide) ?_
    refine z_aln (pc := 51) hC 1 rfl dX6_serve_51 ?_
    refine z_iln (pc := 52) hC 2 rfl dX6_serve_52 ?_
    refine z_iconst (pc := 53) (v := 0) hC dX6_serve_53 (by decide) ?_
    refine z_g (pc := 54) (rest := [.int 2, .int (nI r), .ref (b 0)]) hC vX6_ofJob lX6_57 dX6_serve_54 (m_ofJob (c := 6) (w := 0) hj (by decide) rfl) (fun w => w) isCtx_id rfl 0 6 rfl rfl rfl rfl rfl (by decide) (Nat.le_of_ble_eq_true rfl) ⟨Nat.le_refl _, Nat.le_refl _⟩ ?_
    refine z_is_ (y := R 6 j) rfl ?_
    refine z_ifne (pc := 57) hC 64 (by decide) dX6_serve_57 (fun c57 => ?_) (fun c57 => ?_)
    · refine z_iconst (pc := 64) (v := 1) hC dX6_serve_64 (by decide) ?_
      refine z_is_ (y := if R 6 j = 0 then 0 else 1) (by simp [c57]) ?_
      refine z_gv (pc := 65) (rest := []) hC vX6_put lX6_34 dX6_serve_65 (m_put (w := 2) (v := if R 6 j = 0 then 0 else 1) hr (by decide)) (fun w => w) isCtx_id rfl 0 6 rfl rfl rfl rfl rfl (by decide) (Nat.le_of_ble_eq_true rfl) ⟨Nat.le_refl _, Nat.le_refl _⟩ ?_
      refine z_lv [0, 1, 2, 3] rfl ?_
      exact J _ r hr (by rw [srv, if_neg (by simp [bI_0.mp c26]), hf, nI_clamp (by omega)])
    · refine z_iconst (pc := 60) (v := 0) hC dX6_serve_60 (by decide) ?_
      refine z_goto (pc := 61) hC 65 (by decide) dX6_serve_61 ?_
      refine z_is_ (y := if R 6 j = 0 then 0 else 1) (by simp [c57]) ?_
      refine z_gv (pc := 65) (rest := []) hC vX6_put lX6_34 dX6_serve_65 (m_put (w := 2) (v := if R 6 j = 0 then 0 else 1) hr (by decide)) (fun w => w) isCtx_id rfl 0 6 rfl rfl rfl rfl rfl (by decide) (Nat.le_of_ble_eq_true rfl) ⟨Nat.le_refl _, Nat.le_refl _⟩ ?_
      refine z_lv [0, 1, 2, 3] rfl ?_
      exact J _ r hr (by rw [srv, if_neg (by simp [bI_0.mp c26]), hf, nI_clamp (by omega)])
  · refine z_aln (pc := 29) hC 1 rfl dX6_serve_29 ?_
    refine z_get (pc := 30) hC fX6_7 0 rfl rfl dX6_serve_30 ?_
    refine z_iconst (pc := 33) (v := 3) hC dX6_serve_33 (by decide) ?_
    refine z_dup2 (pc := 34) hC rfl rfl dX6_serve_34 ?_
    refine z_iald (pc := 35) hC 1 rfl dX6_serve_35 3 rfl (by decide) (by decide) ?_
    refine z_is_ (y := R 14 3) (flat_num _ (by decide)) ?_
    refine z_iconst (pc := 36) (v := 1) hC dX6_serve_36 (by decide) ?_
    refine z_iadd (pc := 37) (v := (R 14 3) + 1) hC rfl dX6_serve_37 ?_
    refine z_iast (pc := 38) (ws' := mW g.2 b (setS (setS R 14 2 ((R 14 2) + 1)) 14 3 ((R 14 3) + 1)) F V) hC 1 rfl dX6_serve_38 3 rfl (by decide) (by decide) (mW_n (by decide)) ?_
    refine z_aln (pc := 39) hC 1 rfl dX6_serve_39 ?_
    refine z_iln (pc := 40) hC 0 rfl dX6_serve_40 ?_
    refine z_g (pc := 41) (rest := []) hC vX6_after lX6_79 dX6_serve_41 (m_after (x := nI r)) (fun w => w) isCtx_id rfl 0 6 rfl rfl rfl rfl rfl (by decide) (Nat.le_of_ble_eq_true rfl) ⟨Nat.le_refl _, Nat.le_refl _⟩ ?_
    refine z_is_ (y := nI r2) ha ?_
    refine z_isn (pc := 44) (lv' := [(3, .int (nI r2)), (0, .ref (b 0)), (1, .int (nI j)), (2, .int x)]) hC hm (by decide) rfl dX6_serve_44 ?_
    refine z_goto (pc := 45) hC 68 (by decide) dX6_serve_45 ?_
    refine z_lv [0, 1, 2, 3] rfl ?_
    exact J _ r2 hr2 (by rw [srv, if_pos (bI_n.mp c26), hf, ha, nI_clamp (by omega)])

theorem jl_step {m k : Nat} {Q Q' : St} {x y z : Int32} {T : St × Int32} (h : stp Q m = (Q', x)) (hd : y + x = z) (e : jl m (k + 1) (Q, y) = T) : jl (m + 1) k (Q', z) = T := by
  rw [← e]; simp only [jl, h, hd]

set_option maxRecDepth 100000 in
set_option maxHeartbeats 4000000 in
theorem m_minute {g : zG} {b : Nat → Nat} {R : St} {F : Nat → Nat → Int32} {V : Nat → Int32} {n : Nat} (hI : Inv R n) : Gi g yX6_minute cX6_minute 4 .int 4 [.ref (b 0)] (mW g.2 b R F V) ((minu R n).2) (mW g.2 b ((minu R n).1) F V) := by
  refine fi_entry (by decide) (Nat.le_of_ble_eq_true rfl) (fun C hC hm hE => ?_)
  have loop : ∀ (k m : Nat) (Q : St) (dn : Int32), m + k = n → Inv Q n → jl m k (Q, dn) = jl 0 n (R, 0) → Z g C 0 0 (mW g.2 b Q F V) [(2, .int (nI m)), (1, .int dn), (0, .ref (b 0))] 4 [] := by
    intro k
    induction k with
    | zero =>
      intro m Q dn hm2 hI hjl
      refine z_iln (pc := 4) hC 0 rfl dX6_minute_4 ?_
      refine z_aln (pc := 5) hC 2 rfl dX6_minute_5 ?_
      refine z_get (pc := 6) hC fX6_7 0 rfl rfl dX6_minute_6 ?_
      refine z_bipush (pc := 9) (v := 82) hC dX6_minute_9 (by decide) ?_
      refine z_iald (pc := 11) hC 1 rfl dX6_minute_11 82 rfl (by decide) (by decide) ?_
      refine z_is_ (y := nI n) (by rw [flat_82]; exact hI.2.1) ?_
      refine z_icge (pc := 12) hC 54 (by decide) dX6_minute_12 (fun c12 => ?_) (fun c12 => absurd (nI_le (by omega) (by have := hI.1; omega)) c12)
      refine z_aln (pc := 54) hC 2 rfl dX6_minute_54 ?_
      refine z_g (pc := 55) (rest := []) hC vX6_next lX6_95 dX6_minute_55 (m_next hI.2.1 hI.1) (fun w => w) isCtx_id rfl 0 6 rfl rfl rfl rfl rfl (by decide) (Nat.le_of_ble_eq_true rfl) ⟨Nat.le_refl _, Nat.le_refl _⟩ ?_
      refine z_isn (pc := 58) (lv' := [(2, .int (nxt Q n)), (1, .int dn), (0, .ref (b 0))]) hC hm (by decide) rfl dX6_minute_58 ?_
      refine z_aln (pc := 59) hC 2 rfl dX6_minute_59 ?_
      refine z_g (pc := 60) (rest := []) hC vX6_emptyDrive lX6_99 dX6_minute_60 m_emptyDrive (fun w => w) isCtx_id rfl 0 6 rfl rfl rfl rfl rfl (by decide) (Nat.le_of_ble_eq_true rfl) ⟨Nat.le_refl _, Nat.le_refl _⟩ ?_
      refine z_isn (pc := 63) (lv' := [(3, .int (edr Q)), (2, .int (nxt Q n)), (1, .int dn), (0, .ref (b 0))]) hC hm (by decide) rfl dX6_minute_63 ?_
      refine z_iln (pc := 64) hC 1 rfl dX6_minute_64 ?_
      refine z_iconst (pc := 65) (v := -1) hC dX6_minute_65 (by decide) ?_
      refine z_iceq (pc := 66) hC 80 (by decide) dX6_minute_66 (fun c66 => ?_) (fun c66 => ?_)
      · refine z_aln (pc := 80) hC 3 rfl dX6_minute_80 ?_
        refine z_get (pc := 81) hC fX6_7 0 rfl rfl dX6_minute_81 ?_
        refine z_iconst (pc := 84) (v := 1) hC dX6_minute_84 (by decide) ?_
        refine z_dup2 (pc := 85) hC rfl rfl dX6_minute_85 ?_
        refine z_iald (pc := 86) hC 1 rfl dX6_minute_86 1 rfl (by decide) (by decide) ?_
        refine z_is_ (y := Q 14 1) (flat_num _ (by decide)) ?_
        refine z_iconst (pc := 87) (v := 1) hC dX6_minute_87 (by decide) ?_
        refine z_iadd (pc := 88) (v := (Q 14 1) + 1) hC rfl dX6_minute_88 ?_
        refine z_iast (pc := 89) (ws' := mW g.2 b (setS Q 14 1 ((Q 14 1) + 1)) F V) hC 1 rfl dX6_minute_89 1 rfl (by decide) (by decide) (mW_n (by decide)) ?_
        refine z_iln (pc := 90) hC 2 rfl dX6_minute_90 ?_
        exact hE _ _ _ () _ _ _ dX6_minute_91 rfl (by simp only [minu, ← hjl, jl]) (by rw [show (minu R n).1 = setS (sstep Q n) 14 1 (sstep Q n 14 1 + 1) by simp only [minu, ← hjl, jl], sstep_0 (by first | exact Or.inl c66 | exact Or.inr c71)]) (Nat.le_refl _) (Nat.le_refl _)
      · obtain ⟨q, hq, hq1, hq2, hq3⟩ := nxt_ok c66
        refine z_iln (pc := 69) hC 0 rfl dX6_minute_69 ?_
        refine z_iconst (pc := 70) (v := -1) hC dX6_minute_70 (by decide) ?_
        refine z_iceq (pc := 71) hC 80 (by decide) dX6_minute_71 (fun c71 => ?_) (fun c71 => ?_)
        · refine z_aln (pc := 80) hC 3 rfl dX6_minute_80 ?_
          refine z_get (pc := 81) hC fX6_7 0 rfl rfl dX6_minute_81 ?_
          refine z_iconst (pc := 84) (v := 1) hC dX6_minute_84 (by decide) ?_
          refine z_dup2 (pc := 85) hC rfl rfl dX6_minute_85 ?_
          refine z_iald (pc := 86) hC 1 rfl dX6_minute_86 1 rfl (by decide) (by decide) ?_
          refine z_is_ (y := Q 14 1) (flat_num _ (by decide)) ?_
          refine z_iconst (pc := 87) (v := 1) hC dX6_minute_87 (by decide) ?_
          refine z_iadd (pc := 88) (v := (Q 14 1) + 1) hC rfl dX6_minute_88 ?_
          refine z_iast (pc := 89) (ws' := mW g.2 b (setS Q 14 1 ((Q 14 1) + 1)) F V) hC 1 rfl dX6_minute_89 1 rfl (by decide) (by decide) (mW_n (by decide)) ?_
          refine z_iln (pc := 90) hC 2 rfl dX6_minute_90 ?_
          exact hE _ _ _ () _ _ _ dX6_minute_91 rfl (by simp only [minu, ← hjl, jl]) (by rw [show (minu R n).1 = setS (sstep Q n) 14 1 (sstep Q n 14 1 + 1) by simp only [minu, ← hjl, jl], sstep_0 (by first | exact Or.inl c66 | exact Or.inr c71)]) (Nat.le_refl _) (Nat.le_refl _)
        · refine z_aln (pc := 74) hC 3 rfl dX6_minute_74 ?_
          refine z_iln (pc := 75) hC 1 rfl dX6_minute_75 ?_
          refine z_is_ (y := nI q) hq1 ?_
          refine z_iln (pc := 76) hC 0 rfl dX6_minute_76 ?_
          refine z_gv (pc := 77) (rest := []) hC vX6_serve lX6_102 dX6_minute_77 (m_serve (j := q) (by have := hI.1; omega) hq3) (fun w => w) isCtx_id rfl 0 6 rfl rfl rfl rfl rfl (by decide) (Nat.le_of_ble_eq_true rfl) ⟨Nat.le_refl _, Nat.le_refl _⟩ ?_
          refine z_aln (pc := 80) hC 3 rfl dX6_minute_80 ?_
          refine z_get (pc := 81) hC fX6_7 0 rfl rfl dX6_minute_81 ?_
          refine z_iconst (pc := 84) (v := 1) hC dX6_minute_84 (by decide) ?_
          refine z_dup2 (pc := 85) hC rfl rfl dX6_minute_85 ?_
          refine z_iald (pc := 86) hC 1 rfl dX6_minute_86 1 rfl (by decide) (by decide) ?_
          refine z_is_ (y := (srv Q q (edr Q)) 14 1) (flat_num _ (by decide)) ?_
          refine z_iconst (pc := 87) (v := 1) hC dX6_minute_87 (by decide) ?_
          refine z_iadd (pc := 88) (v := ((srv Q q (edr Q)) 14 1) + 1) hC rfl dX6_minute_88 ?_
          refine z_iast (pc := 89) (ws' := mW g.2 b (setS (srv Q q (edr Q)) 14 1 (((srv Q q (edr Q)) 14 1) + 1)) F V) hC 1 rfl dX6_minute_89 1 rfl (by decide) (by decide) (mW_n (by decide)) ?_
          refine z_iln (pc := 90) hC 2 rfl dX6_minute_90 ?_
          exact hE _ _ _ () _ _ _ dX6_minute_91 rfl (by simp only [minu, ← hjl, jl]) (by rw [show (minu R n).1 = setS (sstep Q n) 14 1 (sstep Q n 14 1 + 1) by simp only [minu, ← hjl, jl], sstep_1 c66 c71 hq1 (by have := hI.1; omega)]) (Nat.le_refl _) (Nat.le_refl _)
    | succ k ih =>
      intro m Q dn hm2 hI hjl
      have hm12 : m < 12 := by have := hI.1; omega
      refine z_iln (pc := 4) hC 0 rfl dX6_minute_4 ?_
      refine z_aln (pc := 5) hC 2 rfl dX6_minute_5 ?_
      refine z_get (pc := 6) hC fX6_7 0 rfl rfl dX6_minute_6 ?_
      refine z_bipush (pc := 9) (v := 82) hC dX6_minute_9 (by decide) ?_
      refine z_iald (pc := 11) hC 1 rfl dX6_minute_11 82 rfl (by decide) (by decide) ?_
      refine z_is_ (y := nI n) (by rw [flat_82]; exact hI.2.1) ?_
      refine z_icge (pc := 12) hC 54 (by decide) dX6_minute_12 (fun c12 => absurd c12 (nI_ge (by omega) (by have := hI.1; omega))) (fun c12 => ?_)
      refine z_aln (pc := 15) hC 2 rfl dX6_minute_15 ?_
      refine z_iln (pc := 16) hC 0 rfl dX6_minute_16 ?_
      refine z_iconst (pc := 17) (v := 4) hC dX6_minute_17 (by decide) ?_
      refine z_g (pc := 18) (rest := []) hC vX6_ofJob lX6_57 dX6_minute_18 (m_ofJob (c := 10) (w := 4) hm12 (by decide) rfl) (fun w => w) isCtx_id rfl 0 6 rfl rfl rfl rfl rfl (by decide) (Nat.le_of_ble_eq_true rfl) ⟨Nat.le_refl _, Nat.le_refl _⟩ ?_
      refine z_iconst (pc := 21) (v := 1) hC dX6_minute_21 (by decide) ?_
      refine z_icne (pc := 22) hC 48 (by decide) dX6_minute_22 (fun c22 => ?_) (fun c22 => ?_)
      · refine z_iinc (pc := 48) (v := nI (m + 1)) (j := 0) (lv' := [(2, .int (nI (m + 1))), (1, .int dn), (0, .ref (b 0))]) hC hm (by decide) rfl (up_step m) rfl dX6_minute_48 ?_
        refine z_goto (pc := 51) hC 4 (by decide) dX6_minute_51 ?_
        have hst := stp_0 c22
        refine z_lv [0, 1, 2] rfl ?_
        exact ih (m + 1) _ _ (by omega) (by have q := inv_stp hI (show m < n by omega); rw [hst] at q; exact q) (jl_step hst (Int32.add_zero _) hjl)
      · obtain ⟨r, hr, hrl⟩ := (hI.2.2.1 m (by omega)).1 c22
        refine z_aln (pc := 25) hC 2 rfl dX6_minute_25 ?_
        refine z_iln (pc := 26) hC 0 rfl dX6_minute_26 ?_
        refine z_g (pc := 27) (rest := []) hC vX6_isDoneNow lX6_88 dX6_minute_27 (m_isDoneNow hm12 hr hrl) (fun w => w) isCtx_id rfl 0 6 rfl rfl rfl rfl rfl (by decide) (Nat.le_of_ble_eq_true rfl) ⟨Nat.le_refl _, Nat.le_refl _⟩ ?_
        refine z_ifeq (pc := 30) hC 48 (by decide) dX6_minute_30 (fun c30 => ?_) (fun c30 => ?_)
        · refine z_iinc (pc := 48) (v := nI (m + 1)) (j := 0) (lv' := [(2, .int (nI (m + 1))), (1, .int dn), (0, .ref (b 0))]) hC hm (by decide) rfl (up_step m) rfl dX6_minute_48 ?_
          refine z_goto (pc := 51) hC 4 (by decide) dX6_minute_51 ?_
          have hst := stp_1 c22 hr hrl (by simpa using bI_0.mp c30)
          refine z_lv [0, 1, 2] rfl ?_
          exact ih (m + 1) _ _ (by omega) (by have q := inv_stp hI (show m < n by omega); rw [hst] at q; exact q) (jl_step hst (Int32.add_zero _) hjl)
        · refine z_aln (pc := 33) hC 2 rfl dX6_minute_33 ?_
          refine z_iln (pc := 34) hC 0 rfl dX6_minute_34 ?_
          refine z_iconst (pc := 35) (v := 4) hC dX6_minute_35 (by decide) ?_
          refine z_iconst (pc := 36) (v := 2) hC dX6_minute_36 (by decide) ?_
          refine z_gv (pc := 37) (rest := []) hC vX6_putJob lX6_73 dX6_minute_37 (m_putJob (c := 10) (w := 4) (v := 2) hm12 (by decide) rfl) (fun w => w) isCtx_id rfl 0 6 rfl rfl rfl rfl rfl (by decide) (Nat.le_of_ble_eq_true rfl) ⟨Nat.le_refl _, Nat.le_refl _⟩ ?_
          refine z_aln (pc := 40) hC 2 rfl dX6_minute_40 ?_
          refine z_iln (pc := 41) hC 0 rfl dX6_minute_41 ?_
          refine z_gv (pc := 42) (rest := []) hC vX6_takeOff lX6_91 dX6_minute_42 (m_takeOff hm12 hr (by show blk Q m r 12 m = nI r; rw [blk_c (by decide) (by decide) (by decide)]; exact hrl)) (fun w => w) isCtx_id rfl 0 6 rfl rfl rfl rfl rfl (by decide) (Nat.le_of_ble_eq_true rfl) ⟨Nat.le_refl _, Nat.le_refl _⟩ ?_
          refine z_iinc (pc := 45) (v := dn + 1) (j := 1) (lv' := [(1, .int (dn + 1)), (2, .int (nI m)), (0, .ref (b 0))]) hC hm (by decide) rfl (by rw [ofInt_1]) rfl dX6_minute_45 ?_
          refine z_iinc (pc := 48) (v := nI (m + 1)) (j := 1) (lv' := [(2, .int (nI (m + 1))), (1, .int (dn + 1)), (0, .ref (b 0))]) hC hm (by decide) rfl (up_step m) rfl dX6_minute_48 ?_
          refine z_goto (pc := 51) hC 4 (by decide) dX6_minute_51 ?_
          have hst := stp_2 c22 hr hrl (by simpa using bI_n.mp c30)
          refine z_lv [0, 1, 2] rfl ?_
          exact ih (m + 1) _ _ (by omega) (by have q := inv_stp hI (show m < n by omega); rw [hst] at q; exact q) (jl_step hst rfl hjl)
  refine z_iconst (pc := 0) (v := 0) hC dX6_minute_0 (by decide) ?_
  refine z_isn (pc := 1) (lv' := [(1, .int 0), (0, .ref (b 0))]) hC hm (by decide) rfl dX6_minute_1 ?_
  refine z_iconst (pc := 2) (v := nI 0) hC dX6_minute_2 (by decide) ?_
  refine z_isn (pc := 3) (lv' := [(2, .int (nI 0)), (1, .int 0), (0, .ref (b 0))]) hC hm (by decide) rfl dX6_minute_3 ?_
  refine z_lv [0, 1, 2] rfl ?_
  exact loop n 0 _ _ (by omega) hI rfl

set_option maxRecDepth 100000 in
set_option maxHeartbeats 4000000 in
theorem m_passNow {g : zG} {b : Nat → Nat} {R : St} {F : Nat → Nat → Int32} {V : Nat → Int32} {n t : Nat} (hI : Inv R n) (ht : t < 2 ^ 31) : Gi g yX6_passNow cX6_passNow 4 .int 5 [.ref (b 0), .int (nI t)] (mW g.2 b R F V) ((pas n t (R, 0)).2) (mW g.2 b ((pas n t (R, 0)).1) F V) := by
  refine fi_entry (by decide) (Nat.le_of_ble_eq_true rfl) (fun C hC hm hE => ?_)
  have loop : ∀ (k m : Nat) (Q : St) (dn : Int32), m + k = t → Inv Q n → pas n k (Q, dn) = pas n t (R, 0) → Z g C 0 0 (mW g.2 b Q F V) [(3, .int (nI m)), (2, .int dn), (0, .ref (b 0)), (1, .int (nI t))] 4 [] := by
    intro k
    induction k with
    | zero =>
      intro m Q dn hm2 hI hp
      refine z_iln (pc := 4) hC 0 rfl dX6_passNow_4 ?_
      refine z_iln (pc := 5) hC 3 rfl dX6_passNow_5 ?_
      refine z_icge (pc := 6) hC 22 (by decide) dX6_passNow_6 (fun c6 => ?_) (fun c6 => absurd (nI_le (by omega) (by omega)) c6)
      refine z_iln (pc := 22) hC 1 rfl dX6_passNow_22 ?_
      exact hE _ _ _ () _ _ _ dX6_passNow_23 rfl (by rw [← hp]; rfl) (by rw [← hp]; rfl) (Nat.le_refl _) (Nat.le_refl _)
    | succ k ih =>
      intro m Q dn hm2 hI hp
      refine z_iln (pc := 4) hC 0 rfl dX6_passNow_4 ?_
      refine z_iln (pc := 5) hC 3 rfl dX6_passNow_5 ?_
      refine z_icge (pc := 6) hC 22 (by decide) dX6_passNow_6 (fun c6 => absurd c6 (nI_ge (by omega) (by omega))) (fun c6 => ?_)
      refine z_iln (pc := 9) hC 1 rfl dX6_passNow_9 ?_
      refine z_aln (pc := 10) hC 2 rfl dX6_passNow_10 ?_
      refine z_g (pc := 11) (rest := [.int dn]) hC vX6_minute lX6_106 dX6_passNow_11 (m_minute hI) (fun w => w) isCtx_id rfl 0 6 rfl rfl rfl rfl rfl (by decide) (Nat.le_of_ble_eq_true rfl) ⟨Nat.le_refl _, Nat.le_refl _⟩ ?_
      refine z_iadd (pc := 14) (v := dn + (minu Q n).2) hC rfl dX6_passNow_14 ?_
      refine z_isn (pc := 15) (lv' := [(2, .int (dn + (minu Q n).2)), (3, .int (nI m)), (0, .ref (b 0)), (1, .int (nI t))]) hC hm (by decide) rfl dX6_passNow_15 ?_
      refine z_iinc (pc := 16) (v := nI (m + 1)) (j := 1) (lv' := [(3, .int (nI (m + 1))), (2, .int (dn + (minu Q n).2)), (0, .ref (b 0)), (1, .int (nI t))]) hC hm (by decide) rfl (up_step m) rfl dX6_passNow_16 ?_
      refine z_goto (pc := 19) hC 4 (by decide) dX6_passNow_19 ?_
      refine z_lv [0, 1, 2, 3] rfl ?_
      exact ih (m + 1) _ _ (by omega) (inv_minu hI) (by rw [← hp]; rfl)
  refine z_iconst (pc := 0) (v := 0) hC dX6_passNow_0 (by decide) ?_
  refine z_isn (pc := 1) (lv' := [(2, .int 0), (0, .ref (b 0)), (1, .int (nI t))]) hC hm (by decide) rfl dX6_passNow_1 ?_
  refine z_iconst (pc := 2) (v := nI 0) hC dX6_passNow_2 (by decide) ?_
  refine z_isn (pc := 3) (lv' := [(3, .int (nI 0)), (2, .int 0), (0, .ref (b 0)), (1, .int (nI t))]) hC hm (by decide) rfl dX6_passNow_3 ?_
  refine z_lv [0, 1, 2, 3] rfl ?_
  exact loop t 0 _ _ (by omega) hI rfl

set_option maxRecDepth 100000 in
set_option maxHeartbeats 4000000 in
theorem m_areRight {g : zG} {x y z u : Int32} : Gi g yX6_areRight cX6_areRight 4 .boolean 1 [.int x, .int y, .int z, .int u] ([]) (bI (right x y z u)) ([]) := by
  refine fi_entry (by decide) (Nat.le_of_ble_eq_true rfl) (fun C hC hm hE => ?_)
  refine z_iln (pc := 0) hC 0 rfl dX6_areRight_0 ?_
  refine z_iconst (pc := 1) (v := 0) hC dX6_areRight_1 (by decide) ?_
  refine z_iconst (pc := 2) (v := 2) hC dX6_areRight_2 (by decide) ?_
  refine z_gs (pc := 3) (rest := []) hC sX6_in lX6_42 dX6_areRight_3 (m_in (x := x) (y := 0) (z := 2)) rfl rfl (by decide) (Nat.le_of_ble_eq_true rfl) ⟨Nat.le_refl _, Nat.le_refl _⟩ ?_
  refine z_ifeq (pc := 6) hC 43 (by decide) dX6_areRight_6 (fun c6 => ?_) (fun c6 => ?_)
  · refine z_iconst (pc := 43) (v := 0) hC dX6_areRight_43 (by decide) ?_
    exact hE _ _ _ () _ _ _ dX6_areRight_44 rfl (bI_f (by simp [right, bI_0.mp c6])) rfl (Nat.le_refl _) (Nat.le_refl _)
  · refine z_iln (pc := 9) hC 1 rfl dX6_areRight_9 ?_
    refine z_iconst (pc := 10) (v := 1) hC dX6_areRight_10 (by decide) ?_
    refine z_bipush (pc := 11) (v := 99) hC dX6_areRight_11 (by decide) ?_
    refine z_gs (pc := 13) (rest := []) hC sX6_in lX6_42 dX6_areRight_13 (m_in (x := y) (y := 1) (z := 99)) rfl rfl (by decide) (Nat.le_of_ble_eq_true rfl) ⟨Nat.le_refl _, Nat.le_refl _⟩ ?_
    refine z_ifeq (pc := 16) hC 43 (by decide) dX6_areRight_16 (fun c16 => ?_) (fun c16 => ?_)
    · refine z_iconst (pc := 43) (v := 0) hC dX6_areRight_43 (by decide) ?_
      exact hE _ _ _ () _ _ _ dX6_areRight_44 rfl (bI_f (by simp [right, bI_0.mp c16])) rfl (Nat.le_refl _) (Nat.le_refl _)
    · refine z_iln (pc := 19) hC 2 rfl dX6_areRight_19 ?_
      refine z_iconst (pc := 20) (v := 1) hC dX6_areRight_20 (by decide) ?_
      refine z_bipush (pc := 21) (v := 20) hC dX6_areRight_21 (by decide) ?_
      refine z_gs (pc := 23) (rest := []) hC sX6_in lX6_42 dX6_areRight_23 (m_in (x := z) (y := 1) (z := 20)) rfl rfl (by decide) (Nat.le_of_ble_eq_true rfl) ⟨Nat.le_refl _, Nat.le_refl _⟩ ?_
      refine z_ifeq (pc := 26) hC 43 (by decide) dX6_areRight_26 (fun c26 => ?_) (fun c26 => ?_)
      · refine z_iconst (pc := 43) (v := 0) hC dX6_areRight_43 (by decide) ?_
        exact hE _ _ _ () _ _ _ dX6_areRight_44 rfl (bI_f (by simp [right, bI_0.mp c26])) rfl (Nat.le_refl _) (Nat.le_refl _)
      · refine z_iln (pc := 29) hC 3 rfl dX6_areRight_29 ?_
        refine z_iconst (pc := 30) (v := 0) hC dX6_areRight_30 (by decide) ?_
        refine z_bipush (pc := 31) (v := 9) hC dX6_areRight_31 (by decide) ?_
        refine z_gs (pc := 33) (rest := []) hC sX6_in lX6_42 dX6_areRight_33 (m_in (x := u) (y := 0) (z := 9)) rfl rfl (by decide) (Nat.le_of_ble_eq_true rfl) ⟨Nat.le_refl _, Nat.le_refl _⟩ ?_
        refine z_ifeq (pc := 36) hC 43 (by decide) dX6_areRight_36 (fun c36 => ?_) (fun c36 => ?_)
        · refine z_iconst (pc := 43) (v := 0) hC dX6_areRight_43 (by decide) ?_
          exact hE _ _ _ () _ _ _ dX6_areRight_44 rfl (bI_f (by simp [right, bI_0.mp c36])) rfl (Nat.le_refl _) (Nat.le_refl _)
        · refine z_iconst (pc := 39) (v := 1) hC dX6_areRight_39 (by decide) ?_
          refine z_goto (pc := 40) hC 44 (by decide) dX6_areRight_40 ?_
          exact hE _ _ _ () _ _ _ dX6_areRight_44 rfl (bI_t (by simp [right, bI_n.mp c6, bI_n.mp c16, bI_n.mp c26, bI_n.mp c36])) rfl (Nat.le_refl _) (Nat.le_refl _)

/-- the two searches of isKept, counted from the low end -/
def keptA (R : St) (v : Int32) (m : Nat) : Bool := (List.range m).any (fun r => !scr R r && decide (R 0 r = v))
def keptB (R : St) (v : Int32) (m : Nat) : Bool := (List.range m).any (fun j => decide (R 6 j = 2) && (decide (R 7 j = v) && decide (R 10 j = 0)))
theorem keptA_s (R : St) (v : Int32) (m : Nat) : keptA R v (m + 1) = (keptA R v m || (!scr R m && decide (R 0 m = v))) := by simp [keptA, List.range_succ]
theorem keptB_s (R : St) (v : Int32) (m : Nat) : keptB R v (m + 1) = (keptB R v m || (decide (R 6 m = 2) && (decide (R 7 m = v) && decide (R 10 m = 0)))) := by simp [keptB, List.range_succ]
theorem bI_is {b : Bool} {x : Int32} (h : b = true ∧ x = 1 ∨ b = false ∧ x = 0) : x = bI b := by rcases h with ⟨rfl, rfl⟩ | ⟨rfl, rfl⟩ <;> rfl

set_option maxRecDepth 100000 in
set_option maxHeartbeats 4000000 in
theorem m_isKept {g : zG} {b : Nat → Nat} {R : St} {F : Nat → Nat → Int32} {V : Nat → Int32} {n : Nat} (hn : R 14 10 = nI n) (hn2 : n ≤ 12) {v : Int32} : Gi g yX6_isKept cX6_isKept 4 .boolean 2 [.ref (b 0), .int v] (mW g.2 b R F V) (bI (kept R n v)) (mW g.2 b R F V) := by
  refine fi_entry (by decide) (Nat.le_of_ble_eq_true rfl) (fun C hC hm hE => ?_)
  have loop2 : ∀ (k m : Nat), m + k = n → Z g C 0 0 (mW g.2 b R F V) [(3, .int (nI m)), (2, .int (bI (keptA R v 12 || keptB R v m))), (0, .ref (b 0)), (1, .int v)] 46 [] := by
    intro k
    induction k with
    | zero =>
      intro m hm2
      refine z_iln (pc := 46) hC 0 rfl dX6_isKept_46 ?_
      refine z_aln (pc := 47) hC 2 rfl dX6_isKept_47 ?_
      refine z_get (pc := 48) hC fX6_7 0 rfl rfl dX6_isKept_48 ?_
      refine z_bipush (pc := 51) (v := 82) hC dX6_isKept_51 (by decide) ?_
      refine z_iald (pc := 53) hC 1 rfl dX6_isKept_53 82 rfl (by decide) (by decide) ?_
      refine z_is_ (y := nI n) (by rw [flat_82]; exact hn) ?_
      refine z_icge (pc := 54) hC 102 (by decide) dX6_isKept_54 (fun c54 => ?_) (fun c54 => absurd (nI_le (by omega) (by omega)) c54)
      refine z_iln (pc := 102) hC 1 rfl dX6_isKept_102 ?_
      exact hE _ _ _ () _ _ _ dX6_isKept_103 (bI_nar _) (by rw [show m = n by omega]; rfl) rfl (Nat.le_refl _) (Nat.le_refl _)
    | succ k ih =>
      intro m hm2
      refine z_iln (pc := 46) hC 0 rfl dX6_isKept_46 ?_
      refine z_aln (pc := 47) hC 2 rfl dX6_isKept_47 ?_
      refine z_get (pc := 48) hC fX6_7 0 rfl rfl dX6_isKept_48 ?_
      refine z_bipush (pc := 51) (v := 82) hC dX6_isKept_51 (by decide) ?_
      refine z_iald (pc := 53) hC 1 rfl dX6_isKept_53 82 rfl (by decide) (by decide) ?_
      refine z_is_ (y := nI n) (by rw [flat_82]; exact hn) ?_
      refine z_icge (pc := 54) hC 102 (by decide) dX6_isKept_54 (fun c54 => absurd c54 (nI_ge (by omega) (by omega))) (fun c54 => ?_)
      refine z_iln (pc := 57) hC 1 rfl dX6_isKept_57 ?_
      refine z_ifne (pc := 58) hC 90 (by decide) dX6_isKept_58 (fun c58 => ?_) (fun c58 => ?_)
      · refine z_iconst (pc := 90) (v := 1) hC dX6_isKept_90 (by decide) ?_
        refine z_goto (pc := 91) hC 95 (by decide) dX6_isKept_91 ?_
        refine z_is_ (y := bI (keptA R v 12 || keptB R v (m + 1))) (bI_is (Or.inl ⟨by rw [keptB_s, ← Bool.or_assoc, bI_n.mp c58]; rfl, rfl⟩)) ?_
        refine z_isn (pc := 95) (lv' := [(2, .int (bI (keptA R v 12 || keptB R v (m + 1)))), (3, .int (nI m)), (0, .ref (b 0)), (1, .int v)]) hC hm (by decide) rfl dX6_isKept_95 ?_
        refine z_iinc (pc := 96) (v := nI (m + 1)) (j := 1) (lv' := [(3, .int (nI (m + 1))), (2, .int (bI (keptA R v 12 || keptB R v (m + 1)))), (0, .ref (b 0)), (1, .int v)]) hC hm (by decide) rfl (up_step m) rfl dX6_isKept_96 ?_
        refine z_goto (pc := 99) hC 46 (by decide) dX6_isKept_99 ?_
        refine z_lv [0, 1, 2, 3] rfl ?_
        exact ih (m + 1) (by omega)
      · refine z_aln (pc := 61) hC 2 rfl dX6_isKept_61 ?_
        refine z_iln (pc := 62) hC 0 rfl dX6_isKept_62 ?_
        refine z_iconst (pc := 63) (v := 0) hC dX6_isKept_63 (by decide) ?_
        refine z_g (pc := 64) (rest := []) hC vX6_ofJob lX6_57 dX6_isKept_64 (m_ofJob (c := 6) (w := 0) (by omega) (by decide) rfl) (fun w => w) isCtx_id rfl 0 6 rfl rfl rfl rfl rfl (by decide) (Nat.le_of_ble_eq_true rfl) ⟨Nat.le_refl _, Nat.le_refl _⟩ ?_
        refine z_iconst (pc := 67) (v := 2) hC dX6_isKept_67 (by decide) ?_
        refine z_icne (pc := 68) hC 94 (by decide) dX6_isKept_68 (fun c68 => ?_) (fun c68 => ?_)
        · refine z_iconst (pc := 94) (v := 0) hC dX6_isKept_94 (by decide) ?_
          refine z_is_ (y := bI (keptA R v 12 || keptB R v (m + 1))) (bI_is (Or.inr ⟨by rw [keptB_s, ← Bool.or_assoc, bI_0.mp c58]; simp [c68], rfl⟩)) ?_
          refine z_isn (pc := 95) (lv' := [(2, .int (bI (keptA R v 12 || keptB R v (m + 1)))), (3, .int (nI m)), (0, .ref (b 0)), (1, .int v)]) hC hm (by decide) rfl dX6_isKept_95 ?_
          refine z_iinc (pc := 96) (v := nI (m + 1)) (j := 1) (lv' := [(3, .int (nI (m + 1))), (2, .int (bI (keptA R v 12 || keptB R v (m + 1)))), (0, .ref (b 0)), (1, .int v)]) hC hm (by decide) rfl (up_step m) rfl dX6_isKept_96 ?_
          refine z_goto (pc := 99) hC 46 (by decide) dX6_isKept_99 ?_
          refine z_lv [0, 1, 2, 3] rfl ?_
          exact ih (m + 1) (by omega)
        · refine z_aln (pc := 71) hC 2 rfl dX6_isKept_71 ?_
          refine z_iln (pc := 72) hC 0 rfl dX6_isKept_72 ?_
          refine z_iconst (pc := 73) (v := 1) hC dX6_isKept_73 (by decide) ?_
          refine z_g (pc := 74) (rest := []) hC vX6_ofJob lX6_57 dX6_isKept_74 (m_ofJob (c := 7) (w := 1) (by omega) (by decide) rfl) (fun w => w) isCtx_id rfl 0 6 rfl rfl rfl rfl rfl (by decide) (Nat.le_of_ble_eq_true rfl) ⟨Nat.le_refl _, Nat.le_refl _⟩ ?_
          refine z_iln (pc := 77) hC 3 rfl dX6_isKept_77 ?_
          refine z_icne (pc := 78) hC 94 (by decide) dX6_isKept_78 (fun c78 => ?_) (fun c78 => ?_)
          · refine z_iconst (pc := 94) (v := 0) hC dX6_isKept_94 (by decide) ?_
            refine z_is_ (y := bI (keptA R v 12 || keptB R v (m + 1))) (bI_is (Or.inr ⟨by rw [keptB_s, ← Bool.or_assoc, bI_0.mp c58]; simp [c68, c78], rfl⟩)) ?_
            refine z_isn (pc := 95) (lv' := [(2, .int (bI (keptA R v 12 || keptB R v (m + 1)))), (3, .int (nI m)), (0, .ref (b 0)), (1, .int v)]) hC hm (by decide) rfl dX6_isKept_95 ?_
            refine z_iinc (pc := 96) (v := nI (m + 1)) (j := 1) (lv' := [(3, .int (nI (m + 1))), (2, .int (bI (keptA R v 12 || keptB R v (m + 1)))), (0, .ref (b 0)), (1, .int v)]) hC hm (by decide) rfl (up_step m) rfl dX6_isKept_96 ?_
            refine z_goto (pc := 99) hC 46 (by decide) dX6_isKept_99 ?_
            refine z_lv [0, 1, 2, 3] rfl ?_
            exact ih (m + 1) (by omega)
          · refine z_aln (pc := 81) hC 2 rfl dX6_isKept_81 ?_
            refine z_iln (pc := 82) hC 0 rfl dX6_isKept_82 ?_
            refine z_iconst (pc := 83) (v := 4) hC dX6_isKept_83 (by decide) ?_
            refine z_g (pc := 84) (rest := []) hC vX6_ofJob lX6_57 dX6_isKept_84 (m_ofJob (c := 10) (w := 4) (by omega) (by decide) rfl) (fun w => w) isCtx_id rfl 0 6 rfl rfl rfl rfl rfl (by decide) (Nat.le_of_ble_eq_true rfl) ⟨Nat.le_refl _, Nat.le_refl _⟩ ?_
            refine z_ifne (pc := 87) hC 94 (by decide) dX6_isKept_87 (fun c87 => ?_) (fun c87 => ?_)
            · refine z_iconst (pc := 94) (v := 0) hC dX6_isKept_94 (by decide) ?_
              refine z_is_ (y := bI (keptA R v 12 || keptB R v (m + 1))) (bI_is (Or.inr ⟨by rw [keptB_s, ← Bool.or_assoc, bI_0.mp c58]; simp [c68, c78, c87], rfl⟩)) ?_
              refine z_isn (pc := 95) (lv' := [(2, .int (bI (keptA R v 12 || keptB R v (m + 1)))), (3, .int (nI m)), (0, .ref (b 0)), (1, .int v)]) hC hm (by decide) rfl dX6_isKept_95 ?_
              refine z_iinc (pc := 96) (v := nI (m + 1)) (j := 1) (lv' := [(3, .int (nI (m + 1))), (2, .int (bI (keptA R v 12 || keptB R v (m + 1)))), (0, .ref (b 0)), (1, .int v)]) hC hm (by decide) rfl (up_step m) rfl dX6_isKept_96 ?_
              refine z_goto (pc := 99) hC 46 (by decide) dX6_isKept_99 ?_
              refine z_lv [0, 1, 2, 3] rfl ?_
              exact ih (m + 1) (by omega)
            · refine z_iconst (pc := 90) (v := 1) hC dX6_isKept_90 (by decide) ?_
              refine z_goto (pc := 91) hC 95 (by decide) dX6_isKept_91 ?_
              refine z_is_ (y := bI (keptA R v 12 || keptB R v (m + 1))) (bI_is (Or.inl ⟨by rw [keptB_s, ← Bool.or_assoc, bI_0.mp c58]; simp [c68, c78, c87], rfl⟩)) ?_
              refine z_isn (pc := 95) (lv' := [(2, .int (bI (keptA R v 12 || keptB R v (m + 1)))), (3, .int (nI m)), (0, .ref (b 0)), (1, .int v)]) hC hm (by decide) rfl dX6_isKept_95 ?_
              refine z_iinc (pc := 96) (v := nI (m + 1)) (j := 1) (lv' := [(3, .int (nI (m + 1))), (2, .int (bI (keptA R v 12 || keptB R v (m + 1)))), (0, .ref (b 0)), (1, .int v)]) hC hm (by decide) rfl (up_step m) rfl dX6_isKept_96 ?_
              refine z_goto (pc := 99) hC 46 (by decide) dX6_isKept_99 ?_
              refine z_lv [0, 1, 2, 3] rfl ?_
              exact ih (m + 1) (by omega)
  have loop1 : ∀ (k m : Nat), m + k = 12 → Z g C 0 0 (mW g.2 b R F V) [(3, .int (nI m)), (2, .int (bI (keptA R v m))), (0, .ref (b 0)), (1, .int v)] 4 [] := by
    intro k
    induction k with
    | zero =>
      intro m hm2
      refine z_iln (pc := 4) hC 0 rfl dX6_isKept_4 ?_
      refine z_bipush (pc := 5) (v := nI 12) hC dX6_isKept_5 (by decide) ?_
      refine z_icge (pc := 7) hC 44 (by decide) dX6_isKept_7 (fun c7 => ?_) (fun c7 => absurd (nI_le (by omega) (by omega)) c7)
      refine z_iconst (pc := 44) (v := nI 0) hC dX6_isKept_44 (by decide) ?_
      refine z_isn (pc := 45) (lv' := [(3, .int (nI 0)), (2, .int (bI (keptA R v m))), (0, .ref (b 0)), (1, .int v)]) hC hm (by decide) rfl dX6_isKept_45 ?_
      refine z_lv [0, 1, 2, 3] rfl ?_
      exact by rw [show m = 12 by omega, show keptA R v 12 = (keptA R v 12 || keptB R v 0) by simp [keptB]]; exact loop2 n 0 (by omega)
    | succ k ih =>
      intro m hm2
      refine z_iln (pc := 4) hC 0 rfl dX6_isKept_4 ?_
      refine z_bipush (pc := 5) (v := nI 12) hC dX6_isKept_5 (by decide) ?_
      refine z_icge (pc := 7) hC 44 (by decide) dX6_isKept_7 (fun c7 => absurd c7 (nI_ge (by omega) (by omega))) (fun c7 => ?_)
      refine z_iln (pc := 10) hC 1 rfl dX6_isKept_10 ?_
      refine z_ifne (pc := 11) hC 32 (by decide) dX6_isKept_11 (fun c11 => ?_) (fun c11 => ?_)
      · refine z_iconst (pc := 32) (v := 1) hC dX6_isKept_32 (by decide) ?_
        refine z_goto (pc := 33) hC 37 (by decide) dX6_isKept_33 ?_
        refine z_is_ (y := bI (keptA R v (m + 1))) (bI_is (Or.inl ⟨by rw [keptA_s]; simp [bI_n.mp c11], rfl⟩)) ?_
        refine z_isn (pc := 37) (lv' := [(2, .int (bI (keptA R v (m + 1)))), (3, .int (nI m)), (0, .ref (b 0)), (1, .int v)]) hC hm (by decide) rfl dX6_isKept_37 ?_
        refine z_iinc (pc := 38) (v := nI (m + 1)) (j := 1) (lv' := [(3, .int (nI (m + 1))), (2, .int (bI (keptA R v (m + 1)))), (0, .ref (b 0)), (1, .int v)]) hC hm (by decide) rfl (up_step m) rfl dX6_isKept_38 ?_
        refine z_goto (pc := 41) hC 4 (by decide) dX6_isKept_41 ?_
        refine z_lv [0, 1, 2, 3] rfl ?_
        exact ih (m + 1) (by omega)
      · refine z_aln (pc := 14) hC 2 rfl dX6_isKept_14 ?_
        refine z_iln (pc := 15) hC 0 rfl dX6_isKept_15 ?_
        refine z_g (pc := 16) (rest := []) hC vX6_isScratch lX6_67 dX6_isKept_16 (m_isScratch (r := m) (by omega)) (fun w => w) isCtx_id rfl 0 6 rfl rfl rfl rfl rfl (by decide) (Nat.le_of_ble_eq_true rfl) ⟨Nat.le_refl _, Nat.le_refl _⟩ ?_
        refine z_ifne (pc := 19) hC 36 (by decide) dX6_isKept_19 (fun c19 => ?_) (fun c19 => ?_)
        · refine z_iconst (pc := 36) (v := 0) hC dX6_isKept_36 (by decide) ?_
          refine z_is_ (y := bI (keptA R v (m + 1))) (bI_is (Or.inr ⟨by rw [keptA_s]; simp [bI_0.mp c11, bI_n.mp c19], rfl⟩)) ?_
          refine z_isn (pc := 37) (lv' := [(2, .int (bI (keptA R v (m + 1)))), (3, .int (nI m)), (0, .ref (b 0)), (1, .int v)]) hC hm (by decide) rfl dX6_isKept_37 ?_
          refine z_iinc (pc := 38) (v := nI (m + 1)) (j := 1) (lv' := [(3, .int (nI (m + 1))), (2, .int (bI (keptA R v (m + 1)))), (0, .ref (b 0)), (1, .int v)]) hC hm (by decide) rfl (up_step m) rfl dX6_isKept_38 ?_
          refine z_goto (pc := 41) hC 4 (by decide) dX6_isKept_41 ?_
          refine z_lv [0, 1, 2, 3] rfl ?_
          exact ih (m + 1) (by omega)
        · refine z_aln (pc := 22) hC 2 rfl dX6_isKept_22 ?_
          refine z_iln (pc := 23) hC 0 rfl dX6_isKept_23 ?_
          refine z_iconst (pc := 24) (v := 0) hC dX6_isKept_24 (by decide) ?_
          refine z_g (pc := 25) (rest := []) hC vX6_of lX6_46 dX6_isKept_25 (m_of (w := 0) (by omega) (by decide)) (fun w => w) isCtx_id rfl 0 6 rfl rfl rfl rfl rfl (by decide) (Nat.le_of_ble_eq_true rfl) ⟨Nat.le_refl _, Nat.le_refl _⟩ ?_
          refine z_iln (pc := 28) hC 3 rfl dX6_isKept_28 ?_
          refine z_icne (pc := 29) hC 36 (by decide) dX6_isKept_29 (fun c29 => ?_) (fun c29 => ?_)
          · refine z_iconst (pc := 36) (v := 0) hC dX6_isKept_36 (by decide) ?_
            refine z_is_ (y := bI (keptA R v (m + 1))) (bI_is (Or.inr ⟨by rw [keptA_s]; simp [bI_0.mp c11, bI_0.mp c19, c29], rfl⟩)) ?_
            refine z_isn (pc := 37) (lv' := [(2, .int (bI (keptA R v (m + 1)))), (3, .int (nI m)), (0, .ref (b 0)), (1, .int v)]) hC hm (by decide) rfl dX6_isKept_37 ?_
            refine z_iinc (pc := 38) (v := nI (m + 1)) (j := 1) (lv' := [(3, .int (nI (m + 1))), (2, .int (bI (keptA R v (m + 1)))), (0, .ref (b 0)), (1, .int v)]) hC hm (by decide) rfl (up_step m) rfl dX6_isKept_38 ?_
            refine z_goto (pc := 41) hC 4 (by decide) dX6_isKept_41 ?_
            refine z_lv [0, 1, 2, 3] rfl ?_
            exact ih (m + 1) (by omega)
          · refine z_iconst (pc := 32) (v := 1) hC dX6_isKept_32 (by decide) ?_
            refine z_goto (pc := 33) hC 37 (by decide) dX6_isKept_33 ?_
            refine z_is_ (y := bI (keptA R v (m + 1))) (bI_is (Or.inl ⟨by rw [keptA_s]; simp [bI_0.mp c11, bI_0.mp c19, c29], rfl⟩)) ?_
            refine z_isn (pc := 37) (lv' := [(2, .int (bI (keptA R v (m + 1)))), (3, .int (nI m)), (0, .ref (b 0)), (1, .int v)]) hC hm (by decide) rfl dX6_isKept_37 ?_
            refine z_iinc (pc := 38) (v := nI (m + 1)) (j := 1) (lv' := [(3, .int (nI (m + 1))), (2, .int (bI (keptA R v (m + 1)))), (0, .ref (b 0)), (1, .int v)]) hC hm (by decide) rfl (up_step m) rfl dX6_isKept_38 ?_
            refine z_goto (pc := 41) hC 4 (by decide) dX6_isKept_41 ?_
            refine z_lv [0, 1, 2, 3] rfl ?_
            exact ih (m + 1) (by omega)
  refine z_iconst (pc := 0) (v := 0) hC dX6_isKept_0 (by decide) ?_
  refine z_isn (pc := 1) (lv' := [(2, .int 0), (0, .ref (b 0)), (1, .int v)]) hC hm (by decide) rfl dX6_isKept_1 ?_
  refine z_iconst (pc := 2) (v := nI 0) hC dX6_isKept_2 (by decide) ?_
  refine z_isn (pc := 3) (lv' := [(3, .int (nI 0)), (2, .int 0), (0, .ref (b 0)), (1, .int v)]) hC hm (by decide) rfl dX6_isKept_3 ?_
  refine z_lv [0, 1, 2, 3] rfl ?_
  exact loop1 12 0 rfl

set_option maxRecDepth 100000 in
set_option maxHeartbeats 4000000 in
theorem m_canSubmit {g : zG} {b : Nat → Nat} {R : St} {F : Nat → Nat → Int32} {V : Nat → Int32} {n : Nat} (hn : R 14 10 = nI n) (hn2 : n ≤ 12) {x v : Int32} : Gi g yX6_canSubmit cX6_canSubmit 3 .boolean 3 [.ref (b 0), .int x, .int v] (mW g.2 b R F V) (bI (canS R n x v)) (mW g.2 b R F V) := by
  refine fi_entry (by decide) (Nat.le_of_ble_eq_true rfl) (fun C hC hm hE => ?_)
  refine z_aln (pc := 0) hC 0 rfl dX6_canSubmit_0 ?_
  refine z_get (pc := 1) hC fX6_7 0 rfl rfl dX6_canSubmit_1 ?_
  refine z_bipush (pc := 4) (v := 82) hC dX6_canSubmit_4 (by decide) ?_
  refine z_iald (pc := 6) hC 1 rfl dX6_canSubmit_6 82 rfl (by decide) (by decide) ?_
  refine z_is_ (y := nI n) (by rw [flat_82]; exact hn) ?_
  refine z_bipush (pc := 7) (v := nI 12) hC dX6_canSubmit_7 (by decide) ?_
  refine z_icge (pc := 9) hC 29 (by decide) dX6_canSubmit_9 (fun c9 => ?_) (fun c9 => ?_)
  · refine z_iconst (pc := 29) (v := 0) hC dX6_canSubmit_29 (by decide) ?_
    exact hE _ _ _ () _ _ _ dX6_canSubmit_30 rfl (bI_is (Or.inr ⟨by simp [canS, show ¬ n < 12 from Nat.not_lt.mpr ((nI_leI (by omega) (by omega)).mp c9)], rfl⟩)) rfl (Nat.le_refl _) (Nat.le_refl _)
  · refine z_iln (pc := 12) hC 1 rfl dX6_canSubmit_12 ?_
    refine z_iconst (pc := 13) (v := 2) hC dX6_canSubmit_13 (by decide) ?_
    refine z_icne (pc := 14) hC 25 (by decide) dX6_canSubmit_14 (fun c14 => ?_) (fun c14 => ?_)
    · refine z_iconst (pc := 25) (v := 1) hC dX6_canSubmit_25 (by decide) ?_
      refine z_goto (pc := 26) hC 30 (by decide) dX6_canSubmit_26 ?_
      exact hE _ _ _ () _ _ _ dX6_canSubmit_30 rfl (bI_is (Or.inl ⟨by simp [canS, show n < 12 from Nat.lt_of_not_le (fun q => c9 (nI_le q (by omega))), c14], rfl⟩)) rfl (Nat.le_refl _) (Nat.le_refl _)
    · refine z_aln (pc := 17) hC 0 rfl dX6_canSubmit_17 ?_
      refine z_iln (pc := 18) hC 2 rfl dX6_canSubmit_18 ?_
      refine z_g (pc := 19) (rest := []) hC vX6_isKept lX6_109 dX6_canSubmit_19 (m_isKept hn hn2) (fun w => w) isCtx_id rfl 0 6 rfl rfl rfl rfl rfl (by decide) (Nat.le_of_ble_eq_true rfl) ⟨Nat.le_refl _, Nat.le_refl _⟩ ?_
      refine z_ifne (pc := 22) hC 29 (by decide) dX6_canSubmit_22 (fun c22 => ?_) (fun c22 => ?_)
      · refine z_iconst (pc := 29) (v := 0) hC dX6_canSubmit_29 (by decide) ?_
        exact hE _ _ _ () _ _ _ dX6_canSubmit_30 rfl (bI_is (Or.inr ⟨by simp [canS, show n < 12 from Nat.lt_of_not_le (fun q => c9 (nI_le q (by omega))), c14, bI_n.mp c22], rfl⟩)) rfl (Nat.le_refl _) (Nat.le_refl _)
      · refine z_iconst (pc := 25) (v := 1) hC dX6_canSubmit_25 (by decide) ?_
        refine z_goto (pc := 26) hC 30 (by decide) dX6_canSubmit_26 ?_
        exact hE _ _ _ () _ _ _ dX6_canSubmit_30 rfl (bI_is (Or.inl ⟨by simp [canS, show n < 12 from Nat.lt_of_not_le (fun q => c9 (nI_le q (by omega))), c14, bI_0.mp c22], rfl⟩)) rfl (Nat.le_refl _) (Nat.le_refl _)

set_option maxRecDepth 100000 in
set_option maxHeartbeats 4000000 in
theorem m_submitNow {g : zG} {b : Nat → Nat} {R : St} {F : Nat → Nat → Int32} {V : Nat → Int32} {n : Nat} (hn : R 14 10 = nI n) (hj : n < 12) {x y z u : Int32} : Gi g yX6_submitNow cX6_submitNow 6 .int 1 [.ref (b 0), .int x, .int y, .int z, .int u] (mW g.2 b R F V) (nI n) (mW g.2 b (subm R n x y z u) F V) := by
  refine fi_entry (by decide) (Nat.le_of_ble_eq_true rfl) (fun C hC hm hE => ?_)
  refine z_aln (pc := 0) hC 0 rfl dX6_submitNow_0 ?_
  refine z_get (pc := 1) hC fX6_7 0 rfl rfl dX6_submitNow_1 ?_
  refine z_bipush (pc := 4) (v := 82) hC dX6_submitNow_4 (by decide) ?_
  refine z_iald (pc := 6) hC 1 rfl dX6_submitNow_6 82 rfl (by decide) (by decide) ?_
  refine z_is_ (y := nI n) (by rw [flat_82]; exact hn) ?_
  refine z_is (pc := 7) (lv' := [(5, .int (nI n)), (0, .ref (b 0)), (1, .int x), (2, .int y), (3, .int z), (4, .int u)]) hC hm (by decide) rfl dX6_submitNow_7 ?_
  refine z_aln (pc := 9) hC 1 rfl dX6_submitNow_9 ?_
  refine z_il (pc := 10) hC 0 rfl dX6_submitNow_10 ?_
  refine z_iconst (pc := 12) (v := 0) hC dX6_submitNow_12 (by decide) ?_
  refine z_iln (pc := 13) hC 2 rfl dX6_submitNow_13 ?_
  refine z_gv (pc := 14) (rest := []) hC vX6_putJob lX6_73 dX6_submitNow_14 (m_putJob (c := 6) (w := 0) (v := x) hj (by decide) rfl) (fun w => w) isCtx_id rfl 0 6 rfl rfl rfl rfl rfl (by decide) (Nat.le_of_ble_eq_true rfl) ⟨Nat.le_refl _, Nat.le_refl _⟩ ?_
  refine z_aln (pc := 17) hC 1 rfl dX6_submitNow_17 ?_
  refine z_il (pc := 18) hC 0 rfl dX6_submitNow_18 ?_
  refine z_iconst (pc := 20) (v := 1) hC dX6_submitNow_20 (by decide) ?_
  refine z_iln (pc := 21) hC 3 rfl dX6_submitNow_21 ?_
  refine z_gv (pc := 22) (rest := []) hC vX6_putJob lX6_73 dX6_submitNow_22 (m_putJob (c := 7) (w := 1) (v := y) hj (by decide) rfl) (fun w => w) isCtx_id rfl 0 6 rfl rfl rfl rfl rfl (by decide) (Nat.le_of_ble_eq_true rfl) ⟨Nat.le_refl _, Nat.le_refl _⟩ ?_
  refine z_aln (pc := 25) hC 1 rfl dX6_submitNow_25 ?_
  refine z_il (pc := 26) hC 0 rfl dX6_submitNow_26 ?_
  refine z_iconst (pc := 28) (v := 2) hC dX6_submitNow_28 (by decide) ?_
  refine z_iln (pc := 29) hC 4 rfl dX6_submitNow_29 ?_
  refine z_gv (pc := 30) (rest := []) hC vX6_putJob lX6_73 dX6_submitNow_30 (m_putJob (c := 8) (w := 2) (v := z) hj (by decide) rfl) (fun w => w) isCtx_id rfl 0 6 rfl rfl rfl rfl rfl (by decide) (Nat.le_of_ble_eq_true rfl) ⟨Nat.le_refl _, Nat.le_refl _⟩ ?_
  refine z_aln (pc := 33) hC 1 rfl dX6_submitNow_33 ?_
  refine z_il (pc := 34) hC 0 rfl dX6_submitNow_34 ?_
  refine z_iconst (pc := 36) (v := 3) hC dX6_submitNow_36 (by decide) ?_
  refine z_il (pc := 37) hC 5 rfl dX6_submitNow_37 ?_
  refine z_gv (pc := 39) (rest := []) hC vX6_putJob lX6_73 dX6_submitNow_39 (m_putJob (c := 9) (w := 3) (v := u) hj (by decide) rfl) (fun w => w) isCtx_id rfl 0 6 rfl rfl rfl rfl rfl (by decide) (Nat.le_of_ble_eq_true rfl) ⟨Nat.le_refl _, Nat.le_refl _⟩ ?_
  refine z_aln (pc := 42) hC 1 rfl dX6_submitNow_42 ?_
  refine z_il (pc := 43) hC 0 rfl dX6_submitNow_43 ?_
  refine z_iconst (pc := 45) (v := 4) hC dX6_submitNow_45 (by decide) ?_
  refine z_iconst (pc := 46) (v := 0) hC dX6_submitNow_46 (by decide) ?_
  refine z_gv (pc := 47) (rest := []) hC vX6_putJob lX6_73 dX6_submitNow_47 (m_putJob (c := 10) (w := 4) (v := 0) hj (by decide) rfl) (fun w => w) isCtx_id rfl 0 6 rfl rfl rfl rfl rfl (by decide) (Nat.le_of_ble_eq_true rfl) ⟨Nat.le_refl _, Nat.le_refl _⟩ ?_
  refine z_aln (pc := 50) hC 1 rfl dX6_submitNow_50 ?_
  refine z_il (pc := 51) hC 0 rfl dX6_submitNow_51 ?_
  refine z_iconst (pc := 53) (v := 5) hC dX6_submitNow_53 (by decide) ?_
  refine z_iconst (pc := 54) (v := 0) hC dX6_submitNow_54 (by decide) ?_
  refine z_gv (pc := 55) (rest := []) hC vX6_putJob lX6_73 dX6_submitNow_55 (m_putJob (c := 11) (w := 5) (v := 0) hj (by decide) rfl) (fun w => w) isCtx_id rfl 0 6 rfl rfl rfl rfl rfl (by decide) (Nat.le_of_ble_eq_true rfl) ⟨Nat.le_refl _, Nat.le_refl _⟩ ?_
  refine z_aln (pc := 58) hC 1 rfl dX6_submitNow_58 ?_
  refine z_il (pc := 59) hC 0 rfl dX6_submitNow_59 ?_
  refine z_bipush (pc := 61) (v := 6) hC dX6_submitNow_61 (by decide) ?_
  refine z_iconst (pc := 63) (v := -1) hC dX6_submitNow_63 (by decide) ?_
  refine z_gv (pc := 64) (rest := []) hC vX6_putJob lX6_73 dX6_submitNow_64 (m_putJob (c := 12) (w := 6) (v := -1) hj (by decide) rfl) (fun w => w) isCtx_id rfl 0 6 rfl rfl rfl rfl rfl (by decide) (Nat.le_of_ble_eq_true rfl) ⟨Nat.le_refl _, Nat.le_refl _⟩ ?_
  refine z_aln (pc := 67) hC 1 rfl dX6_submitNow_67 ?_
  refine z_il (pc := 68) hC 0 rfl dX6_submitNow_68 ?_
  refine z_bipush (pc := 70) (v := 7) hC dX6_submitNow_70 (by decide) ?_
  refine z_iconst (pc := 72) (v := 0) hC dX6_submitNow_72 (by decide) ?_
  refine z_gv (pc := 73) (rest := []) hC vX6_putJob lX6_73 dX6_submitNow_73 (m_putJob (c := 13) (w := 7) (v := 0) hj (by decide) rfl) (fun w => w) isCtx_id rfl 0 6 rfl rfl rfl rfl rfl (by decide) (Nat.le_of_ble_eq_true rfl) ⟨Nat.le_refl _, Nat.le_refl _⟩ ?_
  refine z_aln (pc := 76) hC 1 rfl dX6_submitNow_76 ?_
  refine z_get (pc := 77) hC fX6_7 0 rfl rfl dX6_submitNow_77 ?_
  refine z_bipush (pc := 80) (v := 82) hC dX6_submitNow_80 (by decide) ?_
  refine z_dup2 (pc := 82) hC rfl rfl dX6_submitNow_82 ?_
  refine z_iald (pc := 83) hC 1 rfl dX6_submitNow_83 82 rfl (by decide) (by decide) ?_
  refine z_is_ (y := R 14 10) (flat_82 _) ?_
  refine z_iconst (pc := 84) (v := 1) hC dX6_submitNow_84 (by decide) ?_
  refine z_iadd (pc := 85) (v := (R 14 10) + 1) hC rfl dX6_submitNow_85 ?_
  refine z_iast (pc := 86) (ws' := mW g.2 b (setS (setS (setS (setS (setS (setS (setS (setS (setS R 6 n x) 7 n y) 8 n z) 9 n u) 10 n 0) 11 n 0) 12 n (-1)) 13 n 0) 14 10 ((R 14 10) + 1)) F V) hC 1 rfl dX6_submitNow_86 82 rfl (by decide) (by decide) mW_82 ?_
  refine z_il (pc := 87) hC 0 rfl dX6_submitNow_87 ?_
  exact hE _ _ _ () _ _ _ dX6_submitNow_89 rfl rfl rfl (Nat.le_refl _) (Nat.le_refl _)
