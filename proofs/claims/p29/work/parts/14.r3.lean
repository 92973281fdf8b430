theorem subm_alt {R : St} {n : Nat} {x y z u : Int32} : setS (setS (setS (setS (setS (setS (setS (setS (setS R 14 10 (R 14 10 + 1)) 6 n x) 7 n y) 8 n z) 9 n u) 10 n 0) 11 n 0) 12 n (-1)) 13 n 0 = subm R n x y z u := by
  unfold subm
  rw [setS_comm R (R 14 10 + 1) _ (Or.inl (by decide)), setS_comm (setS R 6 n x) (R 14 10 + 1) _ (Or.inl (by decide)), setS_comm (setS (setS R 6 n x) 7 n y) (R 14 10 + 1) _ (Or.inl (by decide)), setS_comm (setS (setS (setS R 6 n x) 7 n y) 8 n z) (R 14 10 + 1) _ (Or.inl (by decide)), setS_comm (setS (setS (setS (setS R 6 n x) 7 n y) 8 n z) 9 n u) (R 14 10 + 1) _ (Or.inl (by decide)), setS_comm (setS (setS (setS (setS (setS R 6 n x) 7 n y) 8 n z) 9 n u) 10 n 0) (R 14 10 + 1) _ (Or.inl (by decide)), setS_comm (setS (setS (setS (setS (setS (setS R 6 n x) 7 n y) 8 n z) 9 n u) 10 n 0) 11 n 0) (R 14 10 + 1) _ (Or.inl (by decide)), setS_comm (setS (setS (setS (setS (setS (setS (setS R 6 n x) 7 n y) 8 n z) 9 n u) 10 n 0) 11 n 0) 12 n (-1)) (R 14 10 + 1) _ (Or.inl (by decide))]

set_option maxRecDepth 100000 in
set_option maxHeartbeats 4000000 in
theorem c_add {g : zG} {a : Nat → Nat} {R : St} {n : Nat} (hn : R 14 10 = nI n) (hj : n < 12) {x y z u : Int32} : Gi g yX2_add cX2_add 6 .int 1 [.ref (a 2), .int x, .int y, .int z, .int u] (rW g.2 a R) (nI n) (rW g.2 a (subm R n x y z u)) := by
  refine fi_entry (by decide) (Nat.le_of_ble_eq_true rfl) (fun C hC hm hE => ?_)
  refine z_aln (pc := 0) hC 0 rfl dX2_add_0 ?_
  refine z_g (pc := 1) (rest := []) hC vX2_isFull lX2_50 dX2_add_1 (c_isFull hn (Nat.le_of_lt hj)) (fun w => w) isCtx_id rfl 2 2 rfl rfl rfl rfl rfl (by decide) (Nat.le_of_ble_eq_true rfl) ⟨Nat.le_refl _, Nat.le_refl _⟩ ?_
  refine z_ifeq (pc := 4) hC 9 (by decide) dX2_add_4 (fun c4 => ?_) (fun c4 => absurd (show 12 ≤ n by simpa using bI_n.mp c4) (by omega))
  refine z_aln (pc := 9) hC 0 rfl dX2_add_9 ?_
  refine z_get (pc := 10) hC fX2_36 2 rfl rfl dX2_add_10 ?_
  refine z_is_ (y := nI n) hn ?_
  refine z_is (pc := 13) (lv' := [(5, .int (nI n)), (0, .ref (a 2)), (1, .int x), (2, .int y), (3, .int z), (4, .int u)]) hC hm (by decide) rfl dX2_add_13 ?_
  refine z_aln (pc := 15) hC 1 rfl dX2_add_15 ?_
  refine z_dup (pc := 16) hC rfl dX2_add_16 ?_
  refine z_get (pc := 17) hC fX2_36 2 rfl rfl dX2_add_17 ?_
  refine z_iconst (pc := 20) (v := 1) hC dX2_add_20 (by decide) ?_
  refine z_iadd (pc := 21) (v := (R 14 10) + 1) hC rfl dX2_add_21 ?_
  refine z_put (pc := 22) (ws' := rW g.2 a (setS R 14 10 ((R 14 10) + 1))) hC fX2_36 p2_8 2 rfl (Nat.le_of_ble_eq_true rfl) rW_num dX2_add_22 ?_
  refine z_aln (pc := 25) hC 1 rfl dX2_add_25 ?_
  refine z_get (pc := 26) hC fX2_9 2 rfl rfl dX2_add_26 ?_
  refine z_il (pc := 29) hC 0 rfl dX2_add_29 ?_
  refine z_iln (pc := 31) hC 2 rfl dX2_add_31 ?_
  refine z_iast (pc := 32) (ws' := rW g.2 a (setS (setS R 14 10 ((R 14 10) + 1)) 6 n x)) hC 9 rfl dX2_add_32 n rfl (by omega) (by decide) rW_6 ?_
  refine z_aln (pc := 33) hC 1 rfl dX2_add_33 ?_
  refine z_get (pc := 34) hC fX2_15 2 rfl rfl dX2_add_34 ?_
  refine z_il (pc := 37) hC 0 rfl dX2_add_37 ?_
  refine z_iln (pc := 39) hC 3 rfl dX2_add_39 ?_
  refine z_iast (pc := 40) (ws' := rW g.2 a (setS (setS (setS R 14 10 ((R 14 10) + 1)) 6 n x) 7 n y)) hC 10 rfl dX2_add_40 n rfl (by omega) (by decide) rW_7 ?_
  refine z_aln (pc := 41) hC 1 rfl dX2_add_41 ?_
  refine z_get (pc := 42) hC fX2_18 2 rfl rfl dX2_add_42 ?_
  refine z_il (pc := 45) hC 0 rfl dX2_add_45 ?_
  refine z_iln (pc := 47) hC 4 rfl dX2_add_47 ?_
  refine z_iast (pc := 48) (ws' := rW g.2 a (setS (setS (setS (setS R 14 10 ((R 14 10) + 1)) 6 n x) 7 n y) 8 n z)) hC 11 rfl dX2_add_48 n rfl (by omega) (by decide) rW_8 ?_
  refine z_aln (pc := 49) hC 1 rfl dX2_add_49 ?_
  refine z_get (pc := 50) hC fX2_21 2 rfl rfl dX2_add_50 ?_
  refine z_il (pc := 53) hC 0 rfl dX2_add_53 ?_
  refine z_il (pc := 55) hC 5 rfl dX2_add_55 ?_
  refine z_iast (pc := 57) (ws' := rW g.2 a (setS (setS (setS (setS (setS R 14 10 ((R 14 10) + 1)) 6 n x) 7 n y) 8 n z) 9 n u)) hC 12 rfl dX2_add_57 n rfl (by omega) (by decide) rW_9 ?_
  refine z_aln (pc := 58) hC 1 rfl dX2_add_58 ?_
  refine z_get (pc := 59) hC fX2_24 2 rfl rfl dX2_add_59 ?_
  refine z_il (pc := 62) hC 0 rfl dX2_add_62 ?_
  refine z_iconst (pc := 64) (v := 0) hC dX2_add_64 (by decide) ?_
  refine z_iast (pc := 65) (ws' := rW g.2 a (setS (setS (setS (setS (setS (setS R 14 10 ((R 14 10) + 1)) 6 n x) 7 n y) 8 n z) 9 n u) 10 n 0)) hC 13 rfl dX2_add_65 n rfl (by omega) (by decide) rW_10 ?_
  refine z_aln (pc := 66) hC 1 rfl dX2_add_66 ?_
  refine z_get (pc := 67) hC fX2_27 2 rfl rfl dX2_add_67 ?_
  refine z_il (pc := 70) hC 0 rfl dX2_add_70 ?_
  refine z_iconst (pc := 72) (v := 0) hC dX2_add_72 (by decide) ?_
  refine z_iast (pc := 73) (ws' := rW g.2 a (setS (setS (setS (setS (setS (setS (setS R 14 10 ((R 14 10) + 1)) 6 n x) 7 n y) 8 n z) 9 n u) 10 n 0) 11 n 0)) hC 14 rfl dX2_add_73 n rfl (by omega) (by decide) rW_11 ?_
  refine z_aln (pc := 74) hC 1 rfl dX2_add_74 ?_
  refine z_get (pc := 75) hC fX2_30 2 rfl rfl dX2_add_75 ?_
  refine z_il (pc := 78) hC 0 rfl dX2_add_78 ?_
  refine z_iconst (pc := 80) (v := -1) hC dX2_add_80 (by decide) ?_
  refine z_iast (pc := 81) (ws' := rW g.2 a (setS (setS (setS (setS (setS (setS (setS (setS R 14 10 ((R 14 10) + 1)) 6 n x) 7 n y) 8 n z) 9 n u) 10 n 0) 11 n 0) 12 n (-1))) hC 15 rfl dX2_add_81 n rfl (by omega) (by decide) rW_12 ?_
  refine z_aln (pc := 82) hC 1 rfl dX2_add_82 ?_
  refine z_get (pc := 83) hC fX2_33 2 rfl rfl dX2_add_83 ?_
  refine z_il (pc := 86) hC 0 rfl dX2_add_86 ?_
  refine z_iconst (pc := 88) (v := 0) hC dX2_add_88 (by decide) ?_
  refine z_iast (pc := 89) (ws' := rW g.2 a (setS (setS (setS (setS (setS (setS (setS (setS (setS R 14 10 ((R 14 10) + 1)) 6 n x) 7 n y) 8 n z) 9 n u) 10 n 0) 11 n 0) 12 n (-1)) 13 n 0)) hC 16 rfl dX2_add_89 n rfl (by omega) (by decide) rW_13 ?_
  refine z_il (pc := 90) hC 0 rfl dX2_add_90 ?_
  exact hE _ _ _ () _ _ _ dX2_add_92 rfl rfl (by rw [subm_alt]) (Nat.le_refl _) (Nat.le_refl _)

set_option maxRecDepth 100000 in
set_option maxHeartbeats 4000000 in
theorem c_mount {g : zG} {a : Nat → Nat} {R : St} {j r : Nat} (hj : j < 12) (hr : r < 12) {x : Int32} : Gv g yX4_mount cX4_mount 4 0 [.ref (a 0), .int (nI j), .int (nI r), .int x] (rW g.2 a R) (rW g.2 a (mnt R j r x)) := by
  refine fv_entry (by decide) (Nat.le_of_ble_eq_true rfl) (fun C hC hm _ hE => ?_)
  refine z_aln (pc := 0) hC 0 rfl dX4_mount_0 ?_
  refine z_get (pc := 1) hC fX4_12 0 rfl rfl dX4_mount_1 ?_
  refine z_get (pc := 4) hC fX4_82 1 rfl rfl dX4_mount_4 ?_
  refine z_iln (pc := 7) hC 2 rfl dX4_mount_7 ?_
  refine z_iln (pc := 8) hC 3 rfl dX4_mount_8 ?_
  refine z_iast (pc := 9) (ws' := rW g.2 a (setS R 5 r x)) hC 8 rfl dX4_mount_9 r rfl (by omega) (by decide) rW_5 ?_
  refine z_aln (pc := 10) hC 0 rfl dX4_mount_10 ?_
  refine z_get (pc := 11) hC fX4_21 0 rfl rfl dX4_mount_11 ?_
  refine z_get (pc := 14) hC fX4_75 2 rfl rfl dX4_mount_14 ?_
  refine z_iln (pc := 17) hC 1 rfl dX4_mount_17 ?_
  refine z_iln (pc := 18) hC 2 rfl dX4_mount_18 ?_
  refine z_iast (pc := 19) (ws' := rW g.2 a (setS (setS R 5 r x) 12 j (nI r))) hC 15 rfl dX4_mount_19 j rfl (by omega) (by decide) rW_12 ?_
  refine z_aln (pc := 20) hC 0 rfl dX4_mount_20 ?_
  refine z_get (pc := 21) hC fX4_21 0 rfl rfl dX4_mount_21 ?_
  refine z_get (pc := 24) hC fX4_85 2 rfl rfl dX4_mount_24 ?_
  refine z_iln (pc := 27) hC 1 rfl dX4_mount_27 ?_
  refine z_iconst (pc := 28) (v := 1) hC dX4_mount_28 (by decide) ?_
  refine z_iast (pc := 29) (ws' := rW g.2 a (setS (setS (setS R 5 r x) 12 j (nI r)) 10 j 1)) hC 13 rfl dX4_mount_29 j rfl (by omega) (by decide) rW_10 ?_
  refine z_aln (pc := 30) hC 0 rfl dX4_mount_30 ?_
  refine z_get (pc := 31) hC fX4_21 0 rfl rfl dX4_mount_31 ?_
  refine z_get (pc := 34) hC fX4_117 2 rfl rfl dX4_mount_34 ?_
  refine z_iln (pc := 37) hC 1 rfl dX4_mount_37 ?_
  refine z_iald (pc := 38) hC 9 rfl dX4_mount_38 j rfl (by omega) (by decide) ?_
  refine z_is_ (y := R 6 j) rfl ?_
  refine z_iconst (pc := 39) (v := 2) hC dX4_mount_39 (by decide) ?_
  refine z_icne (pc := 40) hC 107 (by decide) dX4_mount_40 (fun c40 => ?_) (fun c40 => ?_)
  · exact hE _ _ () _ _ _ dX4_mount_107 trivial (by rw [mnt, if_neg c40, setS_comm (setS R 5 r x) _ _ (Or.inl (by decide))]) (Nat.le_refl _) (Nat.le_refl _)
  · refine z_aln (pc := 43) hC 0 rfl dX4_mount_43 ?_
    refine z_get (pc := 44) hC fX4_12 0 rfl rfl dX4_mount_44 ?_
    refine z_get (pc := 47) hC fX4_159 1 rfl rfl dX4_mount_47 ?_
    refine z_iln (pc := 50) hC 2 rfl dX4_mount_50 ?_
    refine z_aln (pc := 51) hC 0 rfl dX4_mount_51 ?_
    refine z_get (pc := 52) hC fX4_21 0 rfl rfl dX4_mount_52 ?_
    refine z_get (pc := 55) hC fX4_162 2 rfl rfl dX4_mount_55 ?_
    refine z_iln (pc := 58) hC 1 rfl dX4_mount_58 ?_
    refine z_iald (pc := 59) hC 10 rfl dX4_mount_59 j rfl (by omega) (by decide) ?_
    refine z_is_ (y := R 7 j) rfl ?_
    refine z_iast (pc := 60) (ws' := rW g.2 a (setS (setS (setS (setS R 5 r x) 12 j (nI r)) 10 j 1) 0 r (R 7 j))) hC 3 rfl dX4_mount_60 r rfl (by omega) (by decide) rW_0 ?_
    refine z_aln (pc := 61) hC 0 rfl dX4_mount_61 ?_
    refine z_get (pc := 62) hC fX4_12 0 rfl rfl dX4_mount_62 ?_
    refine z_get (pc := 65) hC fX4_168 1 rfl rfl dX4_mount_65 ?_
    refine z_iln (pc := 68) hC 2 rfl dX4_mount_68 ?_
    refine z_aln (pc := 69) hC 0 rfl dX4_mount_69 ?_
    refine z_get (pc := 70) hC fX4_21 0 rfl rfl dX4_mount_70 ?_
    refine z_get (pc := 73) hC fX4_162 2 rfl rfl dX4_mount_73 ?_
    refine z_iln (pc := 76) hC 1 rfl dX4_mount_76 ?_
    refine z_iald (pc := 77) hC 10 rfl dX4_mount_77 j rfl (by omega) (by decide) ?_
    refine z_is_ (y := R 7 j) rfl ?_
    refine z_iast (pc := 78) (ws' := rW g.2 a (setS (setS (setS (setS (setS R 5 r x) 12 j (nI r)) 10 j 1) 0 r (R 7 j)) 1 r (R 7 j))) hC 4 rfl dX4_mount_78 r rfl (by omega) (by decide) rW_1 ?_
    refine z_aln (pc := 79) hC 0 rfl dX4_mount_79 ?_
    refine z_get (pc := 80) hC fX4_12 0 rfl rfl dX4_mount_80 ?_
    refine z_get (pc := 83) hC fX4_171 1 rfl rfl dX4_mount_83 ?_
    refine z_iln (pc := 86) hC 2 rfl dX4_mount_86 ?_
    refine z_aln (pc := 87) hC 0 rfl dX4_mount_87 ?_
    refine z_get (pc := 88) hC fX4_25 0 rfl rfl dX4_mount_88 ?_
    refine z_aln (pc := 91) hC 0 rfl dX4_mount_91 ?_
    refine z_get (pc := 92) hC fX4_32 0 rfl rfl dX4_mount_92 ?_
    refine z_iadd (pc := 95) (v := R 14 0 + R 14 9) hC rfl dX4_mount_95 ?_
    refine z_iast (pc := 96) (ws' := rW g.2 a (setS (setS (setS (setS (setS (setS R 5 r x) 12 j (nI r)) 10 j 1) 0 r (R 7 j)) 1 r (R 7 j)) 3 r (R 14 0 + R 14 9))) hC 6 rfl dX4_mount_96 r rfl (by omega) (by decide) rW_3 ?_
    refine z_aln (pc := 97) hC 0 rfl dX4_mount_97 ?_
    refine z_get (pc := 98) hC fX4_12 0 rfl rfl dX4_mount_98 ?_
    refine z_get (pc := 101) hC fX4_120 1 rfl rfl dX4_mount_101 ?_
    refine z_iln (pc := 104) hC 2 rfl dX4_mount_104 ?_
    refine z_iconst (pc := 105) (v := 0) hC dX4_mount_105 (by decide) ?_
    refine z_iast (pc := 106) (ws' := rW g.2 a (setS (setS (setS (setS (setS (setS (setS R 5 r x) 12 j (nI r)) 10 j 1) 0 r (R 7 j)) 1 r (R 7 j)) 3 r (R 14 0 + R 14 9)) 4 r 0)) hC 7 rfl dX4_mount_106 r rfl (by omega) (by decide) rW_4 ?_
    exact hE _ _ () _ _ _ dX4_mount_107 trivial (by rw [mnt, if_pos c40, setS_comm (setS R 5 r x) _ _ (Or.inl (by decide))]) (Nat.le_refl _) (Nat.le_refl _)

set_option maxRecDepth 100000 in
set_option maxHeartbeats 4000000 in
theorem c_sendBack {g : zG} {a : Nat → Nat} {R : St} {j r : Nat} (hj : j < 12) (hr : r < 12) : Gv g yX4_sendBack cX4_sendBack 3 1 [.ref (a 0), .int (nI j), .int (nI r)] (rW g.2 a R) (rW g.2 a (sbk R j r)) := by
  refine fv_entry (by decide) (Nat.le_of_ble_eq_true rfl) (fun C hC hm _ hE => ?_)
  refine z_aln (pc := 0) hC 0 rfl dX4_sendBack_0 ?_
  refine z_dup (pc := 1) hC rfl dX4_sendBack_1 ?_
  refine z_get (pc := 2) hC fX4_44 0 rfl rfl dX4_sendBack_2 ?_
  refine z_iconst (pc := 5) (v := 1) hC dX4_sendBack_5 (by decide) ?_
  refine z_iadd (pc := 6) (v := R 14 4 + 1) hC rfl dX4_sendBack_6 ?_
  refine z_put (pc := 7) (ws' := rW g.2 a (setS R 14 4 (R 14 4 + 1))) hC fX4_44 p4_8 0 rfl (Nat.le_of_ble_eq_true rfl) (rW_n 8 4 (by decide)) dX4_sendBack_7 ?_
  refine z_aln (pc := 10) hC 0 rfl dX4_sendBack_10 ?_
  refine z_get (pc := 11) hC fX4_21 0 rfl rfl dX4_sendBack_11 ?_
  refine z_get (pc := 14) hC fX4_174 2 rfl rfl dX4_sendBack_14 ?_
  refine z_iln (pc := 17) hC 1 rfl dX4_sendBack_17 ?_
  refine z_dup2 (pc := 18) hC rfl rfl dX4_sendBack_18 ?_
  refine z_iald (pc := 19) hC 16 rfl dX4_sendBack_19 j rfl (by omega) (by decide) ?_
  refine z_is_ (y := R 13 j) rfl ?_
  refine z_iconst (pc := 20) (v := 1) hC dX4_sendBack_20 (by decide) ?_
  refine z_iadd (pc := 21) (v := (R 13 j) + 1) hC rfl dX4_sendBack_21 ?_
  refine z_iast (pc := 22) (ws' := rW g.2 a (setS (setS R 14 4 (R 14 4 + 1)) 13 j ((R 13 j) + 1))) hC 16 rfl dX4_sendBack_22 j rfl (by omega) (by decide) rW_13 ?_
  refine z_aln (pc := 23) hC 0 rfl dX4_sendBack_23 ?_
  refine z_get (pc := 24) hC fX4_12 0 rfl rfl dX4_sendBack_24 ?_
  refine z_get (pc := 27) hC fX4_168 1 rfl rfl dX4_sendBack_27 ?_
  refine z_iln (pc := 30) hC 2 rfl dX4_sendBack_30 ?_
  refine z_aln (pc := 31) hC 0 rfl dX4_sendBack_31 ?_
  refine z_get (pc := 32) hC fX4_12 0 rfl rfl dX4_sendBack_32 ?_
  refine z_iln (pc := 35) hC 2 rfl dX4_sendBack_35 ?_
  refine z_aln (pc := 36) hC 0 rfl dX4_sendBack_36 ?_
  refine z_get (pc := 37) hC fX4_25 0 rfl rfl dX4_sendBack_37 ?_
  refine z_g (pc := 40) (rest := [.int (nI r), .ref (a 4)]) hC vX3_isScratch lX4_165 dX4_sendBack_40 (c_isScratch hr rfl) (fun w => w) isCtx_id rfl 1 3 rfl rfl rfl rfl rfl (by decide) (Nat.le_of_ble_eq_true rfl) ⟨Nat.le_refl _, Nat.le_refl _⟩ ?_
  refine z_is_ (y := bI (scr R r)) rfl ?_
  refine z_ifeq (pc := 43) hC 50 (by decide) dX4_sendBack_43 (fun c43 => ?_) (fun c43 => ?_)
  · refine z_aln (pc := 50) hC 0 rfl dX4_sendBack_50 ?_
    refine z_get (pc := 51) hC fX4_12 0 rfl rfl dX4_sendBack_51 ?_
    refine z_get (pc := 54) hC fX4_159 1 rfl rfl dX4_sendBack_54 ?_
    refine z_iln (pc := 57) hC 2 rfl dX4_sendBack_57 ?_
    refine z_iald (pc := 58) hC 3 rfl dX4_sendBack_58 r rfl (by omega) (by decide) ?_
    refine z_is_ (y := R 0 r) rfl ?_
    refine z_is_ (y := if scr R r = true then 0 else R 0 r) (by simp [bI_0.mp c43]) ?_
    refine z_iast (pc := 59) (ws' := rW g.2 a (setS (setS (setS R 14 4 (R 14 4 + 1)) 13 j ((R 13 j) + 1)) 1 r (if scr R r = true then 0 else R 0 r))) hC 4 rfl dX4_sendBack_59 r rfl (by omega) (by decide) rW_1 ?_
    exact hE _ _ () _ _ _ dX4_sendBack_60 trivial (by unfold sbk; rw [setS_comm (setS R 14 4 _) _ _ (Or.inl (by decide)), setS_comm R (R 14 4 + 1) _ (Or.inl (by decide)), setS_comm (setS R 1 r _) (R 14 4 + 1) _ (Or.inl (by decide))]) (Nat.le_refl _) (Nat.le_refl _)
  · refine z_iconst (pc := 46) (v := 0) hC dX4_sendBack_46 (by decide) ?_
    refine z_goto (pc := 47) hC 59 (by decide) dX4_sendBack_47 ?_
    refine z_is_ (y := if scr R r = true then 0 else R 0 r) (by simp [bI_n.mp c43]) ?_
    refine z_iast (pc := 59) (ws' := rW g.2 a (setS (setS (setS R 14 4 (R 14 4 + 1)) 13 j ((R 13 j) + 1)) 1 r (if scr R r = true then 0 else R 0 r))) hC 4 rfl dX4_sendBack_59 r rfl (by omega) (by decide) rW_1 ?_
    exact hE _ _ () _ _ _ dX4_sendBack_60 trivial (by unfold sbk; rw [setS_comm (setS R 14 4 _) _ _ (Or.inl (by decide)), setS_comm R (R 14 4 + 1) _ (Or.inl (by decide)), setS_comm (setS R 1 r _) (R 14 4 + 1) _ (Or.inl (by decide))]) (Nat.le_refl _) (Nat.le_refl _)

set_option maxRecDepth 100000 in
set_option maxHeartbeats 4000000 in
theorem c_moveBlock {g : zG} {a : Nat → Nat} {R : St} {j r : Nat} (hj : j < 12) (hr : r < 12) (h : R 12 j = nI r) (h99 : R 4 r ≤ 99) : Gv g yX4_moveBlock cX4_moveBlock 3 2 [.ref (a 0), .int (nI j)] (rW g.2 a R) (rW g.2 a (blk R j r)) := by
  refine fv_entry (by decide) (Nat.le_of_ble_eq_true rfl) (fun C hC hm _ hE => ?_)
  refine z_aln (pc := 0) hC 0 rfl dX4_moveBlock_0 ?_
  refine z_get (pc := 1) hC fX4_21 0 rfl rfl dX4_moveBlock_1 ?_
  refine z_get (pc := 4) hC fX4_75 2 rfl rfl dX4_moveBlock_4 ?_
  refine z_iln (pc := 7) hC 1 rfl dX4_moveBlock_7 ?_
  refine z_iald (pc := 8) hC 15 rfl dX4_moveBlock_8 j rfl (by omega) (by decide) ?_
  refine z_is_ (y := nI r) h ?_
  refine z_isn (pc := 9) (lv' := [(2, .int (nI r)), (0, .ref (a 0)), (1, .int (nI j))]) hC hm (by decide) rfl dX4_moveBlock_9 ?_
  refine z_aln (pc := 10) hC 1 rfl dX4_moveBlock_10 ?_
  refine z_get (pc := 11) hC fX4_21 0 rfl rfl dX4_moveBlock_11 ?_
  refine z_get (pc := 14) hC fX4_99 2 rfl rfl dX4_moveBlock_14 ?_
  refine z_iln (pc := 17) hC 2 rfl dX4_moveBlock_17 ?_
  refine z_dup2 (pc := 18) hC rfl rfl dX4_moveBlock_18 ?_
  refine z_iald (pc := 19) hC 14 rfl dX4_moveBlock_19 j rfl (by omega) (by decide) ?_
  refine z_iconst (pc := 20) (v := 1) hC dX4_moveBlock_20 (by decide) ?_
  refine z_iadd (pc := 21) (v := (R 11 j) + 1) hC rfl dX4_moveBlock_21 ?_
  refine z_iast (pc := 22) (ws' := rW g.2 a (setS R 11 j ((R 11 j) + 1))) hC 14 rfl dX4_moveBlock_22 j rfl (by omega) (by decide) rW_11 ?_
  refine z_aln (pc := 23) hC 1 rfl dX4_moveBlock_23 ?_
  refine z_get (pc := 24) hC fX4_21 0 rfl rfl dX4_moveBlock_24 ?_
  refine z_get (pc := 27) hC fX4_117 2 rfl rfl dX4_moveBlock_27 ?_
  refine z_iln (pc := 30) hC 2 rfl dX4_moveBlock_30 ?_
  refine z_iald (pc := 31) hC 9 rfl dX4_moveBlock_31 j rfl (by omega) (by decide) ?_
  refine z_is_ (y := R 6 j) rfl ?_
  refine z_ifne (pc := 32) hC 48 (by decide) dX4_moveBlock_32 (fun c32 => ?_) (fun c32 => ?_)
  · refine z_iln (pc := 48) hC 0 rfl dX4_moveBlock_48 ?_
    refine z_gsN (pc := 49) (rest := []) hC sX5_isReel nX4_79 dX4_moveBlock_49 (c_isReel (x := nI r)) rfl rfl (by decide) (Nat.le_of_ble_eq_true rfl) ⟨Nat.le_refl _, Nat.le_refl _⟩ ?_
    refine z_ifeq (pc := 52) hC 95 (by decide) dX4_moveBlock_52 (fun c52 => absurd c52 (bI_n.mpr (isReel_n hr))) (fun c52 => ?_)
    refine z_aln (pc := 55) hC 1 rfl dX4_moveBlock_55 ?_
    refine z_get (pc := 56) hC fX4_12 0 rfl rfl dX4_moveBlock_56 ?_
    refine z_get (pc := 59) hC fX4_120 1 rfl rfl dX4_moveBlock_59 ?_
    refine z_iln (pc := 62) hC 0 rfl dX4_moveBlock_62 ?_
    refine z_iald (pc := 63) hC 7 rfl dX4_moveBlock_63 r rfl (by omega) (by decide) ?_
    refine z_is_ (y := R 4 r) rfl ?_
    refine z_bipush (pc := 64) (v := 99) hC dX4_moveBlock_64 (by decide) ?_
    refine z_icge (pc := 66) hC 95 (by decide) dX4_moveBlock_66 (fun c66 => ?_) (fun c66 => ?_)
    · refine z_aln (pc := 95) hC 1 rfl dX4_moveBlock_95 ?_
      refine z_dup (pc := 96) hC rfl dX4_moveBlock_96 ?_
      refine z_get (pc := 97) hC fX4_53 0 rfl rfl dX4_moveBlock_97 ?_
      refine z_iconst (pc := 100) (v := 1) hC dX4_moveBlock_100 (by decide) ?_
      refine z_iadd (pc := 101) (v := R 14 7 + 1) hC rfl dX4_moveBlock_101 ?_
      refine z_put (pc := 102) (ws' := rW g.2 a (setS (setS R 11 j ((R 11 j) + 1)) 14 7 (R 14 7 + 1))) hC fX4_53 p4_11 0 rfl (Nat.le_of_ble_eq_true rfl) (rW_n 11 7 (by decide)) dX4_moveBlock_102 ?_
      exact hE _ _ () _ _ _ dX4_moveBlock_105 trivial (by rw [blk, if_neg c32, if_pos (Int32.le_antisymm h99 c66), setS_comm R _ _ (Or.inl (by decide))]) (Nat.le_refl _) (Nat.le_refl _)
    · refine z_aln (pc := 69) hC 1 rfl dX4_moveBlock_69 ?_
      refine z_get (pc := 70) hC fX4_12 0 rfl rfl dX4_moveBlock_70 ?_
      refine z_get (pc := 73) hC fX4_120 1 rfl rfl dX4_moveBlock_73 ?_
      refine z_iln (pc := 76) hC 0 rfl dX4_moveBlock_76 ?_
      refine z_dup2 (pc := 77) hC rfl rfl dX4_moveBlock_77 ?_
      refine z_iald (pc := 78) hC 7 rfl dX4_moveBlock_78 r rfl (by omega) (by decide) ?_
      refine z_is_ (y := R 4 r) rfl ?_
      refine z_iconst (pc := 79) (v := 1) hC dX4_moveBlock_79 (by decide) ?_
      refine z_iadd (pc := 80) (v := (R 4 r) + 1) hC rfl dX4_moveBlock_80 ?_
      refine z_iast (pc := 81) (ws' := rW g.2 a (setS (setS R 11 j ((R 11 j) + 1)) 4 r ((R 4 r) + 1))) hC 7 rfl dX4_moveBlock_81 r rfl (by omega) (by decide) rW_4 ?_
      refine z_aln (pc := 82) hC 1 rfl dX4_moveBlock_82 ?_
      refine z_dup (pc := 83) hC rfl dX4_moveBlock_83 ?_
      refine z_get (pc := 84) hC fX4_50 0 rfl rfl dX4_moveBlock_84 ?_
      refine z_iconst (pc := 87) (v := 1) hC dX4_moveBlock_87 (by decide) ?_
      refine z_iadd (pc := 88) (v := R 14 6 + 1) hC rfl dX4_moveBlock_88 ?_
      refine z_put (pc := 89) (ws' := rW g.2 a (setS (setS (setS R 11 j ((R 11 j) + 1)) 4 r ((R 4 r) + 1)) 14 6 (R 14 6 + 1))) hC fX4_50 p4_10 0 rfl (Nat.le_of_ble_eq_true rfl) (rW_n 10 6 (by decide)) dX4_moveBlock_89 ?_
      refine z_goto (pc := 92) hC 105 (by decide) dX4_moveBlock_92 ?_
      exact hE _ _ () _ _ _ dX4_moveBlock_105 trivial (by rw [blk, if_neg c32, if_neg (fun z => c66 (by rw [z]; exact Int32.le_refl _)), setS_comm R _ (R 4 r + 1) (Or.inl (by decide)), setS_comm (setS R 4 r _) _ (R 14 6 + 1) (Or.inl (by decide))]) (Nat.le_refl _) (Nat.le_refl _)
  · refine z_aln (pc := 35) hC 1 rfl dX4_moveBlock_35 ?_
    refine z_dup (pc := 36) hC rfl dX4_moveBlock_36 ?_
    refine z_get (pc := 37) hC fX4_47 0 rfl rfl dX4_moveBlock_37 ?_
    refine z_iconst (pc := 40) (v := 1) hC dX4_moveBlock_40 (by decide) ?_
    refine z_iadd (pc := 41) (v := R 14 5 + 1) hC rfl dX4_moveBlock_41 ?_
    refine z_put (pc := 42) (ws' := rW g.2 a (setS (setS R 11 j ((R 11 j) + 1)) 14 5 (R 14 5 + 1))) hC fX4_47 p4_9 0 rfl (Nat.le_of_ble_eq_true rfl) (rW_n 9 5 (by decide)) dX4_moveBlock_42 ?_
    refine z_goto (pc := 45) hC 105 (by decide) dX4_moveBlock_45 ?_
    exact hE _ _ () _ _ _ dX4_moveBlock_105 trivial (by rw [blk, if_pos c32, setS_comm R _ _ (Or.inl (by decide))]) (Nat.le_refl _) (Nat.le_refl _)

theorem chs_ok {R : St} {j : Nat} (s : Bool) (h : ¬ fnd R j = -1) : ∃ q, q < 12 ∧ chs R j s = nI q ∧ (s = true → aft R (fnd R j) = nI q) ∧ (s = false → fnd R j = nI q) := by
  obtain ⟨r, hr, e1, e2⟩ := fnd_ne h
  obtain ⟨r2, hr2, e3, -⟩ := aft_ok (x := fnd R j) hr e2
  cases s
  · exact ⟨r, hr, by simp [chs, e1], (fun z => by cases z), fun _ => e1⟩
  · exact ⟨r2, hr2, by simp [chs, h, e3], fun _ => e3, (fun z => by cases z)⟩

set_option maxRecDepth 100000 in
set_option maxHeartbeats 4000000 in
theorem c_serve {g : zG} {a : Nat → Nat} {R : St} {j : Nat} (hj : j < 12) (hne : ¬ fnd R j = -1) (hg : ∀ r, r < 12 → R 2 r = 0 ∨ R 2 r = 1) {x : Int32} : Gv g yX4_serve cX4_serve 5 3 [.ref (a 0), .int (nI j), .int x] (rW g.2 a R) (rW g.2 a (srv R j x)) := by
  refine fv_entry (by decide) (Nat.le_of_ble_eq_true rfl) (fun C hC hm _ hE => ?_)
  obtain ⟨q, hq12, hq, hqt, hqf⟩ := chs_ok (slp R (R 14 2 + 1)) hne
  have J : ∀ Q : St, srv R j x = srv2 Q j q x → (Q 2 q = 0 ∨ Q 2 q = 1) → Z g C 0 0 (rW g.2 a Q) [(4, .int (nI q)), (3, .int (bI (slp R (R 14 2 + 1)))), (0, .ref (a 0)), (1, .int (nI j)), (2, .int x)] 80 [] := by
    intro Q e1 e2
    refine z_aln (pc := 80) hC 2 rfl dX4_serve_80 ?_
    refine z_iln (pc := 81) hC 3 rfl dX4_serve_81 ?_
    refine z_il (pc := 82) hC 0 rfl dX4_serve_82 ?_
    refine z_g (pc := 84) (rest := []) hC vX4_check lX4_148 dX4_serve_84 (c_check hj hq12 e2) (fun w => w) isCtx_id rfl 0 4 rfl rfl rfl rfl rfl (by decide) (Nat.le_of_ble_eq_true rfl) ⟨Nat.le_refl _, Nat.le_refl _⟩ ?_
    refine z_ifne (pc := 87) hC 101 (by decide) dX4_serve_87 (fun c87 => ?_) (fun c87 => ?_)
    · refine z_aln (pc := 101) hC 2 rfl dX4_serve_101 ?_
      refine z_iln (pc := 102) hC 3 rfl dX4_serve_102 ?_
      refine z_il (pc := 103) hC 0 rfl dX4_serve_103 ?_
      refine z_gv (pc := 105) (rest := []) hC vX4_sendBack lX4_156 dX4_serve_105 (c_sendBack hj hq12) (fun w => w) isCtx_id rfl 0 4 rfl rfl rfl rfl rfl (by decide) (Nat.le_of_ble_eq_true rfl) ⟨Nat.le_refl _, Nat.le_refl _⟩ ?_
      exact hE _ _ () _ _ _ dX4_serve_108 trivial (by rw [e1, srv2, if_neg c87]) (Nat.le_refl _) (Nat.le_refl _)
    · refine z_aln (pc := 90) hC 2 rfl dX4_serve_90 ?_
      refine z_iln (pc := 91) hC 3 rfl dX4_serve_91 ?_
      refine z_il (pc := 92) hC 0 rfl dX4_serve_92 ?_
      refine z_iln (pc := 94) hC 4 rfl dX4_serve_94 ?_
      refine z_gv (pc := 95) (rest := []) hC vX4_mount lX4_152 dX4_serve_95 (c_mount hj hq12) (fun w => w) isCtx_id rfl 0 4 rfl rfl rfl rfl rfl (by decide) (Nat.le_of_ble_eq_true rfl) ⟨Nat.le_refl _, Nat.le_refl _⟩ ?_
      refine z_goto (pc := 98) hC 108 (by decide) dX4_serve_98 ?_
      exact hE _ _ () _ _ _ dX4_serve_108 trivial (by rw [e1, srv2, if_pos c87]) (Nat.le_refl _) (Nat.le_refl _)
  refine z_aln (pc := 0) hC 0 rfl dX4_serve_0 ?_
  refine z_dup (pc := 1) hC rfl dX4_serve_1 ?_
  refine z_get (pc := 2) hC fX4_38 0 rfl rfl dX4_serve_2 ?_
  refine z_iconst (pc := 5) (v := 1) hC dX4_serve_5 (by decide) ?_
  refine z_iadd (pc := 6) (v := (R 14 2) + 1) hC rfl dX4_serve_6 ?_
  refine z_put (pc := 7) (ws' := rW g.2 a (setS R 14 2 ((R 14 2) + 1))) hC fX4_38 p4_6 0 rfl (Nat.le_of_ble_eq_true rfl) (rW_n 6 2 (by decide)) dX4_serve_7 ?_
  refine z_aln (pc := 10) hC 0 rfl dX4_serve_10 ?_
  refine z_aln (pc := 11) hC 0 rfl dX4_serve_11 ?_
  refine z_get (pc := 12) hC fX4_38 0 rfl rfl dX4_serve_12 ?_
  refine z_is_ (y := R 14 2 + 1) (setS_eq _ _ _ _) ?_
  refine z_g (pc := 15) (rest := []) hC vX4_isSlip lX4_137 dX4_serve_15 (c_isSlip (x := R 14 2 + 1)) (fun w => w) isCtx_id rfl 0 4 rfl rfl rfl rfl rfl (by decide) (Nat.le_of_ble_eq_true rfl) ⟨Nat.le_refl _, Nat.le_refl _⟩ ?_
  refine z_is_ (y := bI (slp R (R 14 2 + 1))) rfl ?_
  refine z_isn (pc := 18) (lv' := [(3, .int (bI (slp R (R 14 2 + 1)))), (0, .ref (a 0)), (1, .int (nI j)), (2, .int x)]) hC hm (by decide) rfl dX4_serve_18 ?_
  refine z_aln (pc := 19) hC 1 rfl dX4_serve_19 ?_
  refine z_iln (pc := 20) hC 2 rfl dX4_serve_20 ?_
  refine z_iln (pc := 21) hC 0 rfl dX4_serve_21 ?_
  refine z_g (pc := 22) (rest := []) hC vX4_chooseReel lX4_140 dX4_serve_22 (c_chooseReel hj (s := slp R (R 14 2 + 1))) (fun w => w) isCtx_id rfl 0 4 rfl rfl rfl rfl rfl (by decide) (Nat.le_of_ble_eq_true rfl) ⟨Nat.le_refl _, Nat.le_refl _⟩ ?_
  refine z_is_ (y := nI q) hq ?_
  refine z_is (pc := 25) (lv' := [(4, .int (nI q)), (3, .int (bI (slp R (R 14 2 + 1)))), (0, .ref (a 0)), (1, .int (nI j)), (2, .int x)]) hC hm (by decide) rfl dX4_serve_25 ?_
  refine z_il (pc := 27) hC 0 rfl dX4_serve_27 ?_
  refine z_gsN (pc := 29) (rest := []) hC sX5_isReel nX4_79 dX4_serve_29 (c_isReel (x := nI q)) rfl rfl (by decide) (Nat.le_of_ble_eq_true rfl) ⟨Nat.le_refl _, Nat.le_refl _⟩ ?_
  refine z_ifne (pc := 32) hC 36 (by decide) dX4_serve_32 (fun c32 => ?_) (fun c32 => absurd c32 (bI_n.mpr (isReel_n hq12)))
  refine z_iln (pc := 36) hC 1 rfl dX4_serve_36 ?_
  refine z_ifeq (pc := 37) hC 53 (by decide) dX4_serve_37 (fun c37 => ?_) (fun c37 => ?_)
  · refine z_aln (pc := 53) hC 2 rfl dX4_serve_53 ?_
    refine z_get (pc := 54) hC fX4_12 0 rfl rfl dX4_serve_54 ?_
    refine z_get (pc := 57) hC fX4_144 1 rfl rfl dX4_serve_57 ?_
    refine z_il (pc := 60) hC 0 rfl dX4_serve_60 ?_
    refine z_aln (pc := 62) hC 2 rfl dX4_serve_62 ?_
    refine z_get (pc := 63) hC fX4_21 0 rfl rfl dX4_serve_63 ?_
    refine z_get (pc := 66) hC fX4_117 2 rfl rfl dX4_serve_66 ?_
    refine z_iln (pc := 69) hC 3 rfl dX4_serve_69 ?_
    refine z_iald (pc := 70) hC 9 rfl dX4_serve_70 j rfl (by omega) (by decide) ?_
    refine z_is_ (y := R 6 j) rfl ?_
    refine z_ifeq (pc := 71) hC 78 (by decide) dX4_serve_71 (fun c71 => ?_) (fun c71 => ?_)
    · refine z_iconst (pc := 78) (v := 0) hC dX4_serve_78 (by decide) ?_
      refine z_is_ (y := if R 6 j = 0 then 0 else 1) (by simp [c71]) ?_
      refine z_zast (pc := 79) (ws' := rW g.2 a (setS (setS R 14 2 ((R 14 2) + 1)) 2 q (if R 6 j = 0 then 0 else 1))) hC 5 rfl dX4_serve_79 q rfl (by omega) (by decide) (by split <;> rfl) rW_2 ?_
      refine z_lv [0, 1, 2, 3, 4] rfl ?_
      exact J _ (by rw [srv, if_neg (by simp [bI_0.mp c37]), hqf (bI_0.mp c37), nI_clamp (by omega)]) (by rw [setS_eq]; split <;> simp)
    · refine z_iconst (pc := 74) (v := 1) hC dX4_serve_74 (by decide) ?_
      refine z_goto (pc := 75) hC 79 (by decide) dX4_serve_75 ?_
      refine z_is_ (y := if R 6 j = 0 then 0 else 1) (by simp [c71]) ?_
      refine z_zast (pc := 79) (ws' := rW g.2 a (setS (setS R 14 2 ((R 14 2) + 1)) 2 q (if R 6 j = 0 then 0 else 1))) hC 5 rfl dX4_serve_79 q rfl (by omega) (by decide) (by split <;> rfl) rW_2 ?_
      refine z_lv [0, 1, 2, 3, 4] rfl ?_
      exact J _ (by rw [srv, if_neg (by simp [bI_0.mp c37]), hqf (bI_0.mp c37), nI_clamp (by omega)]) (by rw [setS_eq]; split <;> simp)
  · refine z_aln (pc := 40) hC 2 rfl dX4_serve_40 ?_
    refine z_dup (pc := 41) hC rfl dX4_serve_41 ?_
    refine z_get (pc := 42) hC fX4_41 0 rfl rfl dX4_serve_42 ?_
    refine z_iconst (pc := 45) (v := 1) hC dX4_serve_45 (by decide) ?_
    refine z_iadd (pc := 46) (v := R 14 3 + 1) hC rfl dX4_serve_46 ?_
    refine z_put (pc := 47) (ws' := rW g.2 a (setS (setS R 14 2 ((R 14 2) + 1)) 14 3 (R 14 3 + 1))) hC fX4_41 p4_7 0 rfl (Nat.le_of_ble_eq_true rfl) (rW_n 7 3 (by decide)) dX4_serve_47 ?_
    refine z_goto (pc := 50) hC 80 (by decide) dX4_serve_50 ?_
    refine z_lv [0, 1, 2, 3, 4] rfl ?_
    exact J _ (by rw [srv, if_pos (bI_n.mp c37), hqt (bI_n.mp c37), nI_clamp (by omega)]) (hg q hq12)

set_option maxRecDepth 100000 in
set_option maxHeartbeats 4000000 in
theorem c_runMinute {g : zG} {a : Nat → Nat} {R : St} {n : Nat} (hI : Inv R n) : Gi g yX4_runMinute cX4_runMinute 4 .int 4 [.ref (a 0)] (rW g.2 a R) ((minu R n).2) (rW g.2 a ((minu R n).1)) := by
  refine fi_entry (by decide) (Nat.le_of_ble_eq_true rfl) (fun C hC hm hE => ?_)
  have loop : ∀ (k m : Nat) (Q : St) (dn : Int32), m + k = n → Inv Q n → jl m k (Q, dn) = jl 0 n (R, 0) → Z g C 0 0 (rW g.2 a (setS Q 14 1 (R 14 1 + 1))) [(2, .int (nI m)), (1, .int dn), (0, .ref (a 0))] 14 [] := by
    intro k
    induction k with
    | zero =>
      intro m Q dn hm2 hI hjl
      refine z_iln (pc := 14) hC 0 rfl dX4_runMinute_14 ?_
      refine z_aln (pc := 15) hC 2 rfl dX4_runMinute_15 ?_
      refine z_get (pc := 16) hC fX4_21 0 rfl rfl dX4_runMinute_16 ?_
      refine z_get (pc := 19) hC fX4_92 2 rfl rfl dX4_runMinute_19 ?_
      refine z_is_ (y := nI n) hI.2.1 ?_
      refine z_icge (pc := 22) hC 79 (by decide) dX4_runMinute_22 (fun c22 => ?_) (fun c22 => absurd (nI_le (by omega) (by have := hI.1; omega)) c22)
      refine z_aln (pc := 79) hC 2 rfl dX4_runMinute_79 ?_
      refine z_get (pc := 80) hC fX4_12 0 rfl rfl dX4_runMinute_80 ?_
      refine z_g (pc := 83) (rest := []) hC vX3_findEmptyDrive lX4_108 dX4_runMinute_83 (c_findEmptyDrive (R := setS Q 14 1 (R 14 1 + 1)) hI.2.2.2.2) (fun w => w) isCtx_id rfl 1 3 rfl rfl rfl rfl rfl (by decide) (Nat.le_of_ble_eq_true rfl) ⟨Nat.le_refl _, Nat.le_refl _⟩ ?_
      refine z_is_ (y := edr Q) rfl ?_
      refine z_isn (pc := 86) (lv' := [(2, .int (edr Q)), (1, .int dn), (0, .ref (a 0))]) hC hm (by decide) rfl dX4_runMinute_86 ?_
      refine z_iln (pc := 87) hC 0 rfl dX4_runMinute_87 ?_
      refine z_iconst (pc := 88) (v := -1) hC dX4_runMinute_88 (by decide) ?_
      refine z_icne (pc := 89) hC 96 (by decide) dX4_runMinute_89 (fun c89 => ?_) (fun c89 => ?_)
      · refine z_aln (pc := 96) hC 2 rfl dX4_runMinute_96 ?_
        refine z_g (pc := 97) (rest := []) hC vX4_findNextJob lX4_111 dX4_runMinute_97 (c_findNextJob (R := setS Q 14 1 (R 14 1 + 1)) hI.2.1 hI.1 (fun i hi => (hI.2.2.1 i hi).2.2.1)) (fun w => w) isCtx_id rfl 0 4 rfl rfl rfl rfl rfl (by decide) (Nat.le_of_ble_eq_true rfl) ⟨Nat.le_refl _, Nat.le_refl _⟩ ?_
        refine z_is_ (y := nxt Q n) (best_m _ _) ?_
        refine z_isn (pc := 100) (lv' := [(3, .int (nxt Q n)), (2, .int (edr Q)), (1, .int dn), (0, .ref (a 0))]) hC hm (by decide) rfl dX4_runMinute_100 ?_
        refine z_iln (pc := 101) hC 0 rfl dX4_runMinute_101 ?_
        refine z_iconst (pc := 102) (v := -1) hC dX4_runMinute_102 (by decide) ?_
        refine z_iceq (pc := 103) hC 112 (by decide) dX4_runMinute_103 (fun c103 => ?_) (fun c103 => ?_)
        · refine z_iln (pc := 112) hC 2 rfl dX4_runMinute_112 ?_
          exact hE _ _ _ () _ _ _ dX4_runMinute_113 rfl (by simp only [minu, ← hjl, jl]) (by rw [minu_1, ← hjl]; simp only [jl]; rw [sstep_0 (Or.inl c103)]) (Nat.le_refl _) (Nat.le_refl _)
        · obtain ⟨q, hq, hq1, hq2, hq3⟩ := nxt_ok c103
          refine z_aln (pc := 106) hC 3 rfl dX4_runMinute_106 ?_
          refine z_iln (pc := 107) hC 0 rfl dX4_runMinute_107 ?_
          refine z_is_ (y := nI q) hq1 ?_
          refine z_iln (pc := 108) hC 1 rfl dX4_runMinute_108 ?_
          refine z_gv (pc := 109) (rest := []) hC vX4_serve lX4_114 dX4_runMinute_109 (c_serve (R := setS Q 14 1 (R 14 1 + 1)) (j := q) (by have := hI.1; omega) hq3 (fun r hr => (hI.2.2.2.1 r hr).1)) (fun w => w) isCtx_id rfl 0 4 rfl rfl rfl rfl rfl (by decide) (Nat.le_of_ble_eq_true rfl) ⟨Nat.le_refl _, Nat.le_refl _⟩ ?_
          refine z_w (ws' := rW g.2 a (setS (srv Q q (edr Q)) 14 1 (R 14 1 + 1))) (by rw [srv_m]) ?_
          refine z_iln (pc := 112) hC 2 rfl dX4_runMinute_112 ?_
          exact hE _ _ _ () _ _ _ dX4_runMinute_113 rfl (by simp only [minu, ← hjl, jl]) (by rw [minu_1, ← hjl]; simp only [jl]; rw [sstep_1 c103 c89 hq1 (by have := hI.1; omega)]) (Nat.le_refl _) (Nat.le_refl _)
      · refine z_iconst (pc := 92) (v := -1) hC dX4_runMinute_92 (by decide) ?_
        refine z_goto (pc := 93) hC 100 (by decide) dX4_runMinute_93 ?_
        refine z_isn (pc := 100) (lv' := [(3, .int (-1)), (2, .int (edr Q)), (1, .int dn), (0, .ref (a 0))]) hC hm (by decide) rfl dX4_runMinute_100 ?_
        refine z_iln (pc := 101) hC 0 rfl dX4_runMinute_101 ?_
        refine z_iconst (pc := 102) (v := -1) hC dX4_runMinute_102 (by decide) ?_
        refine z_iceq (pc := 103) hC 112 (by decide) dX4_runMinute_103 (fun c103 => ?_) (fun c103 => absurd c103 (by decide))
        refine z_iln (pc := 112) hC 2 rfl dX4_runMinute_112 ?_
        exact hE _ _ _ () _ _ _ dX4_runMinute_113 rfl (by simp only [minu, ← hjl, jl]) (by rw [minu_1, ← hjl]; simp only [jl]; rw [sstep_0 (Or.inr c89)]) (Nat.le_refl _) (Nat.le_refl _)
    | succ k ih =>
      intro m Q dn hm2 hI hjl
      have hm12 : m < 12 := by have := hI.1; omega
      refine z_iln (pc := 14) hC 0 rfl dX4_runMinute_14 ?_
      refine z_aln (pc := 15) hC 2 rfl dX4_runMinute_15 ?_
      refine z_get (pc := 16) hC fX4_21 0 rfl rfl dX4_runMinute_16 ?_
      refine z_get (pc := 19) hC fX4_92 2 rfl rfl dX4_runMinute_19 ?_
      refine z_is_ (y := nI n) hI.2.1 ?_
      refine z_icge (pc := 22) hC 79 (by decide) dX4_runMinute_22 (fun c22 => absurd c22 (nI_ge (by omega) (by have := hI.1; omega))) (fun c22 => ?_)
      refine z_aln (pc := 25) hC 2 rfl dX4_runMinute_25 ?_
      refine z_get (pc := 26) hC fX4_21 0 rfl rfl dX4_runMinute_26 ?_
      refine z_get (pc := 29) hC fX4_85 2 rfl rfl dX4_runMinute_29 ?_
      refine z_iln (pc := 32) hC 0 rfl dX4_runMinute_32 ?_
      refine z_iald (pc := 33) hC 13 rfl dX4_runMinute_33 m rfl (by omega) (by decide) ?_
      refine z_is_ (y := Q 10 m) rfl ?_
      refine z_iconst (pc := 34) (v := 1) hC dX4_runMinute_34 (by decide) ?_
      refine z_icne (pc := 35) hC 73 (by decide) dX4_runMinute_35 (fun c35 => ?_) (fun c35 => ?_)
      · refine z_iinc (pc := 73) (v := nI (m + 1)) (j := 0) (lv' := [(2, .int (nI (m + 1))), (1, .int dn), (0, .ref (a 0))]) hC hm (by decide) rfl (up_step m) rfl dX4_runMinute_73 ?_
        refine z_goto (pc := 76) hC 14 (by decide) dX4_runMinute_76 ?_
        have hst := stp_0 c35
        refine z_lv [0, 1, 2] rfl ?_
        exact ih (m + 1) _ _ (by omega) (by have q := inv_stp hI (show m < n by omega); rw [hst] at q; exact q) (jl_step hst (Int32.add_zero _) hjl)
      · obtain ⟨r, hr, hrl⟩ := (hI.2.2.1 m (by omega)).1 c35
        refine z_aln (pc := 38) hC 2 rfl dX4_runMinute_38 ?_
        refine z_iln (pc := 39) hC 0 rfl dX4_runMinute_39 ?_
        refine z_gv (pc := 40) (rest := []) hC vX4_moveBlock lX4_95 dX4_runMinute_40 (c_moveBlock (R := setS Q 14 1 (R 14 1 + 1)) hm12 hr hrl (hI.2.2.2.1 r hr).2) (fun w => w) isCtx_id rfl 0 4 rfl rfl rfl rfl rfl (by decide) (Nat.le_of_ble_eq_true rfl) ⟨Nat.le_refl _, Nat.le_refl _⟩ ?_
        refine z_w (ws' := rW g.2 a (setS (blk Q m r) 14 1 (R 14 1 + 1))) (by rw [blk_m]) ?_
        refine z_aln (pc := 43) hC 2 rfl dX4_runMinute_43 ?_
        refine z_get (pc := 44) hC fX4_21 0 rfl rfl dX4_runMinute_44 ?_
        refine z_get (pc := 47) hC fX4_99 2 rfl rfl dX4_runMinute_47 ?_
        refine z_iln (pc := 50) hC 0 rfl dX4_runMinute_50 ?_
        refine z_iald (pc := 51) hC 14 rfl dX4_runMinute_51 m rfl (by omega) (by decide) ?_
        refine z_is_ (y := Q 11 m + 1) blk_11 ?_
        refine z_aln (pc := 52) hC 2 rfl dX4_runMinute_52 ?_
        refine z_get (pc := 53) hC fX4_21 0 rfl rfl dX4_runMinute_53 ?_
        refine z_get (pc := 56) hC fX4_102 2 rfl rfl dX4_runMinute_56 ?_
        refine z_iln (pc := 59) hC 0 rfl dX4_runMinute_59 ?_
        refine z_iald (pc := 60) hC 11 rfl dX4_runMinute_60 m rfl (by omega) (by decide) ?_
        refine z_is_ (y := Q 8 m) (blk_c (by decide) (by decide) (by decide)) ?_
        refine z_iclt (pc := 61) hC 73 (by decide) dX4_runMinute_61 (fun c61 => ?_) (fun c61 => ?_)
        · refine z_iinc (pc := 73) (v := nI (m + 1)) (j := 0) (lv' := [(2, .int (nI (m + 1))), (1, .int dn), (0, .ref (a 0))]) hC hm (by decide) rfl (up_step m) rfl dX4_runMinute_73 ?_
          refine z_goto (pc := 76) hC 14 (by decide) dX4_runMinute_76 ?_
          have hst := stp_1 c35 hr hrl (fun z => Int32.lt_irrefl (by rw [z] at c61; exact c61))
          refine z_lv [0, 1, 2] rfl ?_
          exact ih (m + 1) _ _ (by omega) (by have q := inv_stp hI (show m < n by omega); rw [hst] at q; exact q) (jl_step hst (Int32.add_zero _) hjl)
        · refine z_aln (pc := 64) hC 2 rfl dX4_runMinute_64 ?_
          refine z_iln (pc := 65) hC 0 rfl dX4_runMinute_65 ?_
          refine z_iconst (pc := 66) (v := 2) hC dX4_runMinute_66 (by decide) ?_
          refine z_gv (pc := 67) (rest := []) hC vX4_endJob lX4_104 dX4_runMinute_67 (c_endJob (R := setS (blk Q m r) 14 1 (R 14 1 + 1)) (s := 2) hm12 hr (show blk Q m r 12 m = nI r by rw [blk_c (by decide) (by decide) (by decide)]; exact hrl)) (fun w => w) isCtx_id rfl 0 4 rfl rfl rfl rfl rfl (by decide) (Nat.le_of_ble_eq_true rfl) ⟨Nat.le_refl _, Nat.le_refl _⟩ ?_
          refine z_w (ws' := rW g.2 a (setS (toff (setS (blk Q m r) 10 m 2) m r) 14 1 (R 14 1 + 1))) (by rw [toff_m]) ?_
          refine z_iinc (pc := 70) (v := dn + 1) (j := 1) (lv' := [(1, .int (dn + 1)), (2, .int (nI m)), (0, .ref (a 0))]) hC hm (by decide) rfl (by rw [ofInt_1]) rfl dX4_runMinute_70 ?_
          refine z_iinc (pc := 73) (v := nI (m + 1)) (j := 1) (lv' := [(2, .int (nI (m + 1))), (1, .int (dn + 1)), (0, .ref (a 0))]) hC hm (by decide) rfl (up_step m) rfl dX4_runMinute_73 ?_
          refine z_goto (pc := 76) hC 14 (by decide) dX4_runMinute_76 ?_
          have hst := stp_2 c35 hr hrl ((i32_ge_eq ((hI.2.2.1 m (by omega)).2.2.2.1 (Or.inr c35))).mp (Int32.not_lt.mp c61))
          refine z_lv [0, 1, 2] rfl ?_
          exact ih (m + 1) _ _ (by omega) (by have q := inv_stp hI (show m < n by omega); rw [hst] at q; exact q) (jl_step hst rfl hjl)
  refine z_aln (pc := 0) hC 0 rfl dX4_runMinute_0 ?_
  refine z_dup (pc := 1) hC rfl dX4_runMinute_1 ?_
  refine z_get (pc := 2) hC fX4_35 0 rfl rfl dX4_runMinute_2 ?_
  refine z_iconst (pc := 5) (v := 1) hC dX4_runMinute_5 (by decide) ?_
  refine z_iadd (pc := 6) (v := R 14 1 + 1) hC rfl dX4_runMinute_6 ?_
  refine z_put (pc := 7) (ws' := rW g.2 a (setS R 14 1 (R 14 1 + 1))) hC fX4_35 p4_5 0 rfl (Nat.le_of_ble_eq_true rfl) (rW_n 5 1 (by decide)) dX4_runMinute_7 ?_
  refine z_iconst (pc := 10) (v := 0) hC dX4_runMinute_10 (by decide) ?_
  refine z_isn (pc := 11) (lv' := [(1, .int 0), (0, .ref (a 0))]) hC hm (by decide) rfl dX4_runMinute_11 ?_
  refine z_iconst (pc := 12) (v := nI 0) hC dX4_runMinute_12 (by decide) ?_
  refine z_isn (pc := 13) (lv' := [(2, .int (nI 0)), (1, .int 0), (0, .ref (a 0))]) hC hm (by decide) rfl dX4_runMinute_13 ?_
  refine z_lv [0, 1, 2] rfl ?_
  exact loop n 0 _ _ (by omega) hI rfl

set_option maxRecDepth 100000 in
set_option maxHeartbeats 4000000 in
theorem c_runMinutes {g : zG} {a : Nat → Nat} {R : St} {n t : Nat} (hI : Inv R n) (ht : t < 2 ^ 31) : Gi g yX4_runMinutes cX4_runMinutes 4 .int 5 [.ref (a 0), .int (nI t)] (rW g.2 a R) ((pas n t (R, 0)).2) (rW g.2 a ((pas n t (R, 0)).1)) := by
  refine fi_entry (by decide) (Nat.le_of_ble_eq_true rfl) (fun C hC hm hE => ?_)
  have loop : ∀ (k m : Nat) (Q : St) (dn : Int32), m + k = t → Inv Q n → pas n k (Q, dn) = pas n t (R, 0) → Z g C 0 0 (rW g.2 a Q) [(3, .int (nI m)), (2, .int dn), (0, .ref (a 0)), (1, .int (nI t))] 4 [] := by
    intro k
    induction k with
    | zero =>
      intro m Q dn hm2 hI hp
      refine z_iln (pc := 4) hC 0 rfl dX4_runMinutes_4 ?_
      refine z_iln (pc := 5) hC 3 rfl dX4_runMinutes_5 ?_
      refine z_icge (pc := 6) hC 22 (by decide) dX4_runMinutes_6 (fun c6 => ?_) (fun c6 => absurd (nI_le (by omega) (by omega)) c6)
      refine z_iln (pc := 22) hC 1 rfl dX4_runMinutes_22 ?_
      exact hE _ _ _ () _ _ _ dX4_runMinutes_23 rfl (by rw [← hp]; rfl) (by rw [← hp]; rfl) (Nat.le_refl _) (Nat.le_refl _)
    | succ k ih =>
      intro m Q dn hm2 hI hp
      refine z_iln (pc := 4) hC 0 rfl dX4_runMinutes_4 ?_
      refine z_iln (pc := 5) hC 3 rfl dX4_runMinutes_5 ?_
      refine z_icge (pc := 6) hC 22 (by decide) dX4_runMinutes_6 (fun c6 => absurd c6 (nI_ge (by omega) (by omega))) (fun c6 => ?_)
      refine z_iln (pc := 9) hC 1 rfl dX4_runMinutes_9 ?_
      refine z_aln (pc := 10) hC 2 rfl dX4_runMinutes_10 ?_
      refine z_g (pc := 11) (rest := [.int dn]) hC vX4_runMinute lX4_88 dX4_runMinutes_11 (c_runMinute hI) (fun w => w) isCtx_id rfl 0 4 rfl rfl rfl rfl rfl (by decide) (Nat.le_of_ble_eq_true rfl) ⟨Nat.le_refl _, Nat.le_refl _⟩ ?_
      refine z_iadd (pc := 14) (v := dn + (minu Q n).2) hC rfl dX4_runMinutes_14 ?_
      refine z_isn (pc := 15) (lv' := [(2, .int (dn + (minu Q n).2)), (3, .int (nI m)), (0, .ref (a 0)), (1, .int (nI t))]) hC hm (by decide) rfl dX4_runMinutes_15 ?_
      refine z_iinc (pc := 16) (v := nI (m + 1)) (j := 1) (lv' := [(3, .int (nI (m + 1))), (2, .int (dn + (minu Q n).2)), (0, .ref (a 0)), (1, .int (nI t))]) hC hm (by decide) rfl (up_step m) rfl dX4_runMinutes_16 ?_
      refine z_goto (pc := 19) hC 4 (by decide) dX4_runMinutes_19 ?_
      refine z_lv [0, 1, 2, 3] rfl ?_
      exact ih (m + 1) _ _ (by omega) (inv_minu hI) (by rw [← hp]; rfl)
  refine z_iconst (pc := 0) (v := 0) hC dX4_runMinutes_0 (by decide) ?_
  refine z_isn (pc := 1) (lv' := [(2, .int 0), (0, .ref (a 0)), (1, .int (nI t))]) hC hm (by decide) rfl dX4_runMinutes_1 ?_
  refine z_iconst (pc := 2) (v := nI 0) hC dX4_runMinutes_2 (by decide) ?_
  refine z_isn (pc := 3) (lv' := [(3, .int (nI 0)), (2, .int 0), (0, .ref (a 0)), (1, .int (nI t))]) hC hm (by decide) rfl dX4_runMinutes_3 ?_
  refine z_lv [0, 1, 2, 3] rfl ?_
  exact loop t 0 _ _ (by omega) hI rfl
