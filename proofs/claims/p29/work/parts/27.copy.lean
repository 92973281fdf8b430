theorem ac_l3 : Cond.methodLink RX3 31 arraycopyName ∈ aw := in_aw 479 (by decide +kernel) (by decide +kernel)
theorem ac_l2 : Cond.methodLink RX2 40 arraycopyName ∈ aw := in_aw 486 (by decide +kernel) (by decide +kernel)
theorem ac_s : Cond.static arraycopyName ∈ aw := in_aw 480 (by decide +kernel) (by decide +kernel)
theorem ac_n : Cond.native arraycopyName ∈ aw := in_aw 481 (by decide +kernel) (by decide +kernel)
theorem ac_i : Cond.initialized "java/lang/System" ∈ aw := in_aw 14 (by decide +kernel) (by decide +kernel)
/-- columns copied -/
def cpR (T R : St) : St := fun k => if k < 6 then R k else T k
def cpJ (T R : St) : St := fun k => if k < 6 then T k else if k < 14 then R k else if k = 14 then upd (T 14) 10 (R 14 10) else T k
theorem rW_congr {i : Nat → ClassId} {a : Nat → Nat} {T R : St} (h : ∀ k, k < 14 → T k = R k) (h2 : ∀ k, k < 11 → T 14 k = R 14 k) : rW i a T = rW i a R := by
  unfold rW
  rw [h 0 (by omega), h 1 (by omega), h 2 (by omega), h 3 (by omega), h 4 (by omega), h 5 (by omega), h 6 (by omega), h 7 (by omega), h 8 (by omega), h 9 (by omega), h 10 (by omega), h 11 (by omega), h 12 (by omega), h 13 (by omega), h2 0 (by omega), h2 1 (by omega), h2 2 (by omega), h2 3 (by omega), h2 4 (by omega), h2 5 (by omega), h2 6 (by omega), h2 7 (by omega), h2 8 (by omega), h2 9 (by omega), h2 10 (by omega)]

set_option maxRecDepth 100000 in
set_option maxHeartbeats 4000000 in
theorem c_reelsCopy {g : zG} {a c : Nat → Nat} {T R : St} (hB : ∀ r, r < 12 → R 2 r = 0 ∨ R 2 r = 1) : Gv g yX3_copyFrom cX3_copyFrom 3 1 [.ref (c 1), .ref (a 1)] (rW g.2 c T ++ rW g.2 a R) (rW g.2 c (cpR T R) ++ rW g.2 a R) := by
  refine fv_entry (by decide) (Nat.le_of_ble_eq_true rfl) (fun C hC hm _ hE => ?_)
  have J : Z g C 0 0 (rW g.2 c (va_up (va_up (va_up T 0 (R 0)) 1 (R 1)) 2 (wrt (T 2) (R 2) 0 12)) ++ rW g.2 a R) [(0, .ref (c 1)), (1, .ref (a 1))] 56 [] := by
    refine z_cell (f' := R 2) 5 rfl (fun j hj => wrt_in (T 2) (R 2) hj) (rfl : _ = rW g.2 c (va_up (va_up (va_up T 0 (R 0)) 1 (R 1)) 2 (R 2)) ++ rW g.2 a R) ?_
    refine z_aln (pc := 56) hC 1 rfl dX3_copyFrom_56 ?_
    refine z_get (pc := 57) hC fX3_22 18 rfl rfl dX3_copyFrom_57 ?_
    refine z_iconst (pc := 60) (v := 0) hC dX3_copyFrom_60 (by decide) ?_
    refine z_aln (pc := 61) hC 0 rfl dX3_copyFrom_61 ?_
    refine z_get (pc := 62) hC fX3_22 1 rfl rfl dX3_copyFrom_62 ?_
    refine z_iconst (pc := 65) (v := 0) hC dX3_copyFrom_65 (by decide) ?_
    refine z_bipush (pc := 66) (v := 12) hC dX3_copyFrom_66 (by decide) ?_
    refine z_acopy (pc := 68) (ws' := rW g.2 c (va_up (va_up (va_up (va_up T 0 (R 0)) 1 (R 1)) 2 (R 2)) 3 (R 3)) ++ rW g.2 a R) hC 0 (ty := .int) rfl rfl ac_l3 ac_n ac_s ac_i dX3_copyFrom_68 23 6 rfl rfl (by decide) (fun _ _ => rfl) (by decide) rfl rfl ?_
    refine z_aln (pc := 71) hC 1 rfl dX3_copyFrom_71 ?_
    refine z_get (pc := 72) hC fX3_25 18 rfl rfl dX3_copyFrom_72 ?_
    refine z_iconst (pc := 75) (v := 0) hC dX3_copyFrom_75 (by decide) ?_
    refine z_aln (pc := 76) hC 0 rfl dX3_copyFrom_76 ?_
    refine z_get (pc := 77) hC fX3_25 1 rfl rfl dX3_copyFrom_77 ?_
    refine z_iconst (pc := 80) (v := 0) hC dX3_copyFrom_80 (by decide) ?_
    refine z_bipush (pc := 81) (v := 12) hC dX3_copyFrom_81 (by decide) ?_
    refine z_acopy (pc := 83) (ws' := rW g.2 c (va_up (va_up (va_up (va_up (va_up T 0 (R 0)) 1 (R 1)) 2 (R 2)) 3 (R 3)) 4 (R 4)) ++ rW g.2 a R) hC 0 (ty := .int) rfl rfl ac_l3 ac_n ac_s ac_i dX3_copyFrom_83 24 7 rfl rfl (by decide) (fun _ _ => rfl) (by decide) rfl rfl ?_
    refine z_aln (pc := 86) hC 1 rfl dX3_copyFrom_86 ?_
    refine z_get (pc := 87) hC fX3_28 18 rfl rfl dX3_copyFrom_87 ?_
    refine z_iconst (pc := 90) (v := 0) hC dX3_copyFrom_90 (by decide) ?_
    refine z_aln (pc := 91) hC 0 rfl dX3_copyFrom_91 ?_
    refine z_get (pc := 92) hC fX3_28 1 rfl rfl dX3_copyFrom_92 ?_
    refine z_iconst (pc := 95) (v := 0) hC dX3_copyFrom_95 (by decide) ?_
    refine z_bipush (pc := 96) (v := 12) hC dX3_copyFrom_96 (by decide) ?_
    refine z_acopy (pc := 98) (ws' := rW g.2 c (va_up (va_up (va_up (va_up (va_up (va_up T 0 (R 0)) 1 (R 1)) 2 (R 2)) 3 (R 3)) 4 (R 4)) 5 (R 5)) ++ rW g.2 a R) hC 0 (ty := .int) rfl rfl ac_l3 ac_n ac_s ac_i dX3_copyFrom_98 25 8 rfl rfl (by decide) (fun _ _ => rfl) (by decide) rfl rfl ?_
    exact hE _ _ () _ _ _ dX3_copyFrom_101 trivial rfl (Nat.zero_le _) (Nat.zero_le _)
  have loop : ∀ k m : Nat, m + k = 12 → Z g C 0 0 (rW g.2 c (va_up (va_up (va_up T 0 (R 0)) 1 (R 1)) 2 (wrt (T 2) (R 2) 0 m)) ++ rW g.2 a R) [(2, .int (nI m)), (0, .ref (c 1)), (1, .ref (a 1))] 32 [] := by
    intro k
    induction k with
    | zero =>
      intro m hm2
      have hm3 : m = 12 := by omega
      subst hm3
      refine z_iln (pc := 32) hC 0 rfl dX3_copyFrom_32 ?_
      refine z_bipush (pc := 33) (v := nI 12) hC dX3_copyFrom_33 (by decide) ?_
      refine z_icge (pc := 35) hC 56 (by decide) dX3_copyFrom_35 (fun c35 => ?_) (fun c35 => absurd (nI_le (by omega) (by omega)) c35)
      refine z_lv [1, 2] rfl ?_
      exact J
    | succ k ih =>
      intro m hm2
      refine z_iln (pc := 32) hC 0 rfl dX3_copyFrom_32 ?_
      refine z_bipush (pc := 33) (v := nI 12) hC dX3_copyFrom_33 (by decide) ?_
      refine z_icge (pc := 35) hC 56 (by decide) dX3_copyFrom_35 (fun c35 => absurd c35 (nI_ge (by omega) (by omega))) (fun c35 => ?_)
      refine z_aln (pc := 38) hC 1 rfl dX3_copyFrom_38 ?_
      refine z_get (pc := 39) hC fX3_18 1 rfl rfl dX3_copyFrom_39 ?_
      refine z_iln (pc := 42) hC 0 rfl dX3_copyFrom_42 ?_
      refine z_aln (pc := 43) hC 2 rfl dX3_copyFrom_43 ?_
      refine z_get (pc := 44) hC fX3_18 18 rfl rfl dX3_copyFrom_44 ?_
      refine z_iln (pc := 47) hC 0 rfl dX3_copyFrom_47 ?_
      refine z_zald (pc := 48) hC 22 rfl dX3_copyFrom_48 m rfl (by omega) (by decide) ?_
      refine z_zast (pc := 49) (ws' := rW g.2 c (va_up (va_up (va_up T 0 (R 0)) 1 (R 1)) 2 (wrt (T 2) (R 2) 0 (m + 1))) ++ rW g.2 a R) hC 5 rfl dX3_copyFrom_49 m rfl (by omega) (by decide) (by rcases hB m (by omega) with h | h <;> rw [h] <;> rfl) (congrArg (fun f => rW g.2 c (va_up (va_up (va_up T 0 (R 0)) 1 (R 1)) 2 f) ++ rW g.2 a R) (wrt_s0 (T 2) (R 2) m)) ?_
      refine z_iinc (pc := 50) (v := nI (m + 1)) (j := 0) (lv' := [(2, .int (nI (m + 1))), (0, .ref (c 1)), (1, .ref (a 1))]) hC hm (by decide) rfl (up_step m) rfl dX3_copyFrom_50 ?_
      refine z_goto (pc := 53) hC 32 (by decide) dX3_copyFrom_53 ?_
      refine z_lv [0, 1, 2] rfl ?_
      exact ih (m + 1) (by omega)
  refine z_aln (pc := 0) hC 1 rfl dX3_copyFrom_0 ?_
  refine z_get (pc := 1) hC fX3_9 18 rfl rfl dX3_copyFrom_1 ?_
  refine z_iconst (pc := 4) (v := 0) hC dX3_copyFrom_4 (by decide) ?_
  refine z_aln (pc := 5) hC 0 rfl dX3_copyFrom_5 ?_
  refine z_get (pc := 6) hC fX3_9 1 rfl rfl dX3_copyFrom_6 ?_
  refine z_iconst (pc := 9) (v := 0) hC dX3_copyFrom_9 (by decide) ?_
  refine z_bipush (pc := 10) (v := 12) hC dX3_copyFrom_10 (by decide) ?_
  refine z_acopy (pc := 12) (ws' := rW g.2 c (va_up T 0 (R 0)) ++ rW g.2 a R) hC 0 (ty := .int) rfl rfl ac_l3 ac_n ac_s ac_i dX3_copyFrom_12 20 3 rfl rfl (by decide) (fun _ _ => rfl) (by decide) rfl rfl ?_
  refine z_aln (pc := 15) hC 1 rfl dX3_copyFrom_15 ?_
  refine z_get (pc := 16) hC fX3_15 18 rfl rfl dX3_copyFrom_16 ?_
  refine z_iconst (pc := 19) (v := 0) hC dX3_copyFrom_19 (by decide) ?_
  refine z_aln (pc := 20) hC 0 rfl dX3_copyFrom_20 ?_
  refine z_get (pc := 21) hC fX3_15 1 rfl rfl dX3_copyFrom_21 ?_
  refine z_iconst (pc := 24) (v := 0) hC dX3_copyFrom_24 (by decide) ?_
  refine z_bipush (pc := 25) (v := 12) hC dX3_copyFrom_25 (by decide) ?_
  refine z_acopy (pc := 27) (ws' := rW g.2 c (va_up (va_up T 0 (R 0)) 1 (R 1)) ++ rW g.2 a R) hC 0 (ty := .int) rfl rfl ac_l3 ac_n ac_s ac_i dX3_copyFrom_27 21 4 rfl rfl (by decide) (fun _ _ => rfl) (by decide) rfl rfl ?_
  refine z_iconst (pc := 30) (v := nI 0) hC dX3_copyFrom_30 (by decide) ?_
  refine z_isn (pc := 31) (lv' := [(2, .int (nI 0)), (0, .ref (c 1)), (1, .ref (a 1))]) hC hm (by decide) rfl dX3_copyFrom_31 ?_
  refine z_w (ws' := rW g.2 c (va_up (va_up (va_up T 0 (R 0)) 1 (R 1)) 2 (wrt (T 2) (R 2) 0 0)) ++ rW g.2 a R) (by rw [wrt_0]; rfl) ?_
  refine z_lv [0, 1, 2] rfl ?_
  exact loop 12 0 rfl

set_option maxRecDepth 100000 in
set_option maxHeartbeats 4000000 in
theorem c_jobsCopy {g : zG} {a c : Nat → Nat} {T R : St} : Gv g yX2_copyFrom cX2_copyFrom 2 1 [.ref (c 2), .ref (a 2)] (rW g.2 c T ++ rW g.2 a R) (rW g.2 c (cpJ T R) ++ rW g.2 a R) := by
  refine fv_entry (by decide) (Nat.le_of_ble_eq_true rfl) (fun C hC hm _ hE => ?_)
  refine z_aln (pc := 0) hC 1 rfl dX2_copyFrom_0 ?_
  refine z_get (pc := 1) hC fX2_9 19 rfl rfl dX2_copyFrom_1 ?_
  refine z_iconst (pc := 4) (v := 0) hC dX2_copyFrom_4 (by decide) ?_
  refine z_aln (pc := 5) hC 0 rfl dX2_copyFrom_5 ?_
  refine z_get (pc := 6) hC fX2_9 2 rfl rfl dX2_copyFrom_6 ?_
  refine z_iconst (pc := 9) (v := 0) hC dX2_copyFrom_9 (by decide) ?_
  refine z_bipush (pc := 10) (v := 12) hC dX2_copyFrom_10 (by decide) ?_
  refine z_acopy (pc := 12) (ws' := rW g.2 c (va_up T 6 (R 6)) ++ rW g.2 a R) hC 0 (ty := .int) rfl rfl ac_l2 ac_n ac_s ac_i dX2_copyFrom_12 26 9 rfl rfl (by decide) (fun _ _ => rfl) (by decide) rfl rfl ?_
  refine z_aln (pc := 15) hC 1 rfl dX2_copyFrom_15 ?_
  refine z_get (pc := 16) hC fX2_15 19 rfl rfl dX2_copyFrom_16 ?_
  refine z_iconst (pc := 19) (v := 0) hC dX2_copyFrom_19 (by decide) ?_
  refine z_aln (pc := 20) hC 0 rfl dX2_copyFrom_20 ?_
  refine z_get (pc := 21) hC fX2_15 2 rfl rfl dX2_copyFrom_21 ?_
  refine z_iconst (pc := 24) (v := 0) hC dX2_copyFrom_24 (by decide) ?_
  refine z_bipush (pc := 25) (v := 12) hC dX2_copyFrom_25 (by decide) ?_
  refine z_acopy (pc := 27) (ws' := rW g.2 c (va_up (va_up T 6 (R 6)) 7 (R 7)) ++ rW g.2 a R) hC 0 (ty := .int) rfl rfl ac_l2 ac_n ac_s ac_i dX2_copyFrom_27 27 10 rfl rfl (by decide) (fun _ _ => rfl) (by decide) rfl rfl ?_
  refine z_aln (pc := 30) hC 1 rfl dX2_copyFrom_30 ?_
  refine z_get (pc := 31) hC fX2_18 19 rfl rfl dX2_copyFrom_31 ?_
  refine z_iconst (pc := 34) (v := 0) hC dX2_copyFrom_34 (by decide) ?_
  refine z_aln (pc := 35) hC 0 rfl dX2_copyFrom_35 ?_
  refine z_get (pc := 36) hC fX2_18 2 rfl rfl dX2_copyFrom_36 ?_
  refine z_iconst (pc := 39) (v := 0) hC dX2_copyFrom_39 (by decide) ?_
  refine z_bipush (pc := 40) (v := 12) hC dX2_copyFrom_40 (by decide) ?_
  refine z_acopy (pc := 42) (ws' := rW g.2 c (va_up (va_up (va_up T 6 (R 6)) 7 (R 7)) 8 (R 8)) ++ rW g.2 a R) hC 0 (ty := .int) rfl rfl ac_l2 ac_n ac_s ac_i dX2_copyFrom_42 28 11 rfl rfl (by decide) (fun _ _ => rfl) (by decide) rfl rfl ?_
  refine z_aln (pc := 45) hC 1 rfl dX2_copyFrom_45 ?_
  refine z_get (pc := 46) hC fX2_21 19 rfl rfl dX2_copyFrom_46 ?_
  refine z_iconst (pc := 49) (v := 0) hC dX2_copyFrom_49 (by decide) ?_
  refine z_aln (pc := 50) hC 0 rfl dX2_copyFrom_50 ?_
  refine z_get (pc := 51) hC fX2_21 2 rfl rfl dX2_copyFrom_51 ?_
  refine z_iconst (pc := 54) (v := 0) hC dX2_copyFrom_54 (by decide) ?_
  refine z_bipush (pc := 55) (v := 12) hC dX2_copyFrom_55 (by decide) ?_
  refine z_acopy (pc := 57) (ws' := rW g.2 c (va_up (va_up (va_up (va_up T 6 (R 6)) 7 (R 7)) 8 (R 8)) 9 (R 9)) ++ rW g.2 a R) hC 0 (ty := .int) rfl rfl ac_l2 ac_n ac_s ac_i dX2_copyFrom_57 29 12 rfl rfl (by decide) (fun _ _ => rfl) (by decide) rfl rfl ?_
  refine z_aln (pc := 60) hC 1 rfl dX2_copyFrom_60 ?_
  refine z_get (pc := 61) hC fX2_24 19 rfl rfl dX2_copyFrom_61 ?_
  refine z_iconst (pc := 64) (v := 0) hC dX2_copyFrom_64 (by decide) ?_
  refine z_aln (pc := 65) hC 0 rfl dX2_copyFrom_65 ?_
  refine z_get (pc := 66) hC fX2_24 2 rfl rfl dX2_copyFrom_66 ?_
  refine z_iconst (pc := 69) (v := 0) hC dX2_copyFrom_69 (by decide) ?_
  refine z_bipush (pc := 70) (v := 12) hC dX2_copyFrom_70 (by decide) ?_
  refine z_acopy (pc := 72) (ws' := rW g.2 c (va_up (va_up (va_up (va_up (va_up T 6 (R 6)) 7 (R 7)) 8 (R 8)) 9 (R 9)) 10 (R 10)) ++ rW g.2 a R) hC 0 (ty := .int) rfl rfl ac_l2 ac_n ac_s ac_i dX2_copyFrom_72 30 13 rfl rfl (by decide) (fun _ _ => rfl) (by decide) rfl rfl ?_
  refine z_aln (pc := 75) hC 1 rfl dX2_copyFrom_75 ?_
  refine z_get (pc := 76) hC fX2_27 19 rfl rfl dX2_copyFrom_76 ?_
  refine z_iconst (pc := 79) (v := 0) hC dX2_copyFrom_79 (by decide) ?_
  refine z_aln (pc := 80) hC 0 rfl dX2_copyFrom_80 ?_
  refine z_get (pc := 81) hC fX2_27 2 rfl rfl dX2_copyFrom_81 ?_
  refine z_iconst (pc := 84) (v := 0) hC dX2_copyFrom_84 (by decide) ?_
  refine z_bipush (pc := 85) (v := 12) hC dX2_copyFrom_85 (by decide) ?_
  refine z_acopy (pc := 87) (ws' := rW g.2 c (va_up (va_up (va_up (va_up (va_up (va_up T 6 (R 6)) 7 (R 7)) 8 (R 8)) 9 (R 9)) 10 (R 10)) 11 (R 11)) ++ rW g.2 a R) hC 0 (ty := .int) rfl rfl ac_l2 ac_n ac_s ac_i dX2_copyFrom_87 31 14 rfl rfl (by decide) (fun _ _ => rfl) (by decide) rfl rfl ?_
  refine z_aln (pc := 90) hC 1 rfl dX2_copyFrom_90 ?_
  refine z_get (pc := 91) hC fX2_30 19 rfl rfl dX2_copyFrom_91 ?_
  refine z_iconst (pc := 94) (v := 0) hC dX2_copyFrom_94 (by decide) ?_
  refine z_aln (pc := 95) hC 0 rfl dX2_copyFrom_95 ?_
  refine z_get (pc := 96) hC fX2_30 2 rfl rfl dX2_copyFrom_96 ?_
  refine z_iconst (pc := 99) (v := 0) hC dX2_copyFrom_99 (by decide) ?_
  refine z_bipush (pc := 100) (v := 12) hC dX2_copyFrom_100 (by decide) ?_
  refine z_acopy (pc := 102) (ws' := rW g.2 c (va_up (va_up (va_up (va_up (va_up (va_up (va_up T 6 (R 6)) 7 (R 7)) 8 (R 8)) 9 (R 9)) 10 (R 10)) 11 (R 11)) 12 (R 12)) ++ rW g.2 a R) hC 0 (ty := .int) rfl rfl ac_l2 ac_n ac_s ac_i dX2_copyFrom_102 32 15 rfl rfl (by decide) (fun _ _ => rfl) (by decide) rfl rfl ?_
  refine z_aln (pc := 105) hC 1 rfl dX2_copyFrom_105 ?_
  refine z_get (pc := 106) hC fX2_33 19 rfl rfl dX2_copyFrom_106 ?_
  refine z_iconst (pc := 109) (v := 0) hC dX2_copyFrom_109 (by decide) ?_
  refine z_aln (pc := 110) hC 0 rfl dX2_copyFrom_110 ?_
  refine z_get (pc := 111) hC fX2_33 2 rfl rfl dX2_copyFrom_111 ?_
  refine z_iconst (pc := 114) (v := 0) hC dX2_copyFrom_114 (by decide) ?_
  refine z_bipush (pc := 115) (v := 12) hC dX2_copyFrom_115 (by decide) ?_
  refine z_acopy (pc := 117) (ws' := rW g.2 c (va_up (va_up (va_up (va_up (va_up (va_up (va_up (va_up T 6 (R 6)) 7 (R 7)) 8 (R 8)) 9 (R 9)) 10 (R 10)) 11 (R 11)) 12 (R 12)) 13 (R 13)) ++ rW g.2 a R) hC 0 (ty := .int) rfl rfl ac_l2 ac_n ac_s ac_i dX2_copyFrom_117 33 16 rfl rfl (by decide) (fun _ _ => rfl) (by decide) rfl rfl ?_
  refine z_aln (pc := 120) hC 0 rfl dX2_copyFrom_120 ?_
  refine z_aln (pc := 121) hC 1 rfl dX2_copyFrom_121 ?_
  refine z_get (pc := 122) hC fX2_36 19 rfl rfl dX2_copyFrom_122 ?_
  refine z_put (pc := 125) (ws' := rW g.2 c (setS (va_up (va_up (va_up (va_up (va_up (va_up (va_up (va_up T 6 (R 6)) 7 (R 7)) 8 (R 8)) 9 (R 9)) 10 (R 10)) 11 (R 11)) 12 (R 12)) 13 (R 13)) 14 10 (R 14 10)) ++ rW g.2 a R) hC fX2_36 p2_8 2 rfl (Nat.le_of_ble_eq_true rfl) rfl dX2_copyFrom_125 ?_
  exact hE _ _ () _ _ _ dX2_copyFrom_128 trivial rfl (Nat.zero_le _) (Nat.zero_le _)

def cpN (T R : St) : St := setS (setS (setS (setS (setS (setS (setS (setS (setS (setS (cpJ (cpR T R) R) 14 0 (R 14 0)) 14 8 (R 14 8)) 14 9 (R 14 9)) 14 1 (R 14 1)) 14 2 (R 14 2)) 14 3 (R 14 3)) 14 4 (R 14 4)) 14 5 (R 14 5)) 14 6 (R 14 6)) 14 7 (R 14 7)
theorem cpN_w {i : Nat → ClassId} {c : Nat → Nat} {T R : St} : rW i c (cpN T R) = rW i c R := by
  refine rW_congr (fun k hk => ?_) (fun k hk => ?_)
  · funext j
    unfold cpN
    simp only [setS_at, show k ≠ 14 by omega, false_and, if_false]
    unfold cpJ cpR
    by_cases h6 : k < 6
    · rw [if_pos h6, if_pos h6]
    · rw [if_neg h6, if_pos hk]
  · unfold cpN
    simp only [setS_at, true_and]
    by_cases h10 : k = 10
    · subst h10; simp [cpJ, upd]
    · have : k < 10 := by omega
      repeat' split
      all_goals first | (subst_vars; rfl) | omega | (rename_i h1; omega)

set_option maxRecDepth 100000 in
set_option maxHeartbeats 4000000 in
theorem c_copyFrom {g : zG} {a c : Nat → Nat} {T R : St} (hB : ∀ r, r < 12 → R 2 r = 0 ∨ R 2 r = 1) : Gv g yX4_copyFrom cX4_copyFrom 2 2 [.ref (c 0), .ref (a 0)] (rW g.2 c T ++ rW g.2 a R) (rW g.2 c R ++ rW g.2 a R) := by
  refine fv_entry (by decide) (Nat.le_of_ble_eq_true rfl) (fun C hC hm _ hE => ?_)
  refine z_aln (pc := 0) hC 0 rfl dX4_copyFrom_0 ?_
  refine z_get (pc := 1) hC fX4_12 0 rfl rfl dX4_copyFrom_1 ?_
  refine z_aln (pc := 4) hC 1 rfl dX4_copyFrom_4 ?_
  refine z_get (pc := 5) hC fX4_12 17 rfl rfl dX4_copyFrom_5 ?_
  refine z_gv (pc := 8) (rest := []) hC vX3_copyFrom lX4_56 dX4_copyFrom_8 (c_reelsCopy hB) (fun w => w) isCtx_id rfl 1 3 rfl rfl rfl rfl rfl (by decide) (Nat.le_of_ble_eq_true rfl) ⟨Nat.zero_le _, Nat.zero_le _⟩ ?_
  refine z_aln (pc := 11) hC 0 rfl dX4_copyFrom_11 ?_
  refine z_get (pc := 12) hC fX4_21 0 rfl rfl dX4_copyFrom_12 ?_
  refine z_aln (pc := 15) hC 1 rfl dX4_copyFrom_15 ?_
  refine z_get (pc := 16) hC fX4_21 17 rfl rfl dX4_copyFrom_16 ?_
  refine z_gv (pc := 19) (rest := []) hC vX2_copyFrom lX4_60 dX4_copyFrom_19 c_jobsCopy (fun w => w) isCtx_id rfl 2 2 rfl rfl rfl rfl rfl (by decide) (Nat.le_of_ble_eq_true rfl) ⟨Nat.zero_le _, Nat.zero_le _⟩ ?_
  refine z_aln (pc := 22) hC 0 rfl dX4_copyFrom_22 ?_
  refine z_aln (pc := 23) hC 1 rfl dX4_copyFrom_23 ?_
  refine z_get (pc := 24) hC fX4_25 17 rfl rfl dX4_copyFrom_24 ?_
  refine z_put (pc := 27) (ws' := rW g.2 c (setS (cpJ (cpR T R) R) 14 0 (R 14 0)) ++ rW g.2 a R) hC fX4_25 p4_2 0 rfl (Nat.le_of_ble_eq_true rfl) rfl dX4_copyFrom_27 ?_
  refine z_aln (pc := 30) hC 0 rfl dX4_copyFrom_30 ?_
  refine z_aln (pc := 31) hC 1 rfl dX4_copyFrom_31 ?_
  refine z_get (pc := 32) hC fX4_29 17 rfl rfl dX4_copyFrom_32 ?_
  refine z_put (pc := 35) (ws' := rW g.2 c (setS (setS (cpJ (cpR T R) R) 14 0 (R 14 0)) 14 8 (R 14 8)) ++ rW g.2 a R) hC fX4_29 p4_3 0 rfl (Nat.le_of_ble_eq_true rfl) rfl dX4_copyFrom_35 ?_
  refine z_aln (pc := 38) hC 0 rfl dX4_copyFrom_38 ?_
  refine z_aln (pc := 39) hC 1 rfl dX4_copyFrom_39 ?_
  refine z_get (pc := 40) hC fX4_32 17 rfl rfl dX4_copyFrom_40 ?_
  refine z_put (pc := 43) (ws' := rW g.2 c (setS (setS (setS (cpJ (cpR T R) R) 14 0 (R 14 0)) 14 8 (R 14 8)) 14 9 (R 14 9)) ++ rW g.2 a R) hC fX4_32 p4_4 0 rfl (Nat.le_of_ble_eq_true rfl) rfl dX4_copyFrom_43 ?_
  refine z_aln (pc := 46) hC 0 rfl dX4_copyFrom_46 ?_
  refine z_aln (pc := 47) hC 1 rfl dX4_copyFrom_47 ?_
  refine z_get (pc := 48) hC fX4_35 17 rfl rfl dX4_copyFrom_48 ?_
  refine z_put (pc := 51) (ws' := rW g.2 c (setS (setS (setS (setS (cpJ (cpR T R) R) 14 0 (R 14 0)) 14 8 (R 14 8)) 14 9 (R 14 9)) 14 1 (R 14 1)) ++ rW g.2 a R) hC fX4_35 p4_5 0 rfl (Nat.le_of_ble_eq_true rfl) rfl dX4_copyFrom_51 ?_
  refine z_aln (pc := 54) hC 0 rfl dX4_copyFrom_54 ?_
  refine z_aln (pc := 55) hC 1 rfl dX4_copyFrom_55 ?_
  refine z_get (pc := 56) hC fX4_38 17 rfl rfl dX4_copyFrom_56 ?_
  refine z_put (pc := 59) (ws' := rW g.2 c (setS (setS (setS (setS (setS (cpJ (cpR T R) R) 14 0 (R 14 0)) 14 8 (R 14 8)) 14 9 (R 14 9)) 14 1 (R 14 1)) 14 2 (R 14 2)) ++ rW g.2 a R) hC fX4_38 p4_6 0 rfl (Nat.le_of_ble_eq_true rfl) rfl dX4_copyFrom_59 ?_
  refine z_aln (pc := 62) hC 0 rfl dX4_copyFrom_62 ?_
  refine z_aln (pc := 63) hC 1 rfl dX4_copyFrom_63 ?_
  refine z_get (pc := 64) hC fX4_41 17 rfl rfl dX4_copyFrom_64 ?_
  refine z_put (pc := 67) (ws' := rW g.2 c (setS (setS (setS (setS (setS (setS (cpJ (cpR T R) R) 14 0 (R 14 0)) 14 8 (R 14 8)) 14 9 (R 14 9)) 14 1 (R 14 1)) 14 2 (R 14 2)) 14 3 (R 14 3)) ++ rW g.2 a R) hC fX4_41 p4_7 0 rfl (Nat.le_of_ble_eq_true rfl) rfl dX4_copyFrom_67 ?_
  refine z_aln (pc := 70) hC 0 rfl dX4_copyFrom_70 ?_
  refine z_aln (pc := 71) hC 1 rfl dX4_copyFrom_71 ?_
  refine z_get (pc := 72) hC fX4_44 17 rfl rfl dX4_copyFrom_72 ?_
  refine z_put (pc := 75) (ws' := rW g.2 c (setS (setS (setS (setS (setS (setS (setS (cpJ (cpR T R) R) 14 0 (R 14 0)) 14 8 (R 14 8)) 14 9 (R 14 9)) 14 1 (R 14 1)) 14 2 (R 14 2)) 14 3 (R 14 3)) 14 4 (R 14 4)) ++ rW g.2 a R) hC fX4_44 p4_8 0 rfl (Nat.le_of_ble_eq_true rfl) rfl dX4_copyFrom_75 ?_
  refine z_aln (pc := 78) hC 0 rfl dX4_copyFrom_78 ?_
  refine z_aln (pc := 79) hC 1 rfl dX4_copyFrom_79 ?_
  refine z_get (pc := 80) hC fX4_47 17 rfl rfl dX4_copyFrom_80 ?_
  refine z_put (pc := 83) (ws' := rW g.2 c (setS (setS (setS (setS (setS (setS (setS (setS (cpJ (cpR T R) R) 14 0 (R 14 0)) 14 8 (R 14 8)) 14 9 (R 14 9)) 14 1 (R 14 1)) 14 2 (R 14 2)) 14 3 (R 14 3)) 14 4 (R 14 4)) 14 5 (R 14 5)) ++ rW g.2 a R) hC fX4_47 p4_9 0 rfl (Nat.le_of_ble_eq_true rfl) rfl dX4_copyFrom_83 ?_
  refine z_aln (pc := 86) hC 0 rfl dX4_copyFrom_86 ?_
  refine z_aln (pc := 87) hC 1 rfl dX4_copyFrom_87 ?_
  refine z_get (pc := 88) hC fX4_50 17 rfl rfl dX4_copyFrom_88 ?_
  refine z_put (pc := 91) (ws' := rW g.2 c (setS (setS (setS (setS (setS (setS (setS (setS (setS (cpJ (cpR T R) R) 14 0 (R 14 0)) 14 8 (R 14 8)) 14 9 (R 14 9)) 14 1 (R 14 1)) 14 2 (R 14 2)) 14 3 (R 14 3)) 14 4 (R 14 4)) 14 5 (R 14 5)) 14 6 (R 14 6)) ++ rW g.2 a R) hC fX4_50 p4_10 0 rfl (Nat.le_of_ble_eq_true rfl) rfl dX4_copyFrom_91 ?_
  refine z_aln (pc := 94) hC 0 rfl dX4_copyFrom_94 ?_
  refine z_aln (pc := 95) hC 1 rfl dX4_copyFrom_95 ?_
  refine z_get (pc := 96) hC fX4_53 17 rfl rfl dX4_copyFrom_96 ?_
  refine z_put (pc := 99) (ws' := rW g.2 c (setS (setS (setS (setS (setS (setS (setS (setS (setS (setS (cpJ (cpR T R) R) 14 0 (R 14 0)) 14 8 (R 14 8)) 14 9 (R 14 9)) 14 1 (R 14 1)) 14 2 (R 14 2)) 14 3 (R 14 3)) 14 4 (R 14 4)) 14 5 (R 14 5)) 14 6 (R 14 6)) 14 7 (R 14 7)) ++ rW g.2 a R) hC fX4_53 p4_11 0 rfl (Nat.le_of_ble_eq_true rfl) rfl dX4_copyFrom_99 ?_
  exact hE _ _ () _ _ _ dX4_copyFrom_102 trivial (congrArg (· ++ rW g.2 a R) cpN_w) (Nat.zero_le _) (Nat.zero_le _)
