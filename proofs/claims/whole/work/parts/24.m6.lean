/-- the reference's own rows of the saved states and of the text -/
def mR (F : Nat → Nat → Int32) (V : Nat → Int32) (H : Nat → St) (s : Nat) (t : Nat → Nat) (L : Nat) : Prop :=
  V 0 = nI s ∧ s ≤ 6 ∧ enc (F 0) H s ∧ V 2 = nI L ∧ L ≤ 80 ∧ tOK (F 2) t L
/-- what a call of the reference tells: the exception's number k, the state behind it if there is none, the value -/
def mP (cd : Nat) (val : Int32) (H' : Nat → St) (s' : Nat) (H : Nat → St) (s : Nat) (t : Nat → Nat) (L : Nat) (r : Int32) (S : (Nat → Nat → Int32) × (Nat → Int32)) : Prop :=
  S.2 1 = nI cd ∧ (cd = 0 → mR S.1 S.2 H' s' t L ∧ r = val) ∧ (cd ≠ 0 → mR S.1 S.2 H s t L)
theorem mR_keep {F F' : Nat → Nat → Int32} {V V' : Nat → Int32} {H : Nat → St} {s : Nat} {t : Nat → Nat} {L : Nat} (h : mR F V H s t L) (e0 : V' 0 = V 0) (e2 : V' 2 = V 2) (f0 : F' 0 = F 0) (f2 : F' 2 = F 2) : mR F' V' H s t L :=
  ⟨e0.trans h.1, h.2.1, by rw [f0]; exact h.2.2.1, e2.trans h.2.2.2.1, h.2.2.2.2.1, by rw [f2]; exact h.2.2.2.2.2⟩
theorem mP_f {cd k s s' L : Nat} {val r : Int32} {H H' : Nat → St} {t : Nat → Nat} {F : Nat → Nat → Int32} {V V' : Nat → Int32} (h : mR F V H s t L) (hc : cd = k) (hk : k ≠ 0) (e1 : V' 1 = nI k) (e0 : V' 0 = V 0) (e2 : V' 2 = V 2) : mP cd val H' s' H s t L r (F, V') :=
  ⟨by rw [hc]; exact e1, fun e => absurd (hc.symm.trans e) hk, fun _ => mR_keep h e0 e2 rfl rfl⟩
theorem mP_0 {cd s s' L : Nat} {val r : Int32} {H H' : Nat → St} {t : Nat → Nat} {F' : Nat → Nat → Int32} {V' : Nat → Int32} (hc : cd = 0) (e1 : V' 1 = 0) (h : mR F' V' H' s' t L) (hr : r = val) : mP cd val H' s' H s t L r (F', V') :=
  ⟨by rw [hc]; exact e1, fun _ => ⟨h, hr⟩, fun e => absurd hc e⟩
theorem mR_save {F : Nat → Nat → Int32} {V V' : Nat → Int32} {H : Nat → St} {s : Nat} {t : Nat → Nat} {L : Nat} {f : Nat → Int32} {R : St} (h : mR F V H s t L) (hf : enc f (pushH H s R) (pushN s)) (e0 : V' 0 = nI (pushN s)) (e2 : V' 2 = V 2) : mR (va_up F 0 f) V' (pushH H s R) (pushN s) t L :=
  ⟨e0, pushN_le h.2.1, hf, e2.trans h.2.2.2.1, h.2.2.2.2.1, h.2.2.2.2.2⟩
theorem pushN_n0 {s : Nat} : ¬ pushN s = 0 := by unfold pushN; split <;> omega

set_option maxRecDepth 100000 in
set_option maxHeartbeats 4000000 in
theorem m_submit {g : zG} {b : Nat → Nat} {R : St} {F : Nat → Nat → Int32} {V : Nat → Int32} {H : Nat → St} {s : Nat} {t : Nat → Nat} {L : Nat} (hG : GR R) (hM : mR F V H s t L) {x y z u : Int32} : FI (S := (Nat → Nat → Int32) × (Nat → Int32)) g yX6_submit cX6_submit 5 .int 4 0 0 [.ref (b 0), .int x, .int y, .int z, .int u] (mW g.2 b R F V) (mP (cSub R x y z u) (nI (nn R)) (pushH H s R) (pushN s) H s t L) (fun S => mW g.2 b (if cSub R x y z u = 0 then subm R (nn R) x y z u else R) S.1 S.2) := by
  refine fi_entry (by decide) (Nat.le_of_ble_eq_true rfl) (fun C hC hm hE => ?_)
  refine z_aln (pc := 0) hC 0 rfl dX6_submit_0 ?_
  refine z_iconst (pc := 1) (v := 0) hC dX6_submit_1 (by decide) ?_
  refine z_put (pc := 2) (ws' := mW g.2 b R F (upd V 1 0)) hC fX6_38 p6_4 0 rfl (Nat.le_of_ble_eq_true rfl) (mW_V 4 1 (by decide)) dX6_submit_2 ?_
  refine z_iln (pc := 5) hC 1 rfl dX6_submit_5 ?_
  refine z_iln (pc := 6) hC 2 rfl dX6_submit_6 ?_
  refine z_iln (pc := 7) hC 3 rfl dX6_submit_7 ?_
  refine z_il (pc := 8) hC 4 rfl dX6_submit_8 ?_
  refine z_gs (pc := 10) (rest := []) hC sX6_areRight lX6_112 dX6_submit_10 m_areRight rfl rfl (by decide) (Nat.le_of_ble_eq_true rfl) ⟨Nat.le_refl _, Nat.le_refl _⟩ ?_
  refine z_ifne (pc := 13) hC 22 (by decide) dX6_submit_13 (fun c13 => ?_) (fun c13 => ?_)
  · have h1 : right x y z u = true := bI_n.mp c13
    refine z_aln (pc := 22) hC 0 rfl dX6_submit_22 ?_
    refine z_iln (pc := 23) hC 1 rfl dX6_submit_23 ?_
    refine z_iln (pc := 24) hC 2 rfl dX6_submit_24 ?_
    refine z_g (pc := 25) (rest := []) hC vX6_canSubmit lX6_116 dX6_submit_25 (m_canSubmit hG.num hG.n12) (fun w => w) isCtx_id rfl 0 6 rfl rfl rfl rfl rfl (by decide) (Nat.le_of_ble_eq_true rfl) ⟨Nat.le_refl _, Nat.le_refl _⟩ ?_
    refine z_ifne (pc := 28) hC 37 (by decide) dX6_submit_28 (fun c28 => ?_) (fun c28 => ?_)
    · have h2 : canS R (nn R) x y = true := bI_n.mp c28
      refine z_aln (pc := 37) hC 0 rfl dX6_submit_37 ?_
      refine z_v0 (pc := 38) (rest := []) hC vX6_save lX6_120 dX6_submit_38 (m_save (V := upd V 1 0) ((upd_ne _ _ (by decide)).trans hM.1) hM.2.1 hM.2.2.1) rfl 0 6 rfl rfl rfl rfl rfl (by decide) (Nat.le_of_ble_eq_true rfl) ⟨Nat.le_refl _, Nat.le_refl _⟩ (fun f hf => ?_)
      refine z_aln (pc := 41) hC 0 rfl dX6_submit_41 ?_
      refine z_iln (pc := 42) hC 1 rfl dX6_submit_42 ?_
      refine z_iln (pc := 43) hC 2 rfl dX6_submit_43 ?_
      refine z_iln (pc := 44) hC 3 rfl dX6_submit_44 ?_
      refine z_il (pc := 45) hC 4 rfl dX6_submit_45 ?_
      refine z_g (pc := 47) (rest := []) hC vX6_submitNow lX6_123 dX6_submit_47 (m_submitNow hG.num (canS_n h2)) (fun w => w) isCtx_id rfl 0 6 rfl rfl rfl rfl rfl (by decide) (Nat.le_of_ble_eq_true rfl) ⟨Nat.le_refl _, Nat.le_refl _⟩ ?_
      exact hE _ _ _ (va_up F 0 f, upd (upd V 1 0) 0 (nI (pushN s))) _ _ _ dX6_submit_50 rfl (by have hcd : cSub R x y z u = 0 := (by simp [cSub, h1, h2]); exact mP_0 hcd (by simp [upd]) (mR_save hM hf (by simp [upd]) (by simp [upd])) rfl) (by rw [if_pos (show cSub R x y z u = 0 from (by simp [cSub, h1, h2]))]) (Nat.le_refl _) (Nat.le_refl _)
    · have h2 : canS R (nn R) x y = false := bI_0.mp c28
      refine z_aln (pc := 31) hC 0 rfl dX6_submit_31 ?_
      refine z_iconst (pc := 32) (v := 2) hC dX6_submit_32 (by decide) ?_
      refine z_g (pc := 33) (rest := []) hC vX6_fails lX6_53 dX6_submit_33 (m_fails (x := 2)) (fun w => w) isCtx_id rfl 0 6 rfl rfl rfl rfl rfl (by decide) (Nat.le_of_ble_eq_true rfl) ⟨Nat.le_refl _, Nat.le_refl _⟩ ?_
      exact hE _ _ _ (F, upd (upd V 1 0) 1 2) _ _ _ dX6_submit_36 rfl (by have hcd : cSub R x y z u = 2 := (by simp [cSub, h1, h2]); exact mP_f hM hcd (by decide) (by simp [upd]; rfl) (by simp [upd]) (by simp [upd])) (by rw [if_neg (by rw [show cSub R x y z u = 2 from (by simp [cSub, h1, h2])]; decide)]) (Nat.le_refl _) (Nat.le_refl _)
  · have h1 : right x y z u = false := bI_0.mp c13
    refine z_aln (pc := 16) hC 0 rfl dX6_submit_16 ?_
    refine z_iconst (pc := 17) (v := 1) hC dX6_submit_17 (by decide) ?_
    refine z_g (pc := 18) (rest := []) hC vX6_fails lX6_53 dX6_submit_18 (m_fails (x := 1)) (fun w => w) isCtx_id rfl 0 6 rfl rfl rfl rfl rfl (by decide) (Nat.le_of_ble_eq_true rfl) ⟨Nat.le_refl _, Nat.le_refl _⟩ ?_
    exact hE _ _ _ (F, upd (upd V 1 0) 1 1) _ _ _ dX6_submit_21 rfl (by have hcd : cSub R x y z u = 1 := if_pos h1; exact mP_f hM hcd (by decide) (by simp [upd]; rfl) (by simp [upd]) (by simp [upd])) (by rw [if_neg (by rw [show cSub R x y z u = 1 from if_pos h1]; decide)]) (Nat.le_refl _) (Nat.le_refl _)

theorem pass_ix {x : Int32} (h : inB x 1 99 = true) : ix x < 2 ^ 31 ∧ x = nI (ix x) := by
  obtain ⟨h1, h2⟩ := inB_iff.mp h
  obtain ⟨j, hj, rfl⟩ := nI_of (x := x) (Int32.not_lt.mpr (Int32.le_trans (by decide) h1))
  rw [ix_nI hj]; exact ⟨hj, rfl⟩
theorem mR_set {F : Nat → Nat → Int32} {V V' : Nat → Int32} {H : Nat → St} {s : Nat} {t : Nat → Nat} {L : Nat} (h : mR F V H s t L) (e0 : V' 0 = V 0) (h2 : V' 2 = nI L) : mR F V' H s t L := ⟨e0.trans h.1, h.2.1, h.2.2.1, h2, h.2.2.2.2.1, h.2.2.2.2.2⟩

set_option maxRecDepth 100000 in
set_option maxHeartbeats 4000000 in
theorem m_pass {g : zG} {b : Nat → Nat} {R : St} {F : Nat → Nat → Int32} {V : Nat → Int32} {H : Nat → St} {s : Nat} {t : Nat → Nat} {L : Nat} (hG : GR R) (hM : mR F V H s t L) {x : Int32} : FI (S := (Nat → Nat → Int32) × (Nat → Int32)) g yX6_pass cX6_pass 2 .int 6 0 0 [.ref (b 0), .int x] (mW g.2 b R F V) (mP (cPass x) ((pas (nn R) (ix x) (R, 0)).2) (pushH H s R) (pushN s) H s t L) (fun S => mW g.2 b (if cPass x = 0 then (pas (nn R) (ix x) (R, 0)).1 else R) S.1 S.2) := by
  refine fi_entry (by decide) (Nat.le_of_ble_eq_true rfl) (fun C hC hm hE => ?_)
  refine z_aln (pc := 0) hC 0 rfl dX6_pass_0 ?_
  refine z_iconst (pc := 1) (v := 0) hC dX6_pass_1 (by decide) ?_
  refine z_put (pc := 2) (ws' := mW g.2 b R F (upd V 1 0)) hC fX6_38 p6_4 0 rfl (Nat.le_of_ble_eq_true rfl) (mW_V 4 1 (by decide)) dX6_pass_2 ?_
  refine z_iln (pc := 5) hC 1 rfl dX6_pass_5 ?_
  refine z_iconst (pc := 6) (v := 1) hC dX6_pass_6 (by decide) ?_
  refine z_bipush (pc := 7) (v := 99) hC dX6_pass_7 (by decide) ?_
  refine z_gs (pc := 9) (rest := []) hC sX6_in lX6_42 dX6_pass_9 m_in rfl rfl (by decide) (Nat.le_of_ble_eq_true rfl) ⟨Nat.le_refl _, Nat.le_refl _⟩ ?_
  refine z_ifne (pc := 12) hC 21 (by decide) dX6_pass_12 (fun c12 => ?_) (fun c12 => ?_)
  · have h1 : inB x 1 99 = true := bI_n.mp c12
    obtain ⟨hx1, hx2⟩ := pass_ix h1
    refine z_aln (pc := 21) hC 0 rfl dX6_pass_21 ?_
    refine z_v0 (pc := 22) (rest := []) hC vX6_save lX6_120 dX6_pass_22 (m_save (V := upd V 1 0) ((upd_ne _ _ (by decide)).trans hM.1) hM.2.1 hM.2.2.1) rfl 0 6 rfl rfl rfl rfl rfl (by decide) (Nat.le_of_ble_eq_true rfl) ⟨Nat.le_refl _, Nat.le_refl _⟩ (fun f hf => ?_)
    refine z_aln (pc := 25) hC 0 rfl dX6_pass_25 ?_
    refine z_iln (pc := 26) hC 1 rfl dX6_pass_26 ?_
    refine z_is_ (y := nI (ix x)) hx2 ?_
    refine z_g (pc := 27) (rest := []) hC vX6_passNow lX6_133 dX6_pass_27 (m_passNow hG.1 hx1) (fun w => w) isCtx_id rfl 0 6 rfl rfl rfl rfl rfl (by decide) (Nat.le_of_ble_eq_true rfl) ⟨Nat.le_refl _, Nat.le_refl _⟩ ?_
    exact hE _ _ _ (va_up F 0 f, upd (upd V 1 0) 0 (nI (pushN s))) _ _ _ dX6_pass_30 rfl (by have hcd : cPass x = 0 := (by simp [cPass, h1]); exact mP_0 hcd (by simp [upd]) (mR_save hM hf (by simp [upd]) (by simp [upd])) rfl) (by rw [if_pos (show cPass x = 0 from (by simp [cPass, h1]))]) (Nat.le_refl _) (Nat.le_refl _)
  · have h1 : inB x 1 99 = false := bI_0.mp c12
    refine z_aln (pc := 15) hC 0 rfl dX6_pass_15 ?_
    refine z_iconst (pc := 16) (v := 1) hC dX6_pass_16 (by decide) ?_
    refine z_g (pc := 17) (rest := []) hC vX6_fails lX6_53 dX6_pass_17 (m_fails (x := 1)) (fun w => w) isCtx_id rfl 0 6 rfl rfl rfl rfl rfl (by decide) (Nat.le_of_ble_eq_true rfl) ⟨Nat.le_refl _, Nat.le_refl _⟩ ?_
    exact hE _ _ _ (F, upd (upd V 1 0) 1 1) _ _ _ dX6_pass_20 rfl (by have hcd : cPass x = 1 := if_pos h1; exact mP_f hM hcd (by decide) (by simp [upd]; rfl) (by simp [upd]) (by simp [upd])) (by rw [if_neg (by rw [show cPass x = 1 from if_pos h1]; decide)]) (Nat.le_refl _) (Nat.le_refl _)

set_option maxRecDepth 100000 in
set_option maxHeartbeats 4000000 in
theorem m_savedStates {g : zG} {b : Nat → Nat} {R : St} {F : Nat → Nat → Int32} {V : Nat → Int32} {H : Nat → St} {s : Nat} {t : Nat → Nat} {L : Nat} (hG : GR R) (hM : mR F V H s t L) : FI (S := (Nat → Nat → Int32) × (Nat → Int32)) g yX6_savedStates cX6_savedStates 1 .int 0 0 0 [.ref (b 0)] (mW g.2 b R F V) (mP (0) (nI s) H s H s t L) (fun S => mW g.2 b R S.1 S.2) := by
  refine fi_entry (by decide) (Nat.le_of_ble_eq_true rfl) (fun C hC hm hE => ?_)
  refine z_aln (pc := 0) hC 0 rfl dX6_savedStates_0 ?_
  refine z_iconst (pc := 1) (v := 0) hC dX6_savedStates_1 (by decide) ?_
  refine z_put (pc := 2) (ws' := mW g.2 b R F (upd V 1 0)) hC fX6_38 p6_4 0 rfl (Nat.le_of_ble_eq_true rfl) (mW_V 4 1 (by decide)) dX6_savedStates_2 ?_
  refine z_aln (pc := 5) hC 0 rfl dX6_savedStates_5 ?_
  refine z_get (pc := 6) hC fX6_50 0 rfl rfl dX6_savedStates_6 ?_
  exact hE _ _ _ (F, upd V 1 0) _ _ _ dX6_savedStates_9 rfl (by have hcd : 0 = 0 := rfl; exact mP_0 hcd (by simp [upd]) (mR_keep hM (by simp [upd]) (by simp [upd]) rfl rfl) ((upd_ne _ _ (by decide)).trans hM.1)) rfl (Nat.le_refl _) (Nat.le_refl _)

set_option maxRecDepth 100000 in
set_option maxHeartbeats 4000000 in
theorem m_textLength {g : zG} {b : Nat → Nat} {R : St} {F : Nat → Nat → Int32} {V : Nat → Int32} {H : Nat → St} {s : Nat} {t : Nat → Nat} {L : Nat} (hG : GR R) (hM : mR F V H s t L) : FI (S := (Nat → Nat → Int32) × (Nat → Int32)) g yX6_textLength cX6_textLength 1 .int 0 0 0 [.ref (b 0)] (mW g.2 b R F V) (mP (0) (nI L) H s H s t L) (fun S => mW g.2 b R S.1 S.2) := by
  refine fi_entry (by decide) (Nat.le_of_ble_eq_true rfl) (fun C hC hm hE => ?_)
  refine z_aln (pc := 0) hC 0 rfl dX6_textLength_0 ?_
  refine z_iconst (pc := 1) (v := 0) hC dX6_textLength_1 (by decide) ?_
  refine z_put (pc := 2) (ws' := mW g.2 b R F (upd V 1 0)) hC fX6_38 p6_4 0 rfl (Nat.le_of_ble_eq_true rfl) (mW_V 4 1 (by decide)) dX6_textLength_2 ?_
  refine z_aln (pc := 5) hC 0 rfl dX6_textLength_5 ?_
  refine z_get (pc := 6) hC fX6_136 0 rfl rfl dX6_textLength_6 ?_
  exact hE _ _ _ (F, upd V 1 0) _ _ _ dX6_textLength_9 rfl (by have hcd : 0 = 0 := rfl; exact mP_0 hcd (by simp [upd]) (mR_keep hM (by simp [upd]) (by simp [upd]) rfl rfl) ((upd_ne _ _ (by decide)).trans hM.2.2.2.1)) rfl (Nat.le_refl _) (Nat.le_refl _)

set_option maxRecDepth 100000 in
set_option maxHeartbeats 4000000 in
theorem m_jobs {g : zG} {b : Nat → Nat} {R : St} {F : Nat → Nat → Int32} {V : Nat → Int32} {H : Nat → St} {s : Nat} {t : Nat → Nat} {L : Nat} (hG : GR R) (hM : mR F V H s t L) : FI (S := (Nat → Nat → Int32) × (Nat → Int32)) g yX6_jobs cX6_jobs 1 .int 0 0 0 [.ref (b 0)] (mW g.2 b R F V) (mP (0) (R 14 10) H s H s t L) (fun S => mW g.2 b R S.1 S.2) := by
  refine fi_entry (by decide) (Nat.le_of_ble_eq_true rfl) (fun C hC hm hE => ?_)
  refine z_aln (pc := 0) hC 0 rfl dX6_jobs_0 ?_
  refine z_iconst (pc := 1) (v := 0) hC dX6_jobs_1 (by decide) ?_
  refine z_put (pc := 2) (ws' := mW g.2 b R F (upd V 1 0)) hC fX6_38 p6_4 0 rfl (Nat.le_of_ble_eq_true rfl) (mW_V 4 1 (by decide)) dX6_jobs_2 ?_
  refine z_aln (pc := 5) hC 0 rfl dX6_jobs_5 ?_
  refine z_get (pc := 6) hC fX6_7 0 rfl rfl dX6_jobs_6 ?_
  refine z_bipush (pc := 9) (v := nI 82) hC dX6_jobs_9 (by decide) ?_
  refine z_iald (pc := 11) hC 1 rfl dX6_jobs_11 82 rfl (by omega) (by decide) ?_
  refine z_is_ (y := R 14 10) (flat_82 R) ?_
  exact hE _ _ _ (F, upd V 1 0) _ _ _ dX6_jobs_12 rfl (by have hcd : 0 = 0 := rfl; exact mP_0 hcd (by simp [upd]) (mR_keep hM (by simp [upd]) (by simp [upd]) rfl rfl) rfl) rfl (Nat.le_refl _) (Nat.le_refl _)

set_option maxRecDepth 100000 in
set_option maxHeartbeats 4000000 in
theorem m_nextJob {g : zG} {b : Nat → Nat} {R : St} {F : Nat → Nat → Int32} {V : Nat → Int32} {H : Nat → St} {s : Nat} {t : Nat → Nat} {L : Nat} (hG : GR R) (hM : mR F V H s t L) : FI (S := (Nat → Nat → Int32) × (Nat → Int32)) g yX6_nextJob cX6_nextJob 1 .int 4 0 0 [.ref (b 0)] (mW g.2 b R F V) (mP (0) (nxt R (nn R)) H s H s t L) (fun S => mW g.2 b R S.1 S.2) := by
  refine fi_entry (by decide) (Nat.le_of_ble_eq_true rfl) (fun C hC hm hE => ?_)
  refine z_aln (pc := 0) hC 0 rfl dX6_nextJob_0 ?_
  refine z_iconst (pc := 1) (v := 0) hC dX6_nextJob_1 (by decide) ?_
  refine z_put (pc := 2) (ws' := mW g.2 b R F (upd V 1 0)) hC fX6_38 p6_4 0 rfl (Nat.le_of_ble_eq_true rfl) (mW_V 4 1 (by decide)) dX6_nextJob_2 ?_
  refine z_aln (pc := 5) hC 0 rfl dX6_nextJob_5 ?_
  refine z_g (pc := 6) (rest := []) hC vX6_next lX6_95 dX6_nextJob_6 (m_next hG.num hG.n12) (fun w => w) isCtx_id rfl 0 6 rfl rfl rfl rfl rfl (by decide) (Nat.le_of_ble_eq_true rfl) ⟨Nat.le_refl _, Nat.le_refl _⟩ ?_
  exact hE _ _ _ (F, upd V 1 0) _ _ _ dX6_nextJob_9 rfl (by have hcd : 0 = 0 := rfl; exact mP_0 hcd (by simp [upd]) (mR_keep hM (by simp [upd]) (by simp [upd]) rfl rfl) rfl) rfl (Nat.le_refl _) (Nat.le_refl _)

set_option maxRecDepth 100000 in
set_option maxHeartbeats 4000000 in
theorem m_setSticker {g : zG} {b : Nat → Nat} {R : St} {F : Nat → Nat → Int32} {V : Nat → Int32} {H : Nat → St} {s : Nat} {t : Nat → Nat} {L : Nat} (hG : GR R) (hM : mR F V H s t L) {x y : Int32} : FI (S := (Nat → Nat → Int32) × (Nat → Int32)) g yX6_setSticker cX6_setSticker 4 .int 2 0 0 [.ref (b 0), .int x, .int y] (mW g.2 b R F V) (mP (cSti x y) (R 1 (ix x)) (pushH H s R) (pushN s) H s t L) (fun S => mW g.2 b (if cSti x y = 0 then setS R 1 (ix x) y else R) S.1 S.2) := by
  refine fi_entry (by decide) (Nat.le_of_ble_eq_true rfl) (fun C hC hm hE => ?_)
  refine z_aln (pc := 0) hC 0 rfl dX6_setSticker_0 ?_
  refine z_iconst (pc := 1) (v := 0) hC dX6_setSticker_1 (by decide) ?_
  refine z_put (pc := 2) (ws' := mW g.2 b R F (upd V 1 0)) hC fX6_38 p6_4 0 rfl (Nat.le_of_ble_eq_true rfl) (mW_V 4 1 (by decide)) dX6_setSticker_2 ?_
  refine z_iln (pc := 5) hC 1 rfl dX6_setSticker_5 ?_
  refine z_gs (pc := 6) (rest := []) hC sX6_isReel lX6_130 dX6_setSticker_6 m_isReel rfl rfl (by decide) (Nat.le_of_ble_eq_true rfl) ⟨Nat.le_refl _, Nat.le_refl _⟩ ?_
  refine z_ifne (pc := 9) hC 18 (by decide) dX6_setSticker_9 (fun c9 => ?_) (fun c9 => ?_)
  · have h1 : isReel x = true := bI_n.mp c9
    obtain ⟨hr, hx⟩ := reel_ix h1
    refine z_iln (pc := 18) hC 2 rfl dX6_setSticker_18 ?_
    refine z_iconst (pc := 19) (v := 0) hC dX6_setSticker_19 (by decide) ?_
    refine z_bipush (pc := 20) (v := 99) hC dX6_setSticker_20 (by decide) ?_
    refine z_gs (pc := 22) (rest := []) hC sX6_in lX6_42 dX6_setSticker_22 m_in rfl rfl (by decide) (Nat.le_of_ble_eq_true rfl) ⟨Nat.le_refl _, Nat.le_refl _⟩ ?_
    refine z_ifne (pc := 25) hC 34 (by decide) dX6_setSticker_25 (fun c25 => ?_) (fun c25 => ?_)
    · have h2 : inB y 0 99 = true := bI_n.mp c25
      refine z_aln (pc := 34) hC 0 rfl dX6_setSticker_34 ?_
      refine z_v0 (pc := 35) (rest := []) hC vX6_save lX6_120 dX6_setSticker_35 (m_save (V := upd V 1 0) ((upd_ne _ _ (by decide)).trans hM.1) hM.2.1 hM.2.2.1) rfl 0 6 rfl rfl rfl rfl rfl (by decide) (Nat.le_of_ble_eq_true rfl) ⟨Nat.le_refl _, Nat.le_refl _⟩ (fun f hf => ?_)
      refine z_aln (pc := 38) hC 0 rfl dX6_setSticker_38 ?_
      refine z_iln (pc := 39) hC 1 rfl dX6_setSticker_39 ?_
      refine z_is_ (y := nI (ix x)) hx ?_
      refine z_iconst (pc := 40) (v := nI 1) hC dX6_setSticker_40 (by decide) ?_
      refine z_g (pc := 41) (rest := []) hC vX6_of lX6_46 dX6_setSticker_41 (m_of hr (by decide)) (fun w => w) isCtx_id rfl 0 6 rfl rfl rfl rfl rfl (by decide) (Nat.le_of_ble_eq_true rfl) ⟨Nat.le_refl _, Nat.le_refl _⟩ ?_
      refine z_isn (pc := 44) (lv' := [(3, .int (R 1 (ix x))), (0, .ref (b 0)), (1, .int x), (2, .int y)]) hC hm (by decide) rfl dX6_setSticker_44 ?_
      refine z_aln (pc := 45) hC 1 rfl dX6_setSticker_45 ?_
      refine z_iln (pc := 46) hC 2 rfl dX6_setSticker_46 ?_
      refine z_is_ (y := nI (ix x)) hx ?_
      refine z_iconst (pc := 47) (v := nI 1) hC dX6_setSticker_47 (by decide) ?_
      refine z_iln (pc := 48) hC 3 rfl dX6_setSticker_48 ?_
      refine z_gv (pc := 49) (rest := []) hC vX6_put lX6_34 dX6_setSticker_49 (m_put hr (by decide)) (fun w => w) isCtx_id rfl 0 6 rfl rfl rfl rfl rfl (by decide) (Nat.le_of_ble_eq_true rfl) ⟨Nat.le_refl _, Nat.le_refl _⟩ ?_
      refine z_iln (pc := 52) hC 0 rfl dX6_setSticker_52 ?_
      exact hE _ _ _ (va_up F 0 f, upd (upd V 1 0) 0 (nI (pushN s))) _ _ _ dX6_setSticker_53 rfl (by have hcd : cSti x y = 0 := (by simp [cSti, h1, h2]); exact mP_0 hcd (by simp [upd]) (mR_save hM hf (by simp [upd]) (by simp [upd])) rfl) (by rw [if_pos (show cSti x y = 0 from (by simp [cSti, h1, h2]))]) (Nat.le_refl _) (Nat.le_refl _)
    · have h2 : inB y 0 99 = false := bI_0.mp c25
      refine z_aln (pc := 28) hC 0 rfl dX6_setSticker_28 ?_
      refine z_iconst (pc := 29) (v := 2) hC dX6_setSticker_29 (by decide) ?_
      refine z_g (pc := 30) (rest := []) hC vX6_fails lX6_53 dX6_setSticker_30 (m_fails (x := 2)) (fun w => w) isCtx_id rfl 0 6 rfl rfl rfl rfl rfl (by decide) (Nat.le_of_ble_eq_true rfl) ⟨Nat.le_refl _, Nat.le_refl _⟩ ?_
      exact hE _ _ _ (F, upd (upd V 1 0) 1 2) _ _ _ dX6_setSticker_33 rfl (by have hcd : cSti x y = 2 := (by simp [cSti, h1, h2]); exact mP_f hM hcd (by decide) (by simp [upd]; rfl) (by simp [upd]) (by simp [upd])) (by rw [if_neg (by rw [show cSti x y = 2 from (by simp [cSti, h1, h2])]; decide)]) (Nat.le_refl _) (Nat.le_refl _)
  · have h1 : isReel x = false := bI_0.mp c9
    refine z_aln (pc := 12) hC 0 rfl dX6_setSticker_12 ?_
    refine z_iconst (pc := 13) (v := 1) hC dX6_setSticker_13 (by decide) ?_
    refine z_g (pc := 14) (rest := []) hC vX6_fails lX6_53 dX6_setSticker_14 (m_fails (x := 1)) (fun w => w) isCtx_id rfl 0 6 rfl rfl rfl rfl rfl (by decide) (Nat.le_of_ble_eq_true rfl) ⟨Nat.le_refl _, Nat.le_refl _⟩ ?_
    exact hE _ _ _ (F, upd (upd V 1 0) 1 1) _ _ _ dX6_setSticker_17 rfl (by have hcd : cSti x y = 1 := if_pos h1; exact mP_f hM hcd (by decide) (by simp [upd]; rfl) (by simp [upd]) (by simp [upd])) (by rw [if_neg (by rw [show cSti x y = 1 from if_pos h1]; decide)]) (Nat.le_refl _) (Nat.le_refl _)

set_option maxRecDepth 100000 in
set_option maxHeartbeats 4000000 in
theorem m_nextDay {g : zG} {b : Nat → Nat} {R : St} {F : Nat → Nat → Int32} {V : Nat → Int32} {H : Nat → St} {s : Nat} {t : Nat → Nat} {L : Nat} (hG : GR R) (hM : mR F V H s t L) : FI (S := (Nat → Nat → Int32) × (Nat → Int32)) g yX6_nextDay cX6_nextDay 1 .int 1 0 0 [.ref (b 0)] (mW g.2 b R F V) (mP (cDay R) (R 14 0 + 1) (pushH H s R) (pushN s) H s t L) (fun S => mW g.2 b (if cDay R = 0 then setS R 14 0 (R 14 0 + 1) else R) S.1 S.2) := by
  refine fi_entry (by decide) (Nat.le_of_ble_eq_true rfl) (fun C hC hm hE => ?_)
  refine z_aln (pc := 0) hC 0 rfl dX6_nextDay_0 ?_
  refine z_iconst (pc := 1) (v := 0) hC dX6_nextDay_1 (by decide) ?_
  refine z_put (pc := 2) (ws' := mW g.2 b R F (upd V 1 0)) hC fX6_38 p6_4 0 rfl (Nat.le_of_ble_eq_true rfl) (mW_V 4 1 (by decide)) dX6_nextDay_2 ?_
  refine z_aln (pc := 5) hC 0 rfl dX6_nextDay_5 ?_
  refine z_get (pc := 6) hC fX6_7 0 rfl rfl dX6_nextDay_6 ?_
  refine z_iconst (pc := 9) (v := nI 0) hC dX6_nextDay_9 (by decide) ?_
  refine z_iald (pc := 10) hC 1 rfl dX6_nextDay_10 0 rfl (by omega) (by decide) ?_
  refine z_is_ (y := R 14 0) (flat_num R (by decide)) ?_
  refine z_sipush (pc := 11) (v := 999) hC dX6_nextDay_11 (by decide) ?_
  refine z_icne (pc := 14) hC 23 (by decide) dX6_nextDay_14 (fun c14 => ?_) (fun c14 => ?_)
  · have h1 : ¬ R 14 0 = 999 := c14
    refine z_aln (pc := 23) hC 0 rfl dX6_nextDay_23 ?_
    refine z_v0 (pc := 24) (rest := []) hC vX6_save lX6_120 dX6_nextDay_24 (m_save (V := upd V 1 0) ((upd_ne _ _ (by decide)).trans hM.1) hM.2.1 hM.2.2.1) rfl 0 6 rfl rfl rfl rfl rfl (by decide) (Nat.le_of_ble_eq_true rfl) ⟨Nat.le_refl _, Nat.le_refl _⟩ (fun f hf => ?_)
    refine z_aln (pc := 27) hC 0 rfl dX6_nextDay_27 ?_
    refine z_get (pc := 28) hC fX6_7 0 rfl rfl dX6_nextDay_28 ?_
    refine z_iconst (pc := 31) (v := nI 0) hC dX6_nextDay_31 (by decide) ?_
    refine z_dup2 (pc := 32) hC rfl rfl dX6_nextDay_32 ?_
    refine z_iald (pc := 33) hC 1 rfl dX6_nextDay_33 0 rfl (by omega) (by decide) ?_
    refine z_is_ (y := R 14 0) (flat_num R (by decide)) ?_
    refine z_iconst (pc := 34) (v := 1) hC dX6_nextDay_34 (by decide) ?_
    refine z_iadd (pc := 35) (v := (R 14 0) + 1) hC rfl dX6_nextDay_35 ?_
    refine z_iast (pc := 36) (ws' := mW g.2 b (setS R 14 0 ((R 14 0) + 1)) (va_up F 0 f) (upd (upd V 1 0) 0 (nI (pushN s)))) hC 1 rfl dX6_nextDay_36 0 rfl (by omega) (by decide) (mW_n (by decide)) ?_
    refine z_aln (pc := 37) hC 0 rfl dX6_nextDay_37 ?_
    refine z_get (pc := 38) hC fX6_7 0 rfl rfl dX6_nextDay_38 ?_
    refine z_iconst (pc := 41) (v := nI 0) hC dX6_nextDay_41 (by decide) ?_
    refine z_iald (pc := 42) hC 1 rfl dX6_nextDay_42 0 rfl (by omega) (by decide) ?_
    refine z_is_ (y := R 14 0 + 1) ((flat_num _ (by decide)).trans (setS_eq _ _ _ _)) ?_
    exact hE _ _ _ (va_up F 0 f, upd (upd V 1 0) 0 (nI (pushN s))) _ _ _ dX6_nextDay_43 rfl (by have hcd : cDay R = 0 := if_neg h1; exact mP_0 hcd (by simp [upd]) (mR_save hM hf (by simp [upd]) (by simp [upd])) rfl) (by rw [if_pos (show cDay R = 0 from if_neg h1)]) (Nat.le_refl _) (Nat.le_refl _)
  · have h1 : R 14 0 = 999 := c14
    refine z_aln (pc := 17) hC 0 rfl dX6_nextDay_17 ?_
    refine z_iconst (pc := 18) (v := 1) hC dX6_nextDay_18 (by decide) ?_
    refine z_g (pc := 19) (rest := []) hC vX6_fails lX6_53 dX6_nextDay_19 (m_fails (x := 1)) (fun w => w) isCtx_id rfl 0 6 rfl rfl rfl rfl rfl (by decide) (Nat.le_of_ble_eq_true rfl) ⟨Nat.le_refl _, Nat.le_refl _⟩ ?_
    exact hE _ _ _ (F, upd (upd V 1 0) 1 1) _ _ _ dX6_nextDay_22 rfl (by have hcd : cDay R = 1 := if_pos h1; exact mP_f hM hcd (by decide) (by simp [upd]; rfl) (by simp [upd]) (by simp [upd])) (by rw [if_neg (by rw [show cDay R = 1 from if_pos h1]; decide)]) (Nat.le_refl _) (Nat.le_refl _)

theorem set_ix {x y : Int32} {z : Int32} (hz : z = if x = 0 then 9 else 99) (h1 : inB x 0 1 = true) (h2 : inB y 0 z = false) : cSet x y = 2 := by
  unfold cSet; rw [if_neg (by simp [h1]), ← hz, if_pos h2]
theorem set_ix0 {x y : Int32} {z : Int32} (hz : z = if x = 0 then 9 else 99) (h1 : inB x 0 1 = true) (h2 : inB y 0 z = true) : cSet x y = 0 := by
  unfold cSet; rw [if_neg (by simp [h1]), ← hz, if_neg (by simp [h2])]

set_option maxRecDepth 100000 in
set_option maxHeartbeats 4000000 in
theorem m_set {g : zG} {b : Nat → Nat} {R : St} {F : Nat → Nat → Int32} {V : Nat → Int32} {H : Nat → St} {s : Nat} {t : Nat → Nat} {L : Nat} (hG : GR R) (hM : mR F V H s t L) {x y : Int32} : FI (S := (Nat → Nat → Int32) × (Nat → Int32)) g yX6_set cX6_set 4 .int 1 0 0 [.ref (b 0), .int x, .int y] (mW g.2 b R F V) (mP (cSet x y) (R 14 (8 + ix x)) (pushH H s R) (pushN s) H s t L) (fun S => mW g.2 b (if cSet x y = 0 then setS R 14 (8 + ix x) y else R) S.1 S.2) := by
  refine fi_entry (by decide) (Nat.le_of_ble_eq_true rfl) (fun C hC hm hE => ?_)
  refine z_aln (pc := 0) hC 0 rfl dX6_set_0 ?_
  refine z_iconst (pc := 1) (v := 0) hC dX6_set_1 (by decide) ?_
  refine z_put (pc := 2) (ws' := mW g.2 b R F (upd V 1 0)) hC fX6_38 p6_4 0 rfl (Nat.le_of_ble_eq_true rfl) (mW_V 4 1 (by decide)) dX6_set_2 ?_
  refine z_iln (pc := 5) hC 1 rfl dX6_set_5 ?_
  refine z_iconst (pc := 6) (v := 0) hC dX6_set_6 (by decide) ?_
  refine z_iconst (pc := 7) (v := 1) hC dX6_set_7 (by decide) ?_
  refine z_gs (pc := 8) (rest := []) hC sX6_in lX6_42 dX6_set_8 m_in rfl rfl (by decide) (Nat.le_of_ble_eq_true rfl) ⟨Nat.le_refl _, Nat.le_refl _⟩ ?_
  refine z_ifne (pc := 11) hC 20 (by decide) dX6_set_11 (fun c11 => ?_) (fun c11 => ?_)
  · have h1 : inB x 0 1 = true := bI_n.mp c11
    obtain ⟨hr, hx⟩ := in_ix (n := 1) (by decide) rfl h1
    refine z_iln (pc := 20) hC 2 rfl dX6_set_20 ?_
    refine z_iconst (pc := 21) (v := 0) hC dX6_set_21 (by decide) ?_
    refine z_iln (pc := 22) hC 1 rfl dX6_set_22 ?_
    refine z_ifne (pc := 23) hC 31 (by decide) dX6_set_23 (fun c23 => ?_) (fun c23 => ?_)
    · have hz : (99 : Int32) = if x = 0 then 9 else 99 := (if_neg c23).symm
      refine z_bipush (pc := 31) (v := 99) hC dX6_set_31 (by decide) ?_
      refine z_gs (pc := 33) (rest := []) hC sX6_in lX6_42 dX6_set_33 m_in rfl rfl (by decide) (Nat.le_of_ble_eq_true rfl) ⟨Nat.le_refl _, Nat.le_refl _⟩ ?_
      refine z_ifne (pc := 36) hC 45 (by decide) dX6_set_36 (fun c36 => ?_) (fun c36 => ?_)
      · have h2 := bI_n.mp c36
        refine z_aln (pc := 45) hC 0 rfl dX6_set_45 ?_
        refine z_v0 (pc := 46) (rest := []) hC vX6_save lX6_120 dX6_set_46 (m_save (V := upd V 1 0) ((upd_ne _ _ (by decide)).trans hM.1) hM.2.1 hM.2.2.1) rfl 0 6 rfl rfl rfl rfl rfl (by decide) (Nat.le_of_ble_eq_true rfl) ⟨Nat.le_refl _, Nat.le_refl _⟩ (fun f hf => ?_)
        refine z_aln (pc := 49) hC 0 rfl dX6_set_49 ?_
        refine z_get (pc := 50) hC fX6_7 0 rfl rfl dX6_set_50 ?_
        refine z_bipush (pc := 53) (v := nI 8) hC dX6_set_53 (by decide) ?_
        refine z_iln (pc := 55) hC 1 rfl dX6_set_55 ?_
        refine z_is_ (y := nI (ix x)) hx ?_
        refine z_iadd (pc := 56) (v := nI (8 + ix x)) hC (nI_add _ _) dX6_set_56 ?_
        refine z_iald (pc := 57) hC 1 rfl dX6_set_57 (8 + ix x) rfl (by omega) (by decide) ?_
        refine z_is_ (y := R 14 (8 + ix x)) (flat_num R (by omega)) ?_
        refine z_isn (pc := 58) (lv' := [(3, .int (R 14 (8 + ix x))), (0, .ref (b 0)), (1, .int x), (2, .int y)]) hC hm (by decide) rfl dX6_set_58 ?_
        refine z_aln (pc := 59) hC 1 rfl dX6_set_59 ?_
        refine z_get (pc := 60) hC fX6_7 0 rfl rfl dX6_set_60 ?_
        refine z_bipush (pc := 63) (v := nI 8) hC dX6_set_63 (by decide) ?_
        refine z_iln (pc := 65) hC 2 rfl dX6_set_65 ?_
        refine z_is_ (y := nI (ix x)) hx ?_
        refine z_iadd (pc := 66) (v := nI (8 + ix x)) hC (nI_add _ _) dX6_set_66 ?_
        refine z_iln (pc := 67) hC 3 rfl dX6_set_67 ?_
        refine z_iast (pc := 68) (ws' := mW g.2 b (setS R 14 (8 + ix x) y) (va_up F 0 f) (upd (upd V 1 0) 0 (nI (pushN s)))) hC 1 rfl dX6_set_68 (8 + ix x) rfl (by omega) (by decide) (mW_n (by omega)) ?_
        refine z_iln (pc := 69) hC 0 rfl dX6_set_69 ?_
        exact hE _ _ _ (va_up F 0 f, upd (upd V 1 0) 0 (nI (pushN s))) _ _ _ dX6_set_70 rfl (by have hcd : cSet x y = 0 := (set_ix0 hz h1 h2); exact mP_0 hcd (by simp [upd]) (mR_save hM hf (by simp [upd]) (by simp [upd])) rfl) (by rw [if_pos (show cSet x y = 0 from (set_ix0 hz h1 h2))]) (Nat.le_refl _) (Nat.le_refl _)
      · have h2 := bI_0.mp c36
        refine z_aln (pc := 39) hC 0 rfl dX6_set_39 ?_
        refine z_iconst (pc := 40) (v := 2) hC dX6_set_40 (by decide) ?_
        refine z_g (pc := 41) (rest := []) hC vX6_fails lX6_53 dX6_set_41 (m_fails (x := 2)) (fun w => w) isCtx_id rfl 0 6 rfl rfl rfl rfl rfl (by decide) (Nat.le_of_ble_eq_true rfl) ⟨Nat.le_refl _, Nat.le_refl _⟩ ?_
        exact hE _ _ _ (F, upd (upd V 1 0) 1 2) _ _ _ dX6_set_44 rfl (by have hcd : cSet x y = 2 := (set_ix hz h1 h2); exact mP_f hM hcd (by decide) (by simp [upd]; rfl) (by simp [upd]) (by simp [upd])) (by rw [if_neg (by rw [show cSet x y = 2 from (set_ix hz h1 h2)]; decide)]) (Nat.le_refl _) (Nat.le_refl _)
    · have hz : (9 : Int32) = if x = 0 then 9 else 99 := (if_pos c23).symm
      refine z_bipush (pc := 26) (v := 9) hC dX6_set_26 (by decide) ?_
      refine z_goto (pc := 28) hC 33 (by decide) dX6_set_28 ?_
      refine z_gs (pc := 33) (rest := []) hC sX6_in lX6_42 dX6_set_33 m_in rfl rfl (by decide) (Nat.le_of_ble_eq_true rfl) ⟨Nat.le_refl _, Nat.le_refl _⟩ ?_
      refine z_ifne (pc := 36) hC 45 (by decide) dX6_set_36 (fun c36 => ?_) (fun c36 => ?_)
      · have h2 := bI_n.mp c36
        refine z_aln (pc := 45) hC 0 rfl dX6_set_45 ?_
        refine z_v0 (pc := 46) (rest := []) hC vX6_save lX6_120 dX6_set_46 (m_save (V := upd V 1 0) ((upd_ne _ _ (by decide)).trans hM.1) hM.2.1 hM.2.2.1) rfl 0 6 rfl rfl rfl rfl rfl (by decide) (Nat.le_of_ble_eq_true rfl) ⟨Nat.le_refl _, Nat.le_refl _⟩ (fun f hf => ?_)
        refine z_aln (pc := 49) hC 0 rfl dX6_set_49 ?_
        refine z_get (pc := 50) hC fX6_7 0 rfl rfl dX6_set_50 ?_
        refine z_bipush (pc := 53) (v := nI 8) hC dX6_set_53 (by decide) ?_
        refine z_iln (pc := 55) hC 1 rfl dX6_set_55 ?_
        refine z_is_ (y := nI (ix x)) hx ?_
        refine z_iadd (pc := 56) (v := nI (8 + ix x)) hC (nI_add _ _) dX6_set_56 ?_
        refine z_iald (pc := 57) hC 1 rfl dX6_set_57 (8 + ix x) rfl (by omega) (by decide) ?_
        refine z_is_ (y := R 14 (8 + ix x)) (flat_num R (by omega)) ?_
        refine z_isn (pc := 58) (lv' := [(3, .int (R 14 (8 + ix x))), (0, .ref (b 0)), (1, .int x), (2, .int y)]) hC hm (by decide) rfl dX6_set_58 ?_
        refine z_aln (pc := 59) hC 1 rfl dX6_set_59 ?_
        refine z_get (pc := 60) hC fX6_7 0 rfl rfl dX6_set_60 ?_
        refine z_bipush (pc := 63) (v := nI 8) hC dX6_set_63 (by decide) ?_
        refine z_iln (pc := 65) hC 2 rfl dX6_set_65 ?_
        refine z_is_ (y := nI (ix x)) hx ?_
        refine z_iadd (pc := 66) (v := nI (8 + ix x)) hC (nI_add _ _) dX6_set_66 ?_
        refine z_iln (pc := 67) hC 3 rfl dX6_set_67 ?_
        refine z_iast (pc := 68) (ws' := mW g.2 b (setS R 14 (8 + ix x) y) (va_up F 0 f) (upd (upd V 1 0) 0 (nI (pushN s)))) hC 1 rfl dX6_set_68 (8 + ix x) rfl (by omega) (by decide) (mW_n (by omega)) ?_
        refine z_iln (pc := 69) hC 0 rfl dX6_set_69 ?_
        exact hE _ _ _ (va_up F 0 f, upd (upd V 1 0) 0 (nI (pushN s))) _ _ _ dX6_set_70 rfl (by have hcd : cSet x y = 0 := (set_ix0 hz h1 h2); exact mP_0 hcd (by simp [upd]) (mR_save hM hf (by simp [upd]) (by simp [upd])) rfl) (by rw [if_pos (show cSet x y = 0 from (set_ix0 hz h1 h2))]) (Nat.le_refl _) (Nat.le_refl _)
      · have h2 := bI_0.mp c36
        refine z_aln (pc := 39) hC 0 rfl dX6_set_39 ?_
        refine z_iconst (pc := 40) (v := 2) hC dX6_set_40 (by decide) ?_
        refine z_g (pc := 41) (rest := []) hC vX6_fails lX6_53 dX6_set_41 (m_fails (x := 2)) (fun w => w) isCtx_id rfl 0 6 rfl rfl rfl rfl rfl (by decide) (Nat.le_of_ble_eq_true rfl) ⟨Nat.le_refl _, Nat.le_refl _⟩ ?_
        exact hE _ _ _ (F, upd (upd V 1 0) 1 2) _ _ _ dX6_set_44 rfl (by have hcd : cSet x y = 2 := (set_ix hz h1 h2); exact mP_f hM hcd (by decide) (by simp [upd]; rfl) (by simp [upd]) (by simp [upd])) (by rw [if_neg (by rw [show cSet x y = 2 from (set_ix hz h1 h2)]; decide)]) (Nat.le_refl _) (Nat.le_refl _)
  · have h1 : inB x 0 1 = false := bI_0.mp c11
    refine z_aln (pc := 14) hC 0 rfl dX6_set_14 ?_
    refine z_iconst (pc := 15) (v := 1) hC dX6_set_15 (by decide) ?_
    refine z_g (pc := 16) (rest := []) hC vX6_fails lX6_53 dX6_set_16 (m_fails (x := 1)) (fun w => w) isCtx_id rfl 0 6 rfl rfl rfl rfl rfl (by decide) (Nat.le_of_ble_eq_true rfl) ⟨Nat.le_refl _, Nat.le_refl _⟩ ?_
    exact hE _ _ _ (F, upd (upd V 1 0) 1 1) _ _ _ dX6_set_19 rfl (by have hcd : cSet x y = 1 := if_pos h1; exact mP_f hM hcd (by decide) (by simp [upd]; rfl) (by simp [upd]) (by simp [upd])) (by rw [if_neg (by rw [show cSet x y = 1 from if_pos h1]; decide)]) (Nat.le_refl _) (Nat.le_refl _)

theorem rCan_1 {R : St} {j r : Nat} (h : R 10 j = 1) (hr : rl R j = r) : setS (toff R j r) 10 j 3 = rCan R j := by
  unfold rCan; rw [if_pos h, hr]; unfold toff
  rw [setS_comm _ (3 : Int32) (-1) (Or.inl (by decide) : (10 : Nat) ≠ 5 ∨ j ≠ r)]
  rw [setS_comm _ (3 : Int32) (-1) (Or.inl (by decide) : (10 : Nat) ≠ 12 ∨ j ≠ j)]
theorem rCan_11 {R : St} {j : Nat} : rCan R j 11 j = R 11 j := by
  unfold rCan; split <;> simp [toff, setS_at]
theorem rCan_0 {R : St} {j : Nat} (h : ¬ R 10 j = 1) : setS R 10 j 3 = rCan R j := by unfold rCan; rw [if_neg h]

set_option maxRecDepth 100000 in
set_option maxHeartbeats 4000000 in
theorem m_cancel {g : zG} {b : Nat → Nat} {R : St} {F : Nat → Nat → Int32} {V : Nat → Int32} {H : Nat → St} {s : Nat} {t : Nat → Nat} {L : Nat} (hG : GR R) (hM : mR F V H s t L) {x : Int32} : FI (S := (Nat → Nat → Int32) × (Nat → Int32)) g yX6_cancel cX6_cancel 2 .int 3 0 0 [.ref (b 0), .int x] (mW g.2 b R F V) (mP (cCan R x) (R 11 (ix x)) (pushH H s R) (pushN s) H s t L) (fun S => mW g.2 b (if cCan R x = 0 then rCan R (ix x) else R) S.1 S.2) := by
  refine fi_entry (by decide) (Nat.le_of_ble_eq_true rfl) (fun C hC hm hE => ?_)
  refine z_aln (pc := 0) hC 0 rfl dX6_cancel_0 ?_
  refine z_iconst (pc := 1) (v := 0) hC dX6_cancel_1 (by decide) ?_
  refine z_put (pc := 2) (ws' := mW g.2 b R F (upd V 1 0)) hC fX6_38 p6_4 0 rfl (Nat.le_of_ble_eq_true rfl) (mW_V 4 1 (by decide)) dX6_cancel_2 ?_
  refine z_aln (pc := 5) hC 0 rfl dX6_cancel_5 ?_
  refine z_iln (pc := 6) hC 1 rfl dX6_cancel_6 ?_
  refine z_g (pc := 7) (rest := []) hC vX6_isJob lX6_127 dX6_cancel_7 m_isJob (fun w => w) isCtx_id rfl 0 6 rfl rfl rfl rfl rfl (by decide) (Nat.le_of_ble_eq_true rfl) ⟨Nat.le_refl _, Nat.le_refl _⟩ ?_
  refine z_ifne (pc := 10) hC 19 (by decide) dX6_cancel_10 (fun c10 => ?_) (fun c10 => ?_)
  · have h1 : isJob R x = true := bI_n.mp c10
    obtain ⟨hjn, hj, hx⟩ := job_ix hG h1
    refine z_aln (pc := 19) hC 0 rfl dX6_cancel_19 ?_
    refine z_iln (pc := 20) hC 1 rfl dX6_cancel_20 ?_
    refine z_is_ (y := nI (ix x)) hx ?_
    refine z_iconst (pc := 21) (v := nI 4) hC dX6_cancel_21 (by decide) ?_
    refine z_g (pc := 22) (rest := []) hC vX6_ofJob lX6_57 dX6_cancel_22 (m_ofJob (c := 10) hj (by decide) rfl) (fun w => w) isCtx_id rfl 0 6 rfl rfl rfl rfl rfl (by decide) (Nat.le_of_ble_eq_true rfl) ⟨Nat.le_refl _, Nat.le_refl _⟩ ?_
    refine z_iconst (pc := 25) (v := 1) hC dX6_cancel_25 (by decide) ?_
    refine z_icle (pc := 26) hC 35 (by decide) dX6_cancel_26 (fun c26 => ?_) (fun c26 => ?_)
    · have h2 : ¬ 1 < R 10 (ix x) := Int32.not_lt.mpr c26
      refine z_aln (pc := 35) hC 0 rfl dX6_cancel_35 ?_
      refine z_v0 (pc := 36) (rest := []) hC vX6_save lX6_120 dX6_cancel_36 (m_save (V := upd V 1 0) ((upd_ne _ _ (by decide)).trans hM.1) hM.2.1 hM.2.2.1) rfl 0 6 rfl rfl rfl rfl rfl (by decide) (Nat.le_of_ble_eq_true rfl) ⟨Nat.le_refl _, Nat.le_refl _⟩ (fun f hf => ?_)
      refine z_aln (pc := 39) hC 0 rfl dX6_cancel_39 ?_
      refine z_iln (pc := 40) hC 1 rfl dX6_cancel_40 ?_
      refine z_is_ (y := nI (ix x)) hx ?_
      refine z_iconst (pc := 41) (v := nI 4) hC dX6_cancel_41 (by decide) ?_
      refine z_g (pc := 42) (rest := []) hC vX6_ofJob lX6_57 dX6_cancel_42 (m_ofJob (c := 10) hj (by decide) rfl) (fun w => w) isCtx_id rfl 0 6 rfl rfl rfl rfl rfl (by decide) (Nat.le_of_ble_eq_true rfl) ⟨Nat.le_refl _, Nat.le_refl _⟩ ?_
      refine z_iconst (pc := 45) (v := 1) hC dX6_cancel_45 (by decide) ?_
      refine z_icne (pc := 46) hC 54 (by decide) dX6_cancel_46 (fun c46 => ?_) (fun c46 => ?_)
      · have hne : ¬ R 10 (ix x) = 1 := c46
        refine z_aln (pc := 54) hC 0 rfl dX6_cancel_54 ?_
        refine z_iln (pc := 55) hC 1 rfl dX6_cancel_55 ?_
        refine z_is_ (y := nI (ix x)) hx ?_
        refine z_iconst (pc := 56) (v := nI 4) hC dX6_cancel_56 (by decide) ?_
        refine z_iconst (pc := 57) (v := 3) hC dX6_cancel_57 (by decide) ?_
        refine z_gv (pc := 58) (rest := []) hC vX6_putJob lX6_73 dX6_cancel_58 (m_putJob (c := 10) hj (by decide) rfl) (fun w => w) isCtx_id rfl 0 6 rfl rfl rfl rfl rfl (by decide) (Nat.le_of_ble_eq_true rfl) ⟨Nat.le_refl _, Nat.le_refl _⟩ ?_
        refine z_w (ws' := mW g.2 b (rCan R (ix x)) (va_up F 0 f) (upd (upd V 1 0) 0 (nI (pushN s)))) (by rw [rCan_0 hne]) ?_
        refine z_aln (pc := 61) hC 0 rfl dX6_cancel_61 ?_
        refine z_iln (pc := 62) hC 1 rfl dX6_cancel_62 ?_
        refine z_is_ (y := nI (ix x)) hx ?_
        refine z_iconst (pc := 63) (v := nI 5) hC dX6_cancel_63 (by decide) ?_
        refine z_g (pc := 64) (rest := []) hC vX6_ofJob lX6_57 dX6_cancel_64 (m_ofJob (c := 11) hj (by decide) rfl) (fun w => w) isCtx_id rfl 0 6 rfl rfl rfl rfl rfl (by decide) (Nat.le_of_ble_eq_true rfl) ⟨Nat.le_refl _, Nat.le_refl _⟩ ?_
        exact hE _ _ _ (va_up F 0 f, upd (upd V 1 0) 0 (nI (pushN s))) _ _ _ dX6_cancel_67 rfl (by have hcd : cCan R x = 0 := (by simp [cCan, h1, h2]); exact mP_0 hcd (by simp [upd]) (mR_save hM hf (by simp [upd]) (by simp [upd])) rCan_11) (by rw [if_pos (show cCan R x = 0 from (by simp [cCan, h1, h2]))]) (Nat.le_refl _) (Nat.le_refl _)
      · obtain ⟨r, hr, h12⟩ := (hG.1.2.2.1 _ hjn).1 c46
        refine z_aln (pc := 49) hC 0 rfl dX6_cancel_49 ?_
        refine z_iln (pc := 50) hC 1 rfl dX6_cancel_50 ?_
        refine z_is_ (y := nI (ix x)) hx ?_
        refine z_gv (pc := 51) (rest := []) hC vX6_takeOff lX6_91 dX6_cancel_51 (m_takeOff hj hr h12) (fun w => w) isCtx_id rfl 0 6 rfl rfl rfl rfl rfl (by decide) (Nat.le_of_ble_eq_true rfl) ⟨Nat.le_refl _, Nat.le_refl _⟩ ?_
        refine z_aln (pc := 54) hC 0 rfl dX6_cancel_54 ?_
        refine z_iln (pc := 55) hC 1 rfl dX6_cancel_55 ?_
        refine z_is_ (y := nI (ix x)) hx ?_
        refine z_iconst (pc := 56) (v := nI 4) hC dX6_cancel_56 (by decide) ?_
        refine z_iconst (pc := 57) (v := 3) hC dX6_cancel_57 (by decide) ?_
        refine z_gv (pc := 58) (rest := []) hC vX6_putJob lX6_73 dX6_cancel_58 (m_putJob (c := 10) hj (by decide) rfl) (fun w => w) isCtx_id rfl 0 6 rfl rfl rfl rfl rfl (by decide) (Nat.le_of_ble_eq_true rfl) ⟨Nat.le_refl _, Nat.le_refl _⟩ ?_
        refine z_w (ws' := mW g.2 b (rCan R (ix x)) (va_up F 0 f) (upd (upd V 1 0) 0 (nI (pushN s)))) (by rw [rCan_1 c46 (rl_eq h12 hr)]) ?_
        refine z_aln (pc := 61) hC 0 rfl dX6_cancel_61 ?_
        refine z_iln (pc := 62) hC 1 rfl dX6_cancel_62 ?_
        refine z_is_ (y := nI (ix x)) hx ?_
        refine z_iconst (pc := 63) (v := nI 5) hC dX6_cancel_63 (by decide) ?_
        refine z_g (pc := 64) (rest := []) hC vX6_ofJob lX6_57 dX6_cancel_64 (m_ofJob (c := 11) hj (by decide) rfl) (fun w => w) isCtx_id rfl 0 6 rfl rfl rfl rfl rfl (by decide) (Nat.le_of_ble_eq_true rfl) ⟨Nat.le_refl _, Nat.le_refl _⟩ ?_
        exact hE _ _ _ (va_up F 0 f, upd (upd V 1 0) 0 (nI (pushN s))) _ _ _ dX6_cancel_67 rfl (by have hcd : cCan R x = 0 := (by simp [cCan, h1, h2]); exact mP_0 hcd (by simp [upd]) (mR_save hM hf (by simp [upd]) (by simp [upd])) rCan_11) (by rw [if_pos (show cCan R x = 0 from (by simp [cCan, h1, h2]))]) (Nat.le_refl _) (Nat.le_refl _)
    · have h2 : 1 < R 10 (ix x) := Int32.not_le.mp c26
      refine z_aln (pc := 29) hC 0 rfl dX6_cancel_29 ?_
      refine z_iconst (pc := 30) (v := 2) hC dX6_cancel_30 (by decide) ?_
      refine z_g (pc := 31) (rest := []) hC vX6_fails lX6_53 dX6_cancel_31 (m_fails (x := 2)) (fun w => w) isCtx_id rfl 0 6 rfl rfl rfl rfl rfl (by decide) (Nat.le_of_ble_eq_true rfl) ⟨Nat.le_refl _, Nat.le_refl _⟩ ?_
      exact hE _ _ _ (F, upd (upd V 1 0) 1 2) _ _ _ dX6_cancel_34 rfl (by have hcd : cCan R x = 2 := (by simp [cCan, h1, h2]); exact mP_f hM hcd (by decide) (by simp [upd]; rfl) (by simp [upd]) (by simp [upd])) (by rw [if_neg (by rw [show cCan R x = 2 from (by simp [cCan, h1, h2])]; decide)]) (Nat.le_refl _) (Nat.le_refl _)
  · have h1 : isJob R x = false := bI_0.mp c10
    refine z_aln (pc := 13) hC 0 rfl dX6_cancel_13 ?_
    refine z_iconst (pc := 14) (v := 1) hC dX6_cancel_14 (by decide) ?_
    refine z_g (pc := 15) (rest := []) hC vX6_fails lX6_53 dX6_cancel_15 (m_fails (x := 1)) (fun w => w) isCtx_id rfl 0 6 rfl rfl rfl rfl rfl (by decide) (Nat.le_of_ble_eq_true rfl) ⟨Nat.le_refl _, Nat.le_refl _⟩ ?_
    exact hE _ _ _ (F, upd (upd V 1 0) 1 1) _ _ _ dX6_cancel_18 rfl (by have hcd : cCan R x = 1 := if_pos h1; exact mP_f hM hcd (by decide) (by simp [upd]; rfl) (by simp [upd]) (by simp [upd])) (by rw [if_neg (by rw [show cCan R x = 1 from if_pos h1]; decide)]) (Nat.le_refl _) (Nat.le_refl _)
