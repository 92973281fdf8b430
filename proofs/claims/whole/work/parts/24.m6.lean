/-- the reference's own rows of the saved states and of the text -/
def mR (F : Nat → Nat → Int32) (V : Nat → Int32) (H : Nat → St) (s : Nat) (t : Nat → Nat) (L : Nat) : Prop :=
  V 0 = nI s ∧ s ≤ 6 ∧ enc (F 0) H s ∧ V 2 = nI L ∧ L ≤ 80 ∧ tOK (F 2) t L
/-- what a call of the reference tells: the exception's number k, the state behind it if there is none, the value -/
def mP (cd : Nat) (val : Int32) (H' : Nat → St) (s' : Nat) (H : Nat → St) (s : Nat) (t : Nat → Nat) (L : Nat) (r : Int32) (S : (Nat → Nat → Int32) × (Nat → Int32)) : Prop :=
  S.2 1 = nI cd ∧ (cd = 0 → mR S.1 S.2 H' s' t L ∧ r = val) ∧ (cd ≠ 0 → mR S.1 S.2 H s t L)
theorem mR_keep {F F' : Nat → Nat → Int32} {V V' : Nat → Int32} {H : Nat → St} {s : Nat} {t : Nat → Nat} {L : Nat} (h : mR F V H s t L) (e0 : V' 0 = V 0) (e2 : V' 2 = V 2) (f0 : F' 0 = F 0) (f2 : F' 2 = F 2) : mR F' V' H s t L :=
  ⟨e0.trans h.1, h.2.1, by rw [f0]; exact h.2.2.1, e2.trans h.2.2.2.1, h.2.2.2.2.1, by rw [f2]; exact h.2.2.2.2.2⟩
theorem mP_f {cd k s s' L : Nat} {val r : Int32} {H H' : Nat → St} {t : Nat → Nat} {F : Nat → Nat → Int32} {V V' : Nat → Int32} (h : mR F V H s t L) (hc : cd = k) (hk : k ≠ 0) (e1 : V' 1 = nI k) (e0 : V' 0 = V 0) (e2 : V' 2 = V 2) : mP cd val H' s' H s t L r (F, V') :=
  ⟨by rw [hc]; exact e1, fun e => absurd (hc.symm.trans e) hk, fun _ => mR_keep h e0 e2 rfl rfl⟩
theorem mP_0 {cd s s' L : Nat} {val r : Int32} {H H' : Nat → St} {t : Nat → Nat} {F' : Nat → Nat → Int32} {V' : Nat → Int32} (hc : cd = 0) (e1 : V' 1 = 0) (h : mR F' V' H' s' t L) (hr : r = val) : mP cd val H' s' H s t L r (F', V') :=
  ⟨by rw [hc]; exact e1, fun _ => ⟨h, hr⟩, fun e => absurd hc e⟩
theorem mR_save {F : Nat → Nat → Int32} {V V' : Nat → Int32} {H : Nat → St} {s : Nat} {t : Nat → Nat} {L : Nat} {f : Nat → Int32} {R : St} (h : mR F V H s t L) (hf : enc f (pushH H s R) (pushN s)) (e0 : V' 0 = nI (pushN s)) (e2 : V' 2 = V 2) : mR (va_up F 0 f) V' (pushH H s R) (pushN s) t L :=
  ⟨e0, pushN_le h.2.1, hf, e2.trans h.2.2.2.1, h.2.2.2.2.1, h.2.2.2.2.2⟩
theorem pushN_n0 {s : Nat} : ¬ pushN s = 0 := by unfold pushN; split <;> omega

set_option maxRecDepth 100000 in
set_option maxHeartbeats 4000000 in
theorem m_submit {g : zG} {b : Nat → Nat} {R : St} {F : Nat → Nat → Int32} {V : Nat → Int32} {H : Nat → St} {s : Nat} {t : Nat → Nat} {L : Nat} (hG : GR R) (hM : mR F V H s t L) {x y z u : Int32} : FI (S := (Nat → Nat → Int32) × (Nat → Int32)) g yX6_submit cX6_submit 5 .int 4 0 0 [.ref (b 0), .int x, .int y, .int z, .int u] (mW g.2 b R F V) (mP (cSub R x y z u) (nI (nn R)) (pushH H s R) (pushN s) H s t L) (fun S => mW g.2 b (if cSub R x y z u = 0 then subm R (nn R) x y z u else R) S.1 S.2) := by
  refine fi_entry (by decide) (Nat.le_of_ble_eq_true rfl) (fun C hC hm hE => ?_)
  refine z_aln (pc := 0) hC 0 rfl dX6_submit_0 ?_
  refine z_iconst (pc := 1) (v := 0) hC dX6_submit_1 (by decide) ?_
  refine z_put (pc := 2) (ws' := mW g.2 b R F (upd V 1 0)) hC fX6_38 p6_4 0 rfl (Nat.le_of_ble_eq_true rfl) (mW_V 4 1 (by decide)) dX6_submit_2 ?_
  refine z_iln (pc := 5) hC 1 rfl dX6_submit_5 ?_
  refine z_iln (pc := 6) hC 2 rfl dX6_submit_6 ?_
  refine z_iln (pc := 7) hC 3 rfl dX6_submit_7 ?_
  refine z_il (pc := 8) hC 4 rfl dX6_submit_8 ?_
  refine z_gs (pc := 10) (rest := []) hC sX6_areRight lX6_112 dX6_submit_10 m_areRight rfl rfl (by decide) (Nat.le_of_ble_eq_true rfl) ⟨Nat.le_refl _, Nat.le_refl _⟩ ?_
  refine z_ifne (pc := 13) hC 22 (by decide) dX6_submit_13 (fun c13 => ?_) (fun c13 => ?_)
  · have h1 : right x y z u = true := bI_n.mp c13
    refine z_aln (pc := 22) hC 0 rfl dX6_submit_22 ?_
    refine z_iln (pc := 23) hC 1 rfl dX6_submit_23 ?_
    refine z_iln (pc := 24) hC 2 rfl dX6_submit_24 ?_
    refine z_g (pc := 25) (rest := []) hC vX6_canSubmit lX6_116 dX6_submit_25 (m_canSubmit hG.num hG.n12) (fun w => w) isCtx_id rfl 0 6 rfl rfl rfl rfl rfl (by decide) (Nat.le_of_ble_eq_true rfl) ⟨Nat.le_refl _, Nat.le_refl _⟩ ?_
    refine z_ifne (pc := 28) hC 37 (by decide) dX6_submit_28 (fun c28 => ?_) (fun c28 => ?_)
    · have h2 : canS R (nn R) x y = true := bI_n.mp c28
      refine z_aln (pc := 37) hC 0 rfl dX6_submit_37 ?_
      refine z_v0 (pc := 38) (rest := []) hC vX6_save lX6_120 dX6_submit_38 (m_save (V := upd V 1 0) ((upd_ne _ _ (by decide)).trans hM.1) hM.2.1 hM.2.2.1) rfl 0 6 rfl rfl rfl rfl rfl (by decide) (Nat.le_of_ble_eq_true rfl) ⟨Nat.le_refl _, Nat.le_refl _⟩ (fun f hf => ?_)
      refine z_aln (pc := 41) hC 0 rfl dX6_submit_41 ?_
      refine z_iln (pc := 42) hC 1 rfl dX6_submit_42 ?_
      refine z_iln (pc := 43) hC 2 rfl dX6_submit_43 ?_
      refine z_iln (pc := 44) hC 3 rfl dX6_submit_44 ?_
      refine z_il (pc := 45) hC 4 rfl dX6_submit_45 ?_
      refine z_g (pc := 47) (rest := []) hC vX6_submitNow lX6_123 dX6_submit_47 (m_submitNow hG.num (canS_n h2)) (fun w => w) isCtx_id rfl 0 6 rfl rfl rfl rfl rfl (by decide) (Nat.le_of_ble_eq_true rfl) ⟨Nat.le_refl _, Nat.le_refl _⟩ ?_
      exact hE _ _ _ (va_up F 0 f, upd (upd V 1 0) 0 (nI (pushN s))) _ _ _ dX6_submit_50 rfl (by have hcd : cSub R x y z u = 0 := (by simp [cSub, h1, h2]); exact mP_0 hcd (by simp [upd]) (mR_save hM hf (by simp [upd]) (by simp [upd])) rfl) (by rw [if_pos (show cSub R x y z u = 0 from (by simp [cSub, h1, h2]))]) (Nat.le_refl _) (Nat.le_refl _)
    · have h2 : canS R (nn R) x y = false := bI_0.mp c28
      refine z_aln (pc := 31) hC 0 rfl dX6_submit_31 ?_
      refine z_iconst (pc := 32) (v := 2) hC dX6_submit_32 (by decide) ?_
      refine z_g (pc := 33) (rest := []) hC vX6_fails lX6_53 dX6_submit_33 (m_fails (x := 2)) (fun w => w) isCtx_id rfl 0 6 rfl rfl rfl rfl rfl (by decide) (Nat.le_of_ble_eq_true rfl) ⟨Nat.le_refl _, Nat.le_refl _⟩ ?_
      exact hE _ _ _ (F, upd (upd V 1 0) 1 2) _ _ _ dX6_submit_36 rfl (by have hcd : cSub R x y z u = 2 := (by simp [cSub, h1, h2]); exact mP_f hM hcd (by decide) (by simp [upd]; rfl) (by simp [upd]) (by simp [upd])) (by rw [if_neg (by rw [show cSub R x y z u = 2 from (by simp [cSub, h1, h2])]; decide)]) (Nat.le_refl _) (Nat.le_refl _)
  · have h1 : right x y z u = false := bI_0.mp c13
    refine z_aln (pc := 16) hC 0 rfl dX6_submit_16 ?_
    refine z_iconst (pc := 17) (v := 1) hC dX6_submit_17 (by decide) ?_
    refine z_g (pc := 18) (rest := []) hC vX6_fails lX6_53 dX6_submit_18 (m_fails (x := 1)) (fun w => w) isCtx_id rfl 0 6 rfl rfl rfl rfl rfl (by decide) (Nat.le_of_ble_eq_true rfl) ⟨Nat.le_refl _, Nat.le_refl _⟩ ?_
    exact hE _ _ _ (F, upd (upd V 1 0) 1 1) _ _ _ dX6_submit_21 rfl (by have hcd : cSub R x y z u = 1 := if_pos h1; exact mP_f hM hcd (by decide) (by simp [upd]; rfl) (by simp [upd]) (by simp [upd])) (by rw [if_neg (by rw [show cSub R x y z u = 1 from if_pos h1]; decide)]) (Nat.le_refl _) (Nat.le_refl _)

theorem pass_ix {x : Int32} (h : inB x 1 99 = true) : ix x < 2 ^ 31 ∧ x = nI (ix x) := by
  obtain ⟨h1, h2⟩ := inB_iff.mp h
  obtain ⟨j, hj, rfl⟩ := nI_of (x := x) (Int32.not_lt.mpr (Int32.le_trans (by decide) h1))
  rw [ix_nI hj]; exact ⟨hj, rfl⟩
theorem bI_is {x : Int32} (h : x = 0 ∨ x = 1) : bI (decide (x = 1)) = x := by rcases h with h | h <;> subst h <;> decide
theorem mR_set {F : Nat → Nat → Int32} {V V' : Nat → Int32} {H : Nat → St} {s : Nat} {t : Nat → Nat} {L : Nat} (h : mR F V H s t L) (e0 : V' 0 = V 0) (h2 : V' 2 = nI L) : mR F V' H s t L := ⟨e0.trans h.1, h.2.1, h.2.2.1, h2, h.2.2.2.2.1, h.2.2.2.2.2⟩

set_option maxRecDepth 100000 in
set_option maxHeartbeats 4000000 in
theorem m_pass {g : zG} {b : Nat → Nat} {R : St} {F : Nat → Nat → Int32} {V : Nat → Int32} {H : Nat → St} {s : Nat} {t : Nat → Nat} {L : Nat} (hG : GR R) (hM : mR F V H s t L) {x : Int32} : FI (S := (Nat → Nat → Int32) × (Nat → Int32)) g yX6_pass cX6_pass 2 .int 5 0 0 [.ref (b 0), .int x] (mW g.2 b R F V) (mP (cPass x) ((pas (nn R) (ix x) (R, 0)).2) (pushH H s R) (pushN s) H s t L) (fun S => mW g.2 b (if cPass x = 0 then (pas (nn R) (ix x) (R, 0)).1 else R) S.1 S.2) := by
  refine fi_entry (by decide) (Nat.le_of_ble_eq_true rfl) (fun C hC hm hE => ?_)
  refine z_aln (pc := 0) hC 0 rfl dX6_pass_0 ?_
  refine z_iconst (pc := 1) (v := 0) hC dX6_pass_1 (by decide) ?_
  refine z_put (pc := 2) (ws' := mW g.2 b R F (upd V 1 0)) hC fX6_38 p6_4 0 rfl (Nat.le_of_ble_eq_true rfl) (mW_V 4 1 (by decide)) dX6_pass_2 ?_
  refine z_iln (pc := 5) hC 1 rfl dX6_pass_5 ?_
  refine z_iconst (pc := 6) (v := 1) hC dX6_pass_6 (by decide) ?_
  refine z_bipush (pc := 7) (v := 99) hC dX6_pass_7 (by decide) ?_
  refine z_gs (pc := 9) (rest := []) hC sX6_in lX6_42 dX6_pass_9 m_in rfl rfl (by decide) (Nat.le_of_ble_eq_true rfl) ⟨Nat.le_refl _, Nat.le_refl _⟩ ?_
  refine z_ifne (pc := 12) hC 21 (by decide) dX6_pass_12 (fun c12 => ?_) (fun c12 => ?_)
  · have h1 : inB x 1 99 = true := bI_n.mp c12
    obtain ⟨hx1, hx2⟩ := pass_ix h1
    refine z_aln (pc := 21) hC 0 rfl dX6_pass_21 ?_
    refine z_v0 (pc := 22) (rest := []) hC vX6_save lX6_120 dX6_pass_22 (m_save (V := upd V 1 0) ((upd_ne _ _ (by decide)).trans hM.1) hM.2.1 hM.2.2.1) rfl 0 6 rfl rfl rfl rfl rfl (by decide) (Nat.le_of_ble_eq_true rfl) ⟨Nat.le_refl _, Nat.le_refl _⟩ (fun f hf => ?_)
    refine z_aln (pc := 25) hC 0 rfl dX6_pass_25 ?_
    refine z_iln (pc := 26) hC 1 rfl dX6_pass_26 ?_
    refine z_g (pc := 27) (rest := []) hC vX6_passNow lX6_133 dX6_pass_27 (m_passNow hG.1 hx1) (fun w => w) isCtx_id rfl 0 6 rfl rfl rfl rfl rfl (by decide) (Nat.le_of_ble_eq_true rfl) ⟨Nat.le_refl _, Nat.le_refl _⟩ ?_
    exact hE _ _ _ (va_up F 0 f, upd (upd V 1 0) 0 (nI (pushN s))) _ _ _ dX6_pass_30 rfl (by have hcd : cPass x = 0 := (by simp [cPass, h1]); exact mP_0 hcd (by simp [upd]) (mR_save hM hf (by simp [upd]) (by simp [upd])) rfl) (by rw [if_pos (show cPass x = 0 from (by simp [cPass, h1]))]) (Nat.le_refl _) (Nat.le_refl _)
  · have h1 : inB x 1 99 = false := bI_0.mp c12
    refine z_aln (pc := 15) hC 0 rfl dX6_pass_15 ?_
    refine z_iconst (pc := 16) (v := 1) hC dX6_pass_16 (by decide) ?_
    refine z_g (pc := 17) (rest := []) hC vX6_fails lX6_53 dX6_pass_17 (m_fails (x := 1)) (fun w => w) isCtx_id rfl 0 6 rfl rfl rfl rfl rfl (by decide) (Nat.le_of_ble_eq_true rfl) ⟨Nat.le_refl _, Nat.le_refl _⟩ ?_
    exact hE _ _ _ (F, upd (upd V 1 0) 1 1) _ _ _ dX6_pass_20 rfl (by have hcd : cPass x = 1 := if_pos h1; exact mP_f hM hcd (by decide) (by simp [upd]; rfl) (by simp [upd]) (by simp [upd])) (by rw [if_neg (by rw [show cPass x = 1 from if_pos h1]; decide)]) (Nat.le_refl _) (Nat.le_refl _)

set_option maxRecDepth 100000 in
set_option maxHeartbeats 4000000 in
theorem m_savedStates {g : zG} {b : Nat → Nat} {R : St} {F : Nat → Nat → Int32} {V : Nat → Int32} {H : Nat → St} {s : Nat} {t : Nat → Nat} {L : Nat} (hG : GR R) (hM : mR F V H s t L) : FI (S := (Nat → Nat → Int32) × (Nat → Int32)) g yX6_savedStates cX6_savedStates 1 .int 0 0 0 [.ref (b 0)] (mW g.2 b R F V) (mP (0) (nI s) H s H s t L) (fun S => mW g.2 b R S.1 S.2) := by
  refine fi_entry (by decide) (Nat.le_of_ble_eq_true rfl) (fun C hC hm hE => ?_)
  refine z_aln (pc := 0) hC 0 rfl dX6_savedStates_0 ?_
  refine z_iconst (pc := 1) (v := 0) hC dX6_savedStates_1 (by decide) ?_
  refine z_put (pc := 2) (ws' := mW g.2 b R F (upd V 1 0)) hC fX6_38 p6_4 0 rfl (Nat.le_of_ble_eq_true rfl) (mW_V 4 1 (by decide)) dX6_savedStates_2 ?_
  refine z_aln (pc := 5) hC 0 rfl dX6_savedStates_5 ?_
  refine z_get (pc := 6) hC fX6_50 0 rfl rfl dX6_savedStates_6 ?_
  exact hE _ _ _ (F, upd V 1 0) _ _ _ dX6_savedStates_9 rfl (by have hcd : 0 = 0 := rfl; exact mP_0 hcd (by simp [upd]) (mR_keep hM (by simp [upd]) (by simp [upd]) rfl rfl) ((upd_ne _ _ (by decide)).trans hM.1)) rfl (Nat.le_refl _) (Nat.le_refl _)

set_option maxRecDepth 100000 in
set_option maxHeartbeats 4000000 in
theorem m_textLength {g : zG} {b : Nat → Nat} {R : St} {F : Nat → Nat → Int32} {V : Nat → Int32} {H : Nat → St} {s : Nat} {t : Nat → Nat} {L : Nat} (hG : GR R) (hM : mR F V H s t L) : FI (S := (Nat → Nat → Int32) × (Nat → Int32)) g yX6_textLength cX6_textLength 1 .int 0 0 0 [.ref (b 0)] (mW g.2 b R F V) (mP (0) (nI L) H s H s t L) (fun S => mW g.2 b R S.1 S.2) := by
  refine fi_entry (by decide) (Nat.le_of_ble_eq_true rfl) (fun C hC hm hE => ?_)
  refine z_aln (pc := 0) hC 0 rfl dX6_textLength_0 ?_
  refine z_iconst (pc := 1) (v := 0) hC dX6_textLength_1 (by decide) ?_
  refine z_put (pc := 2) (ws' := mW g.2 b R F (upd V 1 0)) hC fX6_38 p6_4 0 rfl (Nat.le_of_ble_eq_true rfl) (mW_V 4 1 (by decide)) dX6_textLength_2 ?_
  refine z_aln (pc := 5) hC 0 rfl dX6_textLength_5 ?_
  refine z_get (pc := 6) hC fX6_136 0 rfl rfl dX6_textLength_6 ?_
  exact hE _ _ _ (F, upd V 1 0) _ _ _ dX6_textLength_9 rfl (by have hcd : 0 = 0 := rfl; exact mP_0 hcd (by simp [upd]) (mR_keep hM (by simp [upd]) (by simp [upd]) rfl rfl) ((upd_ne _ _ (by decide)).trans hM.2.2.2.1)) rfl (Nat.le_refl _) (Nat.le_refl _)

set_option maxRecDepth 100000 in
set_option maxHeartbeats 4000000 in
theorem m_jobs {g : zG} {b : Nat → Nat} {R : St} {F : Nat → Nat → Int32} {V : Nat → Int32} {H : Nat → St} {s : Nat} {t : Nat → Nat} {L : Nat} (hG : GR R) (hM : mR F V H s t L) : FI (S := (Nat → Nat → Int32) × (Nat → Int32)) g yX6_jobs cX6_jobs 1 .int 0 0 0 [.ref (b 0)] (mW g.2 b R F V) (mP (0) (R 14 10) H s H s t L) (fun S => mW g.2 b R S.1 S.2) := by
  refine fi_entry (by decide) (Nat.le_of_ble_eq_true rfl) (fun C hC hm hE => ?_)
  refine z_aln (pc := 0) hC 0 rfl dX6_jobs_0 ?_
  refine z_iconst (pc := 1) (v := 0) hC dX6_jobs_1 (by decide) ?_
  refine z_put (pc := 2) (ws' := mW g.2 b R F (upd V 1 0)) hC fX6_38 p6_4 0 rfl (Nat.le_of_ble_eq_true rfl) (mW_V 4 1 (by decide)) dX6_jobs_2 ?_
  refine z_aln (pc := 5) hC 0 rfl dX6_jobs_5 ?_
  refine z_get (pc := 6) hC fX6_7 0 rfl rfl dX6_jobs_6 ?_
  refine z_bipush (pc := 9) (v := nI 82) hC dX6_jobs_9 (by decide) ?_
  refine z_iald (pc := 11) hC 1 rfl dX6_jobs_11 82 rfl (by omega) (by decide) ?_
  refine z_is_ (y := R 14 10) (flat_82 R) ?_
  exact hE _ _ _ (F, upd V 1 0) _ _ _ dX6_jobs_12 rfl (by have hcd : 0 = 0 := rfl; exact mP_0 hcd (by simp [upd]) (mR_keep hM (by simp [upd]) (by simp [upd]) rfl rfl) rfl) rfl (Nat.le_refl _) (Nat.le_refl _)

set_option maxRecDepth 100000 in
set_option maxHeartbeats 4000000 in
theorem m_nextJob {g : zG} {b : Nat → Nat} {R : St} {F : Nat → Nat → Int32} {V : Nat → Int32} {H : Nat → St} {s : Nat} {t : Nat → Nat} {L : Nat} (hG : GR R) (hM : mR F V H s t L) : FI (S := (Nat → Nat → Int32) × (Nat → Int32)) g yX6_nextJob cX6_nextJob 1 .int 4 0 0 [.ref (b 0)] (mW g.2 b R F V) (mP (0) (nxt R (nn R)) H s H s t L) (fun S => mW g.2 b R S.1 S.2) := by
  refine fi_entry (by decide) (Nat.le_of_ble_eq_true rfl) (fun C hC hm hE => ?_)
  refine z_aln (pc := 0) hC 0 rfl dX6_nextJob_0 ?_
  refine z_iconst (pc := 1) (v := 0) hC dX6_nextJob_1 (by decide) ?_
  refine z_put (pc := 2) (ws' := mW g.2 b R F (upd V 1 0)) hC fX6_38 p6_4 0 rfl (Nat.le_of_ble_eq_true rfl) (mW_V 4 1 (by decide)) dX6_nextJob_2 ?_
  refine z_aln (pc := 5) hC 0 rfl dX6_nextJob_5 ?_
  refine z_g (pc := 6) (rest := []) hC vX6_next lX6_95 dX6_nextJob_6 (m_next hG.num hG.n12) (fun w => w) isCtx_id rfl 0 6 rfl rfl rfl rfl rfl (by decide) (Nat.le_of_ble_eq_true rfl) ⟨Nat.le_refl _, Nat.le_refl _⟩ ?_
  exact hE _ _ _ (F, upd V 1 0) _ _ _ dX6_nextJob_9 rfl (by have hcd : 0 = 0 := rfl; exact mP_0 hcd (by simp [upd]) (mR_keep hM (by simp [upd]) (by simp [upd]) rfl rfl) rfl) rfl (Nat.le_refl _) (Nat.le_refl _)
