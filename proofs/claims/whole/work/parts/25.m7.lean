theorem FI_mono {S S' : Type} {g : zG} {y : MethodName} {cy : ByteArray} {nl : Nat} {ret : FieldType} {d mc ms : Nat} {av : List Value} {w : va_W} {post : Int32 → S → Prop} {w' : S → va_W} {post' : Int32 → S' → Prop} {w'' : S' → va_W}
    (h : FI (S := S) g y cy nl ret d mc ms av w post w') (hp : ∀ r u, post r u → ∃ u', post' r u' ∧ w'' u' = w' u) : FI (S := S') g y cy nl ret d mc ms av w post' w'' := by
  intro l sz p e ha hc hk s m args below hf happ hpre htr
  obtain ⟨k, o, h1, h2, h3, ⟨⟨r, u, ho, hpo, hB⟩, hF⟩, hL⟩ := h l sz p e ha hc hk s m args below hf happ hpre htr
  obtain ⟨u', q1, q2⟩ := hp r u hpo
  refine ⟨k, o, h1, h2, h3, ⟨⟨r, u', ho, q1, ?_⟩, hF⟩, hL⟩
  unfold zPost at hB ⊢
  rw [q2]; exact hB

set_option maxRecDepth 100000 in
set_option maxHeartbeats 4000000 in
theorem m_setRing {g : zG} {b : Nat → Nat} {R : St} {F : Nat → Nat → Int32} {V : Nat → Int32} {H : Nat → St} {s : Nat} {t : Nat → Nat} {L : Nat} (hG : GR R) (hM : mR F V H s t L) {x y : Int32} (hy : y = 0 ∨ y = 1) : FI (S := (Nat → Nat → Int32) × (Nat → Int32)) g yX6_setRing cX6_setRing 4 .boolean 2 0 0 [.ref (b 0), .int x, .int y] (mW g.2 b R F V) (mP (cRing R x) (R 2 (ix x)) (pushH H s R) (pushN s) H s t L) (fun S => mW g.2 b (if cRing R x = 0 then setS R 2 (ix x) y else R) S.1 S.2) := by
  refine fi_entry (by decide) (Nat.le_of_ble_eq_true rfl) (fun C hC hm hE => ?_)
  refine z_aln (pc := 0) hC 0 rfl dX6_setRing_0 ?_
  refine z_iln (pc := 1) hC 1 rfl dX6_setRing_1 ?_
  refine z_gs (pc := 2) (rest := [.ref (b 0)]) hC sX6_isReel lX6_130 dX6_setRing_2 m_isReel rfl rfl (by decide) (Nat.le_of_ble_eq_true rfl) ⟨Nat.le_refl _, Nat.le_refl _⟩ ?_
  refine z_ifeq (pc := 5) hC 24 (by decide) dX6_setRing_5 (fun c5 => ?_) (fun c5 => ?_)
  · have h1 : isReel x = false := bI_0.mp c5
    refine z_iconst (pc := 24) (v := 1) hC dX6_setRing_24 (by decide) ?_
    refine z_put (pc := 25) (ws' := mW g.2 b R F (upd V 1 1)) hC fX6_38 p6_4 0 rfl (Nat.le_of_ble_eq_true rfl) (mW_V 4 1 (by decide)) dX6_setRing_25 ?_
    refine z_aln (pc := 28) hC 0 rfl dX6_setRing_28 ?_
    refine z_get (pc := 29) hC fX6_38 0 rfl rfl dX6_setRing_29 ?_
    refine z_is_ (y := 1) (upd_eq _ _ _) ?_
    refine z_ifle (pc := 32) hC 37 (by decide) dX6_setRing_32 (fun c32 => absurd c32 (by decide)) (fun c32 => ?_)
    refine z_iconst (pc := 35) (v := 0) hC dX6_setRing_35 (by decide) ?_
    exact hE _ _ _ (F, upd V 1 1) _ _ _ dX6_setRing_36 rfl (by have hcd : cRing R x = 1 := (if_pos h1); exact mP_f hM hcd (by decide) (by simp [upd]; rfl) (by simp [upd]) (by simp [upd])) (by rw [if_neg (by rw [show cRing R x = 1 from (if_pos h1)]; decide)]) (Nat.le_refl _) (Nat.le_refl _)
  · have h1 : isReel x = true := bI_n.mp c5
    obtain ⟨hr, hx⟩ := reel_ix h1
    refine z_aln (pc := 8) hC 0 rfl dX6_setRing_8 ?_
    refine z_iln (pc := 9) hC 1 rfl dX6_setRing_9 ?_
    refine z_is_ (y := nI (ix x)) hx ?_
    refine z_g (pc := 10) (rest := [.ref (b 0)]) hC vX6_isOnShelf lX6_60 dX6_setRing_10 (m_isOnShelf hr) (fun w => w) isCtx_id rfl 0 6 rfl rfl rfl rfl rfl (by decide) (Nat.le_of_ble_eq_true rfl) ⟨Nat.le_refl _, Nat.le_refl _⟩ ?_
    refine z_ifeq (pc := 13) hC 20 (by decide) dX6_setRing_13 (fun c13 => ?_) (fun c13 => ?_)
    · have h2 : onSh R (ix x) = false := bI_0.mp c13
      refine z_iconst (pc := 20) (v := 2) hC dX6_setRing_20 (by decide) ?_
      refine z_goto (pc := 21) hC 25 (by decide) dX6_setRing_21 ?_
      refine z_put (pc := 25) (ws' := mW g.2 b R F (upd V 1 2)) hC fX6_38 p6_4 0 rfl (Nat.le_of_ble_eq_true rfl) (mW_V 4 1 (by decide)) dX6_setRing_25 ?_
      refine z_aln (pc := 28) hC 0 rfl dX6_setRing_28 ?_
      refine z_get (pc := 29) hC fX6_38 0 rfl rfl dX6_setRing_29 ?_
      refine z_is_ (y := 2) (upd_eq _ _ _) ?_
      refine z_ifle (pc := 32) hC 37 (by decide) dX6_setRing_32 (fun c32 => absurd c32 (by decide)) (fun c32 => ?_)
      refine z_iconst (pc := 35) (v := 0) hC dX6_setRing_35 (by decide) ?_
      exact hE _ _ _ (F, upd V 1 2) _ _ _ dX6_setRing_36 rfl (by have hcd : cRing R x = 2 := (by simp [cRing, h1, h2]); exact mP_f hM hcd (by decide) (by simp [upd]; rfl) (by simp [upd]) (by simp [upd])) (by rw [if_neg (by rw [show cRing R x = 2 from (by simp [cRing, h1, h2])]; decide)]) (Nat.le_refl _) (Nat.le_refl _)
    · have h2 : onSh R (ix x) = true := bI_n.mp c13
      refine z_iconst (pc := 16) (v := 0) hC dX6_setRing_16 (by decide) ?_
      refine z_goto (pc := 17) hC 25 (by decide) dX6_setRing_17 ?_
      refine z_put (pc := 25) (ws' := mW g.2 b R F (upd V 1 0)) hC fX6_38 p6_4 0 rfl (Nat.le_of_ble_eq_true rfl) (mW_V 4 1 (by decide)) dX6_setRing_25 ?_
      refine z_aln (pc := 28) hC 0 rfl dX6_setRing_28 ?_
      refine z_get (pc := 29) hC fX6_38 0 rfl rfl dX6_setRing_29 ?_
      refine z_is_ (y := 0) (upd_eq _ _ _) ?_
      refine z_ifle (pc := 32) hC 37 (by decide) dX6_setRing_32 (fun c32 => ?_) (fun c32 => absurd c32 (by decide))
      refine z_aln (pc := 37) hC 0 rfl dX6_setRing_37 ?_
      refine z_v0 (pc := 38) (rest := []) hC vX6_save lX6_120 dX6_setRing_38 (m_save (V := upd V 1 0) ((upd_ne _ _ (by decide)).trans hM.1) hM.2.1 hM.2.2.1) rfl 0 6 rfl rfl rfl rfl rfl (by decide) (Nat.le_of_ble_eq_true rfl) ⟨Nat.le_refl _, Nat.le_refl _⟩ (fun f hf => ?_)
      refine z_aln (pc := 41) hC 0 rfl dX6_setRing_41 ?_
      refine z_iln (pc := 42) hC 1 rfl dX6_setRing_42 ?_
      refine z_is_ (y := nI (ix x)) hx ?_
      refine z_iconst (pc := 43) (v := nI 2) hC dX6_setRing_43 (by decide) ?_
      refine z_g (pc := 44) (rest := []) hC vX6_of lX6_46 dX6_setRing_44 (m_of hr (by decide)) (fun w => w) isCtx_id rfl 0 6 rfl rfl rfl rfl rfl (by decide) (Nat.le_of_ble_eq_true rfl) ⟨Nat.le_refl _, Nat.le_refl _⟩ ?_
      refine z_iconst (pc := 47) (v := 1) hC dX6_setRing_47 (by decide) ?_
      refine z_icne (pc := 48) hC 55 (by decide) dX6_setRing_48 (fun c48 => ?_) (fun c48 => ?_)
      · refine z_iconst (pc := 55) (v := 0) hC dX6_setRing_55 (by decide) ?_
        refine z_is_ (y := R 2 (ix x)) (((hG.1.2.2.2.1 _ hr).1.resolve_right c48).symm) ?_
        refine z_isn (pc := 56) (lv' := [(3, .int (R 2 (ix x))), (0, .ref (b 0)), (1, .int x), (2, .int y)]) hC hm (by decide) rfl dX6_setRing_56 ?_
        refine z_aln (pc := 57) hC 1 rfl dX6_setRing_57 ?_
        refine z_iln (pc := 58) hC 2 rfl dX6_setRing_58 ?_
        refine z_is_ (y := nI (ix x)) hx ?_
        refine z_iconst (pc := 59) (v := nI 2) hC dX6_setRing_59 (by decide) ?_
        refine z_iln (pc := 60) hC 3 rfl dX6_setRing_60 ?_
        refine z_ifeq (pc := 61) hC 68 (by decide) dX6_setRing_61 (fun c61 => ?_) (fun c61 => ?_)
        · refine z_iconst (pc := 68) (v := 0) hC dX6_setRing_68 (by decide) ?_
          refine z_is_ (y := y) c61.symm ?_
          refine z_gv (pc := 69) (rest := []) hC vX6_put lX6_34 dX6_setRing_69 (m_put hr (by decide)) (fun w => w) isCtx_id rfl 0 6 rfl rfl rfl rfl rfl (by decide) (Nat.le_of_ble_eq_true rfl) ⟨Nat.le_refl _, Nat.le_refl _⟩ ?_
          refine z_iln (pc := 72) hC 0 rfl dX6_setRing_72 ?_
          exact hE _ _ _ (va_up F 0 f, upd (upd V 1 0) 0 (nI (pushN s))) _ _ _ dX6_setRing_73 (by rcases (hG.1.2.2.2.1 _ hr).1 with h | h <;> rw [h] <;> rfl) (by have hcd : cRing R x = 0 := (by simp [cRing, h1, h2]); exact mP_0 hcd (by simp [upd]) (mR_save hM hf (by simp [upd]) (by simp [upd])) rfl) (by rw [if_pos (show cRing R x = 0 from (by simp [cRing, h1, h2]))]) (Nat.le_refl _) (Nat.le_refl _)
        · refine z_iconst (pc := 64) (v := 1) hC dX6_setRing_64 (by decide) ?_
          refine z_goto (pc := 65) hC 69 (by decide) dX6_setRing_65 ?_
          refine z_is_ (y := y) ((hy.resolve_left c61).symm) ?_
          refine z_gv (pc := 69) (rest := []) hC vX6_put lX6_34 dX6_setRing_69 (m_put hr (by decide)) (fun w => w) isCtx_id rfl 0 6 rfl rfl rfl rfl rfl (by decide) (Nat.le_of_ble_eq_true rfl) ⟨Nat.le_refl _, Nat.le_refl _⟩ ?_
          refine z_iln (pc := 72) hC 0 rfl dX6_setRing_72 ?_
          exact hE _ _ _ (va_up F 0 f, upd (upd V 1 0) 0 (nI (pushN s))) _ _ _ dX6_setRing_73 (by rcases (hG.1.2.2.2.1 _ hr).1 with h | h <;> rw [h] <;> rfl) (by have hcd : cRing R x = 0 := (by simp [cRing, h1, h2]); exact mP_0 hcd (by simp [upd]) (mR_save hM hf (by simp [upd]) (by simp [upd])) rfl) (by rw [if_pos (show cRing R x = 0 from (by simp [cRing, h1, h2]))]) (Nat.le_refl _) (Nat.le_refl _)
      · refine z_iconst (pc := 51) (v := 1) hC dX6_setRing_51 (by decide) ?_
        refine z_goto (pc := 52) hC 56 (by decide) dX6_setRing_52 ?_
        refine z_is_ (y := R 2 (ix x)) (by rw [c48]) ?_
        refine z_isn (pc := 56) (lv' := [(3, .int (R 2 (ix x))), (0, .ref (b 0)), (1, .int x), (2, .int y)]) hC hm (by decide) rfl dX6_setRing_56 ?_
        refine z_aln (pc := 57) hC 1 rfl dX6_setRing_57 ?_
        refine z_iln (pc := 58) hC 2 rfl dX6_setRing_58 ?_
        refine z_is_ (y := nI (ix x)) hx ?_
        refine z_iconst (pc := 59) (v := nI 2) hC dX6_setRing_59 (by decide) ?_
        refine z_iln (pc := 60) hC 3 rfl dX6_setRing_60 ?_
        refine z_ifeq (pc := 61) hC 68 (by decide) dX6_setRing_61 (fun c61 => ?_) (fun c61 => ?_)
        · refine z_iconst (pc := 68) (v := 0) hC dX6_setRing_68 (by decide) ?_
          refine z_is_ (y := y) c61.symm ?_
          refine z_gv (pc := 69) (rest := []) hC vX6_put lX6_34 dX6_setRing_69 (m_put hr (by decide)) (fun w => w) isCtx_id rfl 0 6 rfl rfl rfl rfl rfl (by decide) (Nat.le_of_ble_eq_true rfl) ⟨Nat.le_refl _, Nat.le_refl _⟩ ?_
          refine z_iln (pc := 72) hC 0 rfl dX6_setRing_72 ?_
          exact hE _ _ _ (va_up F 0 f, upd (upd V 1 0) 0 (nI (pushN s))) _ _ _ dX6_setRing_73 (by rcases (hG.1.2.2.2.1 _ hr).1 with h | h <;> rw [h] <;> rfl) (by have hcd : cRing R x = 0 := (by simp [cRing, h1, h2]); exact mP_0 hcd (by simp [upd]) (mR_save hM hf (by simp [upd]) (by simp [upd])) rfl) (by rw [if_pos (show cRing R x = 0 from (by simp [cRing, h1, h2]))]) (Nat.le_refl _) (Nat.le_refl _)
        · refine z_iconst (pc := 64) (v := 1) hC dX6_setRing_64 (by decide) ?_
          refine z_goto (pc := 65) hC 69 (by decide) dX6_setRing_65 ?_
          refine z_is_ (y := y) ((hy.resolve_left c61).symm) ?_
          refine z_gv (pc := 69) (rest := []) hC vX6_put lX6_34 dX6_setRing_69 (m_put hr (by decide)) (fun w => w) isCtx_id rfl 0 6 rfl rfl rfl rfl rfl (by decide) (Nat.le_of_ble_eq_true rfl) ⟨Nat.le_refl _, Nat.le_refl _⟩ ?_
          refine z_iln (pc := 72) hC 0 rfl dX6_setRing_72 ?_
          exact hE _ _ _ (va_up F 0 f, upd (upd V 1 0) 0 (nI (pushN s))) _ _ _ dX6_setRing_73 (by rcases (hG.1.2.2.2.1 _ hr).1 with h | h <;> rw [h] <;> rfl) (by have hcd : cRing R x = 0 := (by simp [cRing, h1, h2]); exact mP_0 hcd (by simp [upd]) (mR_save hM hf (by simp [upd]) (by simp [upd])) rfl) (by rw [if_pos (show cRing R x = 0 from (by simp [cRing, h1, h2]))]) (Nat.le_refl _) (Nat.le_refl _)

theorem m_undoP {g : zG} {b : Nat → Nat} {R : St} {F : Nat → Nat → Int32} {V : Nat → Int32} {H : Nat → St} {s : Nat} {t : Nat → Nat} {L : Nat} (hM : mR F V H s t L) : FI (S := (Nat → Nat → Int32) × (Nat → Int32)) g yX6_undo cX6_undo 2 .int 1 0 0 [.ref (b 0)] (mW g.2 b R F V) (mP (cUndo s) (nI (s - 1)) H (s - 1) H s t L) (fun S => mW g.2 b (if cUndo s = 0 then H (s - 1) else R) S.1 S.2) := by
  refine FI_mono (m_undo hM.1 hM.2.1 hM.2.2.1) (fun r _ hr => ?_)
  subst hr
  by_cases hs : s = 0
  · have hc : cUndo s = 1 := if_pos hs
    refine ⟨(F, upd V 1 1), ?_, ?_⟩
    · exact mP_f hM hc (by decide) (upd_eq _ _ _) (by simp [upd]) (by simp [upd])
    · rw [if_pos hs, if_neg (by rw [hc]; decide)]
  · have hc : cUndo s = 0 := if_neg hs
    refine ⟨(F, upd (upd V 1 0) 0 (nI (s - 1))), ?_, ?_⟩
    · refine mP_0 hc (by simp [upd]) ?_ (if_neg hs)
      exact ⟨by simp [upd], by have := hM.2.1; omega, fun k hk => hM.2.2.1 k (by omega), by simp [upd]; exact hM.2.2.2.1, hM.2.2.2.2⟩
    · rw [if_neg hs, if_pos hc]

def tApp (t : Nat → Nat) (L : Nat) (x : Int32) : Nat → Nat := fun p => if p = L then ix x else t p
/-- .. where the text changes -/
def mQ (cd : Nat) (val : Int32) (t' : Nat → Nat) (L' : Nat) (H : Nat → St) (s : Nat) (t : Nat → Nat) (L : Nat) (r : Int32) (S : (Nat → Nat → Int32) × (Nat → Int32)) : Prop :=
  S.2 1 = nI cd ∧ (cd = 0 → mR S.1 S.2 H s t' L' ∧ r = val) ∧ (cd ≠ 0 → mR S.1 S.2 H s t L)
theorem mQ_f {cd k s L L' : Nat} {val r : Int32} {H : Nat → St} {t t' : Nat → Nat} {F : Nat → Nat → Int32} {V V' : Nat → Int32} (h : mR F V H s t L) (hc : cd = k) (hk : k ≠ 0) (e1 : V' 1 = nI k) (e0 : V' 0 = V 0) (e2 : V' 2 = V 2) : mQ cd val t' L' H s t L r (F, V') :=
  ⟨by rw [hc]; exact e1, fun e => absurd (hc.symm.trans e) hk, fun _ => mR_keep h e0 e2 rfl rfl⟩
theorem mQ_0 {cd s L L' : Nat} {val r : Int32} {H : Nat → St} {t t' : Nat → Nat} {F' : Nat → Nat → Int32} {V' : Nat → Int32} (hc : cd = 0) (e1 : V' 1 = 0) (h : mR F' V' H s t' L') (hr : r = val) : mQ cd val t' L' H s t L r (F', V') :=
  ⟨by rw [hc]; exact e1, fun _ => ⟨h, hr⟩, fun e => absurd hc e⟩
theorem app_ix {x : Int32} (h : inB x 32 126 = true) : x = nI (ix x) ∧ 32 ≤ ix x ∧ ix x ≤ 126 := by
  obtain ⟨h1, h2⟩ := inB_iff.mp h
  obtain ⟨j, hj, rfl⟩ := nI_of (x := x) (Int32.not_lt.mpr (Int32.le_trans (by decide) h1))
  rw [ix_nI hj]; exact ⟨rfl, (nI_leI (a := 32) (by omega) hj).mp h1, (nI_leI (b := 126) hj (by omega)).mp h2⟩
theorem tOK_app {Q : Nat → Int32} {t : Nat → Nat} {L : Nat} {x : Int32} (h : tOK Q t L) (hx : inB x 32 126 = true) : tOK (upd Q L x) (tApp t L x) (L + 1) := by
  intro p hp
  obtain ⟨e, h1, h2⟩ := app_ix hx
  by_cases hpl : p = L
  · subst hpl; simp [tApp, upd, h1, h2]; exact e
  · simp [tApp, upd, hpl]; exact h p (by omega)

set_option maxRecDepth 100000 in
set_option maxHeartbeats 4000000 in
theorem m_appendText {g : zG} {b : Nat → Nat} {R : St} {F : Nat → Nat → Int32} {V : Nat → Int32} {H : Nat → St} {s : Nat} {t : Nat → Nat} {L : Nat} (hG : GR R) (hM : mR F V H s t L) {x : Int32} : FI (S := (Nat → Nat → Int32) × (Nat → Int32)) g yX6_appendText cX6_appendText 2 .int 1 0 0 [.ref (b 0), .int x] (mW g.2 b R F V) (mQ (cApp L x) (nI (L + 1)) (tApp t L x) (L + 1) H s t L) (fun S => mW g.2 b R S.1 S.2) := by
  refine fi_entry (by decide) (Nat.le_of_ble_eq_true rfl) (fun C hC hm hE => ?_)
  refine z_aln (pc := 0) hC 0 rfl dX6_appendText_0 ?_
  refine z_iconst (pc := 1) (v := 0) hC dX6_appendText_1 (by decide) ?_
  refine z_put (pc := 2) (ws' := mW g.2 b R F (upd V 1 0)) hC fX6_38 p6_4 0 rfl (Nat.le_of_ble_eq_true rfl) (mW_V 4 1 (by decide)) dX6_appendText_2 ?_
  refine z_iln (pc := 5) hC 1 rfl dX6_appendText_5 ?_
  refine z_bipush (pc := 6) (v := 32) hC dX6_appendText_6 (by decide) ?_
  refine z_bipush (pc := 8) (v := 126) hC dX6_appendText_8 (by decide) ?_
  refine z_gs (pc := 10) (rest := []) hC sX6_in lX6_42 dX6_appendText_10 m_in rfl rfl (by decide) (Nat.le_of_ble_eq_true rfl) ⟨Nat.le_refl _, Nat.le_refl _⟩ ?_
  refine z_ifne (pc := 13) hC 22 (by decide) dX6_appendText_13 (fun c13 => ?_) (fun c13 => ?_)
  · have h1 : inB x 32 126 = true := bI_n.mp c13
    refine z_aln (pc := 22) hC 0 rfl dX6_appendText_22 ?_
    refine z_get (pc := 23) hC fX6_136 0 rfl rfl dX6_appendText_23 ?_
    refine z_is_ (y := nI L) (by simp [upd, hM.2.2.2.1]) ?_
    refine z_bipush (pc := 26) (v := nI 80) hC dX6_appendText_26 (by decide) ?_
    refine z_icne (pc := 28) hC 37 (by decide) dX6_appendText_28 (fun c28 => ?_) (fun c28 => ?_)
    · have h2 : ¬ L = 80 := fun z => c28 (by rw [z])
      refine z_aln (pc := 37) hC 0 rfl dX6_appendText_37 ?_
      refine z_get (pc := 38) hC fX6_19 0 rfl rfl dX6_appendText_38 ?_
      refine z_aln (pc := 41) hC 0 rfl dX6_appendText_41 ?_
      refine z_get (pc := 42) hC fX6_136 0 rfl rfl dX6_appendText_42 ?_
      refine z_is_ (y := nI L) (by simp [upd, hM.2.2.2.1]) ?_
      refine z_iln (pc := 45) hC 1 rfl dX6_appendText_45 ?_
      refine z_iast (pc := 46) (ws' := mW g.2 b R (setS F 2 L x) (upd V 1 0)) hC 4 rfl dX6_appendText_46 L rfl (by have := hM.2.2.2.2.1; omega) (by decide) mW_F2 ?_
      refine z_aln (pc := 47) hC 0 rfl dX6_appendText_47 ?_
      refine z_dup (pc := 48) hC rfl dX6_appendText_48 ?_
      refine z_get (pc := 49) hC fX6_136 0 rfl rfl dX6_appendText_49 ?_
      refine z_is_ (y := nI L) (by simp [upd, hM.2.2.2.1]) ?_
      refine z_iconst (pc := 52) (v := 1) hC dX6_appendText_52 (by decide) ?_
      refine z_iadd (pc := 53) (v := nI (L + 1)) hC (nI_1 L) dX6_appendText_53 ?_
      refine z_put (pc := 54) (ws' := mW g.2 b R (setS F 2 L x) (upd (upd V 1 0) 2 (nI (L + 1)))) hC fX6_136 p6_6 0 rfl (Nat.le_of_ble_eq_true rfl) (mW_V 6 2 (by decide)) dX6_appendText_54 ?_
      refine z_aln (pc := 57) hC 0 rfl dX6_appendText_57 ?_
      refine z_get (pc := 58) hC fX6_136 0 rfl rfl dX6_appendText_58 ?_
      refine z_is_ (y := nI (L + 1)) (by simp [upd]) ?_
      exact hE _ _ _ (setS F 2 L x, upd (upd V 1 0) 2 (nI (L + 1))) _ _ _ dX6_appendText_61 rfl (mQ_0 (by simp [cApp, h1, h2]) (by simp [upd]) ⟨by simp [upd]; exact hM.1, hM.2.1, hM.2.2.1, by simp [upd], by have := hM.2.2.2.2.1; omega, tOK_app hM.2.2.2.2.2 h1⟩ rfl) rfl (Nat.le_refl _) (Nat.le_refl _)
    · have h2 : L = 80 := nI_inj (by have := hM.2.2.2.2.1; omega) (by omega) c28
      refine z_aln (pc := 31) hC 0 rfl dX6_appendText_31 ?_
      refine z_iconst (pc := 32) (v := 2) hC dX6_appendText_32 (by decide) ?_
      refine z_g (pc := 33) (rest := []) hC vX6_fails lX6_53 dX6_appendText_33 (m_fails (x := 2)) (fun w => w) isCtx_id rfl 0 6 rfl rfl rfl rfl rfl (by decide) (Nat.le_of_ble_eq_true rfl) ⟨Nat.le_refl _, Nat.le_refl _⟩ ?_
      exact hE _ _ _ (F, upd (upd V 1 0) 1 2) _ _ _ dX6_appendText_36 rfl (mQ_f hM (k := 2) (by simp [cApp, h1, h2]) (by decide) (by simp [upd]; rfl) (by simp [upd]) (by simp [upd])) rfl (Nat.le_refl _) (Nat.le_refl _)
  · have h1 : inB x 32 126 = false := bI_0.mp c13
    refine z_aln (pc := 16) hC 0 rfl dX6_appendText_16 ?_
    refine z_iconst (pc := 17) (v := 1) hC dX6_appendText_17 (by decide) ?_
    refine z_g (pc := 18) (rest := []) hC vX6_fails lX6_53 dX6_appendText_18 (m_fails (x := 1)) (fun w => w) isCtx_id rfl 0 6 rfl rfl rfl rfl rfl (by decide) (Nat.le_of_ble_eq_true rfl) ⟨Nat.le_refl _, Nat.le_refl _⟩ ?_
    exact hE _ _ _ (F, upd (upd V 1 0) 1 1) _ _ _ dX6_appendText_21 rfl (mQ_f hM (k := 1) (if_pos h1) (by decide) (by simp [upd]; rfl) (by simp [upd]) (by simp [upd])) rfl (Nat.le_refl _) (Nat.le_refl _)

set_option maxRecDepth 100000 in
set_option maxHeartbeats 4000000 in
theorem m_clearText {g : zG} {b : Nat → Nat} {R : St} {F : Nat → Nat → Int32} {V : Nat → Int32} {H : Nat → St} {s : Nat} {t : Nat → Nat} {L : Nat} (hG : GR R) (hM : mR F V H s t L) : FI (S := (Nat → Nat → Int32) × (Nat → Int32)) g yX6_clearText cX6_clearText 2 .int 0 0 0 [.ref (b 0)] (mW g.2 b R F V) (mQ 0 (nI L) t 0 H s t L) (fun S => mW g.2 b R S.1 S.2) := by
  refine fi_entry (by decide) (Nat.le_of_ble_eq_true rfl) (fun C hC hm hE => ?_)
  refine z_aln (pc := 0) hC 0 rfl dX6_clearText_0 ?_
  refine z_iconst (pc := 1) (v := 0) hC dX6_clearText_1 (by decide) ?_
  refine z_put (pc := 2) (ws' := mW g.2 b R F (upd V 1 0)) hC fX6_38 p6_4 0 rfl (Nat.le_of_ble_eq_true rfl) (mW_V 4 1 (by decide)) dX6_clearText_2 ?_
  refine z_aln (pc := 5) hC 0 rfl dX6_clearText_5 ?_
  refine z_get (pc := 6) hC fX6_136 0 rfl rfl dX6_clearText_6 ?_
  refine z_is_ (y := nI L) (by simp [upd, hM.2.2.2.1]) ?_
  refine z_isn (pc := 9) (lv' := [(1, .int (nI L)), (0, .ref (b 0))]) hC hm (by decide) rfl dX6_clearText_9 ?_
  refine z_aln (pc := 10) hC 1 rfl dX6_clearText_10 ?_
  refine z_iconst (pc := 11) (v := nI 0) hC dX6_clearText_11 (by decide) ?_
  refine z_put (pc := 12) (ws' := mW g.2 b R F (upd (upd V 1 0) 2 (nI 0))) hC fX6_136 p6_6 0 rfl (Nat.le_of_ble_eq_true rfl) (mW_V 6 2 (by decide)) dX6_clearText_12 ?_
  refine z_iln (pc := 15) hC 0 rfl dX6_clearText_15 ?_
  exact hE _ _ _ (F, upd (upd V 1 0) 2 (nI 0)) _ _ _ dX6_clearText_16 rfl (mQ_0 rfl (by simp [upd]) ⟨by simp [upd]; exact hM.1, hM.2.1, hM.2.2.1, by simp [upd], by omega, fun p hp => absurd hp (by omega)⟩ rfl) rfl (Nat.le_refl _) (Nat.le_refl _)

theorem m_errorP {g : zG} {b : Nat → Nat} {R : St} {F : Nat → Nat → Int32} {V : Nat → Int32} {H : Nat → St} {s : Nat} {t : Nat → Nat} {L : Nat} (hM : mR F V H s t L) : FI (S := (Nat → Nat → Int32) × (Nat → Int32)) g yX6_errorPosition cX6_errorPosition 1 .int 5 0 0 [.ref (b 0)] (mW g.2 b R F V) (mP 0 (errV (prs t L 80 0).2) H s H s t L) (fun S => mW g.2 b R S.1 S.2) := by
  refine FI_mono (m_errorPosition hM.2.2.2.2.2 hM.2.2.2.2.1 hM.2.2.2.1) (fun r S h => ⟨S, ?_, rfl⟩)
  obtain ⟨h1, h2, h3, h4, h5⟩ := h
  exact mP_0 (F' := S.1) (V' := S.2) rfl h3 (mR_keep hM h2 h4 h5.1 h5.2.2) h1

set_option maxRecDepth 100000 in
set_option maxHeartbeats 4000000 in
theorem m_reel {g : zG} {b : Nat → Nat} {R : St} {F : Nat → Nat → Int32} {V : Nat → Int32} {H : Nat → St} {s : Nat} {t : Nat → Nat} {L : Nat} (hG : GR R) (hM : mR F V H s t L) {x y : Int32} : FI (S := (Nat → Nat → Int32) × (Nat → Int32)) g yX6_reel cX6_reel 3 .int 2 0 0 [.ref (b 0), .int x, .int y] (mW g.2 b R F V) (mP (cReel x y) (vReel R x y) H s H s t L) (fun S => mW g.2 b R S.1 S.2) := by
  refine fi_entry (by decide) (Nat.le_of_ble_eq_true rfl) (fun C hC hm hE => ?_)
  refine z_aln (pc := 0) hC 0 rfl dX6_reel_0 ?_
  refine z_iconst (pc := 1) (v := 0) hC dX6_reel_1 (by decide) ?_
  refine z_put (pc := 2) (ws' := mW g.2 b R F (upd V 1 0)) hC fX6_38 p6_4 0 rfl (Nat.le_of_ble_eq_true rfl) (mW_V 4 1 (by decide)) dX6_reel_2 ?_
  refine z_iln (pc := 5) hC 1 rfl dX6_reel_5 ?_
  refine z_gs (pc := 6) (rest := []) hC sX6_isReel lX6_130 dX6_reel_6 m_isReel rfl rfl (by decide) (Nat.le_of_ble_eq_true rfl) ⟨Nat.le_refl _, Nat.le_refl _⟩ ?_
  refine z_ifne (pc := 9) hC 18 (by decide) dX6_reel_9 (fun c9 => ?_) (fun c9 => ?_)
  · have h1 : isReel x = true := bI_n.mp c9
    obtain ⟨hr, hx⟩ := reel_ix h1
    refine z_iln (pc := 18) hC 2 rfl dX6_reel_18 ?_
    refine z_bipush (pc := 19) (v := 6) hC dX6_reel_19 (by decide) ?_
    refine z_icne (pc := 21) hC 40 (by decide) dX6_reel_21 (fun c21 => ?_) (fun c21 => ?_)
    · refine z_iln (pc := 40) hC 2 rfl dX6_reel_40 ?_
      refine z_iconst (pc := 41) (v := 0) hC dX6_reel_41 (by decide) ?_
      refine z_iconst (pc := 42) (v := 5) hC dX6_reel_42 (by decide) ?_
      refine z_gs (pc := 43) (rest := []) hC sX6_in lX6_42 dX6_reel_43 m_in rfl rfl (by decide) (Nat.le_of_ble_eq_true rfl) ⟨Nat.le_refl _, Nat.le_refl _⟩ ?_
      refine z_ifeq (pc := 46) hC 58 (by decide) dX6_reel_46 (fun c46 => ?_) (fun c46 => ?_)
      · have h2 : inB y 0 5 = false := bI_0.mp c46
        refine z_aln (pc := 58) hC 0 rfl dX6_reel_58 ?_
        refine z_iconst (pc := 59) (v := 2) hC dX6_reel_59 (by decide) ?_
        refine z_g (pc := 60) (rest := []) hC vX6_fails lX6_53 dX6_reel_60 (m_fails (x := 2)) (fun w => w) isCtx_id rfl 0 6 rfl rfl rfl rfl rfl (by decide) (Nat.le_of_ble_eq_true rfl) ⟨Nat.le_refl _, Nat.le_refl _⟩ ?_
        exact hE _ _ _ (F, upd (upd V 1 0) 1 2) _ _ _ dX6_reel_63 rfl (by have hcd : cReel x y = 2 := (by simp [cReel, h1, h2, c21]); exact mP_f hM hcd (by decide) (by simp [upd]; rfl) (by simp [upd]) (by simp [upd])) rfl (Nat.le_refl _) (Nat.le_refl _)
      · have h2 : inB y 0 5 = true := bI_n.mp c46
        obtain ⟨hw, hy⟩ := in_ix (n := 5) (by decide) rfl h2
        refine z_aln (pc := 49) hC 0 rfl dX6_reel_49 ?_
        refine z_iln (pc := 50) hC 1 rfl dX6_reel_50 ?_
        refine z_is_ (y := nI (ix x)) hx ?_
        refine z_iln (pc := 51) hC 2 rfl dX6_reel_51 ?_
        refine z_is_ (y := nI (ix y)) hy ?_
        refine z_g (pc := 52) (rest := []) hC vX6_of lX6_46 dX6_reel_52 (m_of hr (by omega)) (fun w => w) isCtx_id rfl 0 6 rfl rfl rfl rfl rfl (by decide) (Nat.le_of_ble_eq_true rfl) ⟨Nat.le_refl _, Nat.le_refl _⟩ ?_
        refine z_goto (pc := 55) hC 63 (by decide) dX6_reel_55 ?_
        exact hE _ _ _ (F, upd V 1 0) _ _ _ dX6_reel_63 rfl (by have hcd : cReel x y = 0 := (by simp [cReel, h1, h2]); exact mP_0 hcd (by simp [upd]) (mR_keep hM (by simp [upd]) (by simp [upd]) rfl rfl) (by simp [vReel, c21])) rfl (Nat.le_refl _) (Nat.le_refl _)
    · refine z_aln (pc := 24) hC 0 rfl dX6_reel_24 ?_
      refine z_iln (pc := 25) hC 1 rfl dX6_reel_25 ?_
      refine z_is_ (y := nI (ix x)) hx ?_
      refine z_g (pc := 26) (rest := []) hC vX6_isScratch lX6_67 dX6_reel_26 (m_isScratch hr) (fun w => w) isCtx_id rfl 0 6 rfl rfl rfl rfl rfl (by decide) (Nat.le_of_ble_eq_true rfl) ⟨Nat.le_refl _, Nat.le_refl _⟩ ?_
      refine z_ifeq (pc := 29) hC 36 (by decide) dX6_reel_29 (fun c29 => ?_) (fun c29 => ?_)
      · refine z_iconst (pc := 36) (v := 0) hC dX6_reel_36 (by decide) ?_
        refine z_goto (pc := 37) hC 63 (by decide) dX6_reel_37 ?_
        exact hE _ _ _ (F, upd V 1 0) _ _ _ dX6_reel_63 rfl (by have hcd : cReel x y = 0 := (by simp [cReel, h1, c21]); exact mP_0 hcd (by simp [upd]) (mR_keep hM (by simp [upd]) (by simp [upd]) rfl rfl) (by simp [vReel, c21, bI_0.mp c29, bI])) rfl (Nat.le_refl _) (Nat.le_refl _)
      · refine z_iconst (pc := 32) (v := 1) hC dX6_reel_32 (by decide) ?_
        refine z_goto (pc := 33) hC 63 (by decide) dX6_reel_33 ?_
        exact hE _ _ _ (F, upd V 1 0) _ _ _ dX6_reel_63 rfl (by have hcd : cReel x y = 0 := (by simp [cReel, h1, c21]); exact mP_0 hcd (by simp [upd]) (mR_keep hM (by simp [upd]) (by simp [upd]) rfl rfl) (by simp [vReel, c21, bI_n.mp c29, bI])) rfl (Nat.le_refl _) (Nat.le_refl _)
  · have h1 : isReel x = false := bI_0.mp c9
    refine z_aln (pc := 12) hC 0 rfl dX6_reel_12 ?_
    refine z_iconst (pc := 13) (v := 1) hC dX6_reel_13 (by decide) ?_
    refine z_g (pc := 14) (rest := []) hC vX6_fails lX6_53 dX6_reel_14 (m_fails (x := 1)) (fun w => w) isCtx_id rfl 0 6 rfl rfl rfl rfl rfl (by decide) (Nat.le_of_ble_eq_true rfl) ⟨Nat.le_refl _, Nat.le_refl _⟩ ?_
    exact hE _ _ _ (F, upd (upd V 1 0) 1 1) _ _ _ dX6_reel_17 rfl (by have hcd : cReel x y = 1 := (if_pos h1); exact mP_f hM hcd (by decide) (by simp [upd]; rfl) (by simp [upd]) (by simp [upd])) rfl (Nat.le_refl _) (Nat.le_refl _)

set_option maxRecDepth 100000 in
set_option maxHeartbeats 4000000 in
theorem m_reelOn {g : zG} {b : Nat → Nat} {R : St} {F : Nat → Nat → Int32} {V : Nat → Int32} {H : Nat → St} {s : Nat} {t : Nat → Nat} {L : Nat} (hG : GR R) (hM : mR F V H s t L) {x : Int32} : FI (S := (Nat → Nat → Int32) × (Nat → Int32)) g yX6_reelOn cX6_reelOn 2 .int 2 0 0 [.ref (b 0), .int x] (mW g.2 b R F V) (mP (cOn x) (onDr R x) H s H s t L) (fun S => mW g.2 b R S.1 S.2) := by
  refine fi_entry (by decide) (Nat.le_of_ble_eq_true rfl) (fun C hC hm hE => ?_)
  refine z_aln (pc := 0) hC 0 rfl dX6_reelOn_0 ?_
  refine z_iconst (pc := 1) (v := 0) hC dX6_reelOn_1 (by decide) ?_
  refine z_put (pc := 2) (ws' := mW g.2 b R F (upd V 1 0)) hC fX6_38 p6_4 0 rfl (Nat.le_of_ble_eq_true rfl) (mW_V 4 1 (by decide)) dX6_reelOn_2 ?_
  refine z_iln (pc := 5) hC 1 rfl dX6_reelOn_5 ?_
  refine z_iconst (pc := 6) (v := 0) hC dX6_reelOn_6 (by decide) ?_
  refine z_iconst (pc := 7) (v := 2) hC dX6_reelOn_7 (by decide) ?_
  refine z_gs (pc := 8) (rest := []) hC sX6_in lX6_42 dX6_reelOn_8 m_in rfl rfl (by decide) (Nat.le_of_ble_eq_true rfl) ⟨Nat.le_refl _, Nat.le_refl _⟩ ?_
  refine z_ifeq (pc := 11) hC 22 (by decide) dX6_reelOn_11 (fun c11 => ?_) (fun c11 => ?_)
  · have h1 : inB x 0 2 = false := bI_0.mp c11
    refine z_aln (pc := 22) hC 0 rfl dX6_reelOn_22 ?_
    refine z_iconst (pc := 23) (v := 1) hC dX6_reelOn_23 (by decide) ?_
    refine z_g (pc := 24) (rest := []) hC vX6_fails lX6_53 dX6_reelOn_24 (m_fails (x := 1)) (fun w => w) isCtx_id rfl 0 6 rfl rfl rfl rfl rfl (by decide) (Nat.le_of_ble_eq_true rfl) ⟨Nat.le_refl _, Nat.le_refl _⟩ ?_
    exact hE _ _ _ (F, upd (upd V 1 0) 1 1) _ _ _ dX6_reelOn_27 rfl (by have hcd : cOn x = 1 := (if_pos h1); exact mP_f hM hcd (by decide) (by simp [upd]; rfl) (by simp [upd]) (by simp [upd])) rfl (Nat.le_refl _) (Nat.le_refl _)
  · have h1 : inB x 0 2 = true := bI_n.mp c11
    refine z_aln (pc := 14) hC 0 rfl dX6_reelOn_14 ?_
    refine z_iln (pc := 15) hC 1 rfl dX6_reelOn_15 ?_
    refine z_g (pc := 16) (rest := []) hC vX6_onDrive lX6_70 dX6_reelOn_16 m_onDrive (fun w => w) isCtx_id rfl 0 6 rfl rfl rfl rfl rfl (by decide) (Nat.le_of_ble_eq_true rfl) ⟨Nat.le_refl _, Nat.le_refl _⟩ ?_
    refine z_goto (pc := 19) hC 27 (by decide) dX6_reelOn_19 ?_
    exact hE _ _ _ (F, upd V 1 0) _ _ _ dX6_reelOn_27 rfl (by have hcd : cOn x = 0 := (by simp [cOn, h1]); exact mP_0 hcd (by simp [upd]) (mR_keep hM (by simp [upd]) (by simp [upd]) rfl rfl) rfl) rfl (Nat.le_refl _) (Nat.le_refl _)

set_option maxRecDepth 100000 in
set_option maxHeartbeats 4000000 in
theorem m_job {g : zG} {b : Nat → Nat} {R : St} {F : Nat → Nat → Int32} {V : Nat → Int32} {H : Nat → St} {s : Nat} {t : Nat → Nat} {L : Nat} (hG : GR R) (hM : mR F V H s t L) {x y : Int32} : FI (S := (Nat → Nat → Int32) × (Nat → Int32)) g yX6_job cX6_job 3 .int 2 0 0 [.ref (b 0), .int x, .int y] (mW g.2 b R F V) (mP (cJob R x y) (vJob R x y) H s H s t L) (fun S => mW g.2 b R S.1 S.2) := by
  refine fi_entry (by decide) (Nat.le_of_ble_eq_true rfl) (fun C hC hm hE => ?_)
  refine z_aln (pc := 0) hC 0 rfl dX6_job_0 ?_
  refine z_iconst (pc := 1) (v := 0) hC dX6_job_1 (by decide) ?_
  refine z_put (pc := 2) (ws' := mW g.2 b R F (upd V 1 0)) hC fX6_38 p6_4 0 rfl (Nat.le_of_ble_eq_true rfl) (mW_V 4 1 (by decide)) dX6_job_2 ?_
  refine z_aln (pc := 5) hC 0 rfl dX6_job_5 ?_
  refine z_iln (pc := 6) hC 1 rfl dX6_job_6 ?_
  refine z_g (pc := 7) (rest := []) hC vX6_isJob lX6_127 dX6_job_7 m_isJob (fun w => w) isCtx_id rfl 0 6 rfl rfl rfl rfl rfl (by decide) (Nat.le_of_ble_eq_true rfl) ⟨Nat.le_refl _, Nat.le_refl _⟩ ?_
  refine z_ifne (pc := 10) hC 19 (by decide) dX6_job_10 (fun c10 => ?_) (fun c10 => ?_)
  · have h1 : isJob R x = true := bI_n.mp c10
    obtain ⟨hjn, hj, hx⟩ := job_ix hG h1
    refine z_iln (pc := 19) hC 2 rfl dX6_job_19 ?_
    refine z_iconst (pc := 20) (v := 0) hC dX6_job_20 (by decide) ?_
    refine z_bipush (pc := 21) (v := 7) hC dX6_job_21 (by decide) ?_
    refine z_gs (pc := 23) (rest := []) hC sX6_in lX6_42 dX6_job_23 m_in rfl rfl (by decide) (Nat.le_of_ble_eq_true rfl) ⟨Nat.le_refl _, Nat.le_refl _⟩ ?_
    refine z_ifeq (pc := 26) hC 38 (by decide) dX6_job_26 (fun c26 => ?_) (fun c26 => ?_)
    · have h2 : inB y 0 7 = false := bI_0.mp c26
      refine z_aln (pc := 38) hC 0 rfl dX6_job_38 ?_
      refine z_iconst (pc := 39) (v := 2) hC dX6_job_39 (by decide) ?_
      refine z_g (pc := 40) (rest := []) hC vX6_fails lX6_53 dX6_job_40 (m_fails (x := 2)) (fun w => w) isCtx_id rfl 0 6 rfl rfl rfl rfl rfl (by decide) (Nat.le_of_ble_eq_true rfl) ⟨Nat.le_refl _, Nat.le_refl _⟩ ?_
      exact hE _ _ _ (F, upd (upd V 1 0) 1 2) _ _ _ dX6_job_43 rfl (by have hcd : cJob R x y = 2 := (by simp [cJob, h1, h2]); exact mP_f hM hcd (by decide) (by simp [upd]; rfl) (by simp [upd]) (by simp [upd])) rfl (Nat.le_refl _) (Nat.le_refl _)
    · have h2 : inB y 0 7 = true := bI_n.mp c26
      obtain ⟨hw, hy⟩ := in_ix (n := 7) (by decide) rfl h2
      refine z_aln (pc := 29) hC 0 rfl dX6_job_29 ?_
      refine z_iln (pc := 30) hC 1 rfl dX6_job_30 ?_
      refine z_is_ (y := nI (ix x)) hx ?_
      refine z_iln (pc := 31) hC 2 rfl dX6_job_31 ?_
      refine z_is_ (y := nI (ix y)) hy ?_
      refine z_g (pc := 32) (rest := []) hC vX6_ofJob lX6_57 dX6_job_32 (m_ofJob (c := 6 + ix y) hj (by omega) rfl) (fun w => w) isCtx_id rfl 0 6 rfl rfl rfl rfl rfl (by decide) (Nat.le_of_ble_eq_true rfl) ⟨Nat.le_refl _, Nat.le_refl _⟩ ?_
      refine z_goto (pc := 35) hC 43 (by decide) dX6_job_35 ?_
      exact hE _ _ _ (F, upd V 1 0) _ _ _ dX6_job_43 rfl (by have hcd : cJob R x y = 0 := (by simp [cJob, h1, h2]); exact mP_0 hcd (by simp [upd]) (mR_keep hM (by simp [upd]) (by simp [upd]) rfl rfl) rfl) rfl (Nat.le_refl _) (Nat.le_refl _)
  · have h1 : isJob R x = false := bI_0.mp c10
    refine z_aln (pc := 13) hC 0 rfl dX6_job_13 ?_
    refine z_iconst (pc := 14) (v := 1) hC dX6_job_14 (by decide) ?_
    refine z_g (pc := 15) (rest := []) hC vX6_fails lX6_53 dX6_job_15 (m_fails (x := 1)) (fun w => w) isCtx_id rfl 0 6 rfl rfl rfl rfl rfl (by decide) (Nat.le_of_ble_eq_true rfl) ⟨Nat.le_refl _, Nat.le_refl _⟩ ?_
    exact hE _ _ _ (F, upd (upd V 1 0) 1 1) _ _ _ dX6_job_18 rfl (by have hcd : cJob R x y = 1 := (if_pos h1); exact mP_f hM hcd (by decide) (by simp [upd]; rfl) (by simp [upd]) (by simp [upd])) rfl (Nat.le_refl _) (Nat.le_refl _)

set_option maxRecDepth 100000 in
set_option maxHeartbeats 4000000 in
theorem m_isStuck {g : zG} {b : Nat → Nat} {R : St} {F : Nat → Nat → Int32} {V : Nat → Int32} {H : Nat → St} {s : Nat} {t : Nat → Nat} {L : Nat} (hG : GR R) (hM : mR F V H s t L) {x : Int32} : FI (S := (Nat → Nat → Int32) × (Nat → Int32)) g yX6_isStuck cX6_isStuck 2 .boolean 3 0 0 [.ref (b 0), .int x] (mW g.2 b R F V) (mP (cIs R x) (vStuck R x) H s H s t L) (fun S => mW g.2 b R S.1 S.2) := by
  refine fi_entry (by decide) (Nat.le_of_ble_eq_true rfl) (fun C hC hm hE => ?_)
  refine z_aln (pc := 0) hC 0 rfl dX6_isStuck_0 ?_
  refine z_aln (pc := 1) hC 0 rfl dX6_isStuck_1 ?_
  refine z_iln (pc := 2) hC 1 rfl dX6_isStuck_2 ?_
  refine z_g (pc := 3) (rest := [.ref (b 0)]) hC vX6_isJob lX6_127 dX6_isStuck_3 m_isJob (fun w => w) isCtx_id rfl 0 6 rfl rfl rfl rfl rfl (by decide) (Nat.le_of_ble_eq_true rfl) ⟨Nat.le_refl _, Nat.le_refl _⟩ ?_
  refine z_ifeq (pc := 6) hC 13 (by decide) dX6_isStuck_6 (fun c6 => ?_) (fun c6 => ?_)
  · have h1 : isJob R x = false := bI_0.mp c6
    refine z_iconst (pc := 13) (v := 1) hC dX6_isStuck_13 (by decide) ?_
    refine z_put (pc := 14) (ws' := mW g.2 b R F (upd V 1 1)) hC fX6_38 p6_4 0 rfl (Nat.le_of_ble_eq_true rfl) (mW_V 4 1 (by decide)) dX6_isStuck_14 ?_
    refine z_aln (pc := 17) hC 0 rfl dX6_isStuck_17 ?_
    refine z_get (pc := 18) hC fX6_38 0 rfl rfl dX6_isStuck_18 ?_
    refine z_is_ (y := 1) (upd_eq _ _ _) ?_
    refine z_ifne (pc := 21) hC 46 (by decide) dX6_isStuck_21 (fun c21 => ?_) (fun c21 => absurd c21 (by decide))
    refine z_iconst (pc := 46) (v := 0) hC dX6_isStuck_46 (by decide) ?_
    exact hE _ _ _ (F, upd V 1 1) _ _ _ dX6_isStuck_47 rfl (by have hcd : cIs R x = 1 := (if_pos h1); exact mP_f hM hcd (by decide) (by simp [upd]; rfl) (by simp [upd]) (by simp [upd])) rfl (Nat.le_refl _) (Nat.le_refl _)
  · have h1 : isJob R x = true := bI_n.mp c6
    obtain ⟨hjn, hj, hx⟩ := job_ix hG h1
    refine z_iconst (pc := 9) (v := 0) hC dX6_isStuck_9 (by decide) ?_
    refine z_goto (pc := 10) hC 14 (by decide) dX6_isStuck_10 ?_
    refine z_put (pc := 14) (ws' := mW g.2 b R F (upd V 1 0)) hC fX6_38 p6_4 0 rfl (Nat.le_of_ble_eq_true rfl) (mW_V 4 1 (by decide)) dX6_isStuck_14 ?_
    refine z_aln (pc := 17) hC 0 rfl dX6_isStuck_17 ?_
    refine z_get (pc := 18) hC fX6_38 0 rfl rfl dX6_isStuck_18 ?_
    refine z_is_ (y := 0) (upd_eq _ _ _) ?_
    refine z_ifne (pc := 21) hC 46 (by decide) dX6_isStuck_21 (fun c21 => absurd c21 (by decide)) (fun c21 => ?_)
    refine z_aln (pc := 24) hC 0 rfl dX6_isStuck_24 ?_
    refine z_iln (pc := 25) hC 1 rfl dX6_isStuck_25 ?_
    refine z_is_ (y := nI (ix x)) hx ?_
    refine z_iconst (pc := 26) (v := nI 4) hC dX6_isStuck_26 (by decide) ?_
    refine z_g (pc := 27) (rest := []) hC vX6_ofJob lX6_57 dX6_isStuck_27 (m_ofJob (c := 10) hj (by decide) rfl) (fun w => w) isCtx_id rfl 0 6 rfl rfl rfl rfl rfl (by decide) (Nat.le_of_ble_eq_true rfl) ⟨Nat.le_refl _, Nat.le_refl _⟩ ?_
    refine z_ifne (pc := 30) hC 46 (by decide) dX6_isStuck_30 (fun c30 => ?_) (fun c30 => ?_)
    · have h3 : vStuck R x = 0 := by simp [vStuck, bI, c30]
      refine z_iconst (pc := 46) (v := 0) hC dX6_isStuck_46 (by decide) ?_
      exact hE _ _ _ (F, upd V 1 0) _ _ _ dX6_isStuck_47 rfl (by have hcd : cIs R x = 0 := (by simp [cIs, h1]); exact mP_0 hcd (by simp [upd]) (mR_keep hM (by simp [upd]) (by simp [upd]) rfl rfl) h3.symm) rfl (Nat.le_refl _) (Nat.le_refl _)
    · refine z_aln (pc := 33) hC 0 rfl dX6_isStuck_33 ?_
      refine z_iln (pc := 34) hC 1 rfl dX6_isStuck_34 ?_
      refine z_is_ (y := nI (ix x)) hx ?_
      refine z_g (pc := 35) (rest := []) hC vX6_found lX6_64 dX6_isStuck_35 (m_found hj) (fun w => w) isCtx_id rfl 0 6 rfl rfl rfl rfl rfl (by decide) (Nat.le_of_ble_eq_true rfl) ⟨Nat.le_refl _, Nat.le_refl _⟩ ?_
      refine z_iconst (pc := 38) (v := -1) hC dX6_isStuck_38 (by decide) ?_
      refine z_icne (pc := 39) hC 46 (by decide) dX6_isStuck_39 (fun c39 => ?_) (fun c39 => ?_)
      · have h3 : vStuck R x = 0 := by simp [vStuck, bI, c39]
        refine z_iconst (pc := 46) (v := 0) hC dX6_isStuck_46 (by decide) ?_
        exact hE _ _ _ (F, upd V 1 0) _ _ _ dX6_isStuck_47 rfl (by have hcd : cIs R x = 0 := (by simp [cIs, h1]); exact mP_0 hcd (by simp [upd]) (mR_keep hM (by simp [upd]) (by simp [upd]) rfl rfl) h3.symm) rfl (Nat.le_refl _) (Nat.le_refl _)
      · have h3 : vStuck R x = 1 := by simp [vStuck, bI, c30, c39]
        refine z_iconst (pc := 42) (v := 1) hC dX6_isStuck_42 (by decide) ?_
        refine z_goto (pc := 43) hC 47 (by decide) dX6_isStuck_43 ?_
        exact hE _ _ _ (F, upd V 1 0) _ _ _ dX6_isStuck_47 rfl (by have hcd : cIs R x = 0 := (by simp [cIs, h1]); exact mP_0 hcd (by simp [upd]) (mR_keep hM (by simp [upd]) (by simp [upd]) rfl rfl) h3.symm) rfl (Nat.le_refl _) (Nat.le_refl _)

set_option maxRecDepth 100000 in
set_option maxHeartbeats 4000000 in
theorem m_verdict {g : zG} {b : Nat → Nat} {R : St} {F : Nat → Nat → Int32} {V : Nat → Int32} {H : Nat → St} {s : Nat} {t : Nat → Nat} {L : Nat} (hG : GR R) (hM : mR F V H s t L) {x y : Int32} : FI (S := (Nat → Nat → Int32) × (Nat → Int32)) g yX6_verdict cX6_verdict 3 .int 3 0 0 [.ref (b 0), .int x, .int y] (mW g.2 b R F V) (mP (cVer R x y) (chk R (ix x) (ix y)) H s H s t L) (fun S => mW g.2 b R S.1 S.2) := by
  refine fi_entry (by decide) (Nat.le_of_ble_eq_true rfl) (fun C hC hm hE => ?_)
  refine z_aln (pc := 0) hC 0 rfl dX6_verdict_0 ?_
  refine z_iconst (pc := 1) (v := 0) hC dX6_verdict_1 (by decide) ?_
  refine z_put (pc := 2) (ws' := mW g.2 b R F (upd V 1 0)) hC fX6_38 p6_4 0 rfl (Nat.le_of_ble_eq_true rfl) (mW_V 4 1 (by decide)) dX6_verdict_2 ?_
  refine z_aln (pc := 5) hC 0 rfl dX6_verdict_5 ?_
  refine z_iln (pc := 6) hC 1 rfl dX6_verdict_6 ?_
  refine z_g (pc := 7) (rest := []) hC vX6_isJob lX6_127 dX6_verdict_7 m_isJob (fun w => w) isCtx_id rfl 0 6 rfl rfl rfl rfl rfl (by decide) (Nat.le_of_ble_eq_true rfl) ⟨Nat.le_refl _, Nat.le_refl _⟩ ?_
  refine z_ifeq (pc := 10) hC 29 (by decide) dX6_verdict_10 (fun c10 => ?_) (fun c10 => ?_)
  · have h3 : cVer R x y = 1 := if_pos (bI_0.mp c10)
    refine z_aln (pc := 29) hC 0 rfl dX6_verdict_29 ?_
    refine z_iconst (pc := 30) (v := 1) hC dX6_verdict_30 (by decide) ?_
    refine z_g (pc := 31) (rest := []) hC vX6_fails lX6_53 dX6_verdict_31 (m_fails (x := 1)) (fun w => w) isCtx_id rfl 0 6 rfl rfl rfl rfl rfl (by decide) (Nat.le_of_ble_eq_true rfl) ⟨Nat.le_refl _, Nat.le_refl _⟩ ?_
    exact hE _ _ _ (F, upd (upd V 1 0) 1 1) _ _ _ dX6_verdict_34 rfl (by have hcd : cVer R x y = 1 := h3; exact mP_f hM hcd (by decide) (by simp [upd]; rfl) (by simp [upd]) (by simp [upd])) rfl (Nat.le_refl _) (Nat.le_refl _)
  · have h1 : isJob R x = true := bI_n.mp c10
    obtain ⟨hjn, hj, hx⟩ := job_ix hG h1
    refine z_iln (pc := 13) hC 2 rfl dX6_verdict_13 ?_
    refine z_gs (pc := 14) (rest := []) hC sX6_isReel lX6_130 dX6_verdict_14 m_isReel rfl rfl (by decide) (Nat.le_of_ble_eq_true rfl) ⟨Nat.le_refl _, Nat.le_refl _⟩ ?_
    refine z_ifeq (pc := 17) hC 29 (by decide) dX6_verdict_17 (fun c17 => ?_) (fun c17 => ?_)
    · have h3 : cVer R x y = 1 := by simp [cVer, h1, bI_0.mp c17]
      refine z_aln (pc := 29) hC 0 rfl dX6_verdict_29 ?_
      refine z_iconst (pc := 30) (v := 1) hC dX6_verdict_30 (by decide) ?_
      refine z_g (pc := 31) (rest := []) hC vX6_fails lX6_53 dX6_verdict_31 (m_fails (x := 1)) (fun w => w) isCtx_id rfl 0 6 rfl rfl rfl rfl rfl (by decide) (Nat.le_of_ble_eq_true rfl) ⟨Nat.le_refl _, Nat.le_refl _⟩ ?_
      exact hE _ _ _ (F, upd (upd V 1 0) 1 1) _ _ _ dX6_verdict_34 rfl (by have hcd : cVer R x y = 1 := h3; exact mP_f hM hcd (by decide) (by simp [upd]; rfl) (by simp [upd]) (by simp [upd])) rfl (Nat.le_refl _) (Nat.le_refl _)
    · have h2 : isReel y = true := bI_n.mp c17
      obtain ⟨hr, hy⟩ := reel_ix h2
      refine z_aln (pc := 20) hC 0 rfl dX6_verdict_20 ?_
      refine z_iln (pc := 21) hC 1 rfl dX6_verdict_21 ?_
      refine z_is_ (y := nI (ix x)) hx ?_
      refine z_iln (pc := 22) hC 2 rfl dX6_verdict_22 ?_
      refine z_is_ (y := nI (ix y)) hy ?_
      refine z_g (pc := 23) (rest := []) hC vX6_check lX6_82 dX6_verdict_23 (m_check hj hr) (fun w => w) isCtx_id rfl 0 6 rfl rfl rfl rfl rfl (by decide) (Nat.le_of_ble_eq_true rfl) ⟨Nat.le_refl _, Nat.le_refl _⟩ ?_
      refine z_goto (pc := 26) hC 34 (by decide) dX6_verdict_26 ?_
      exact hE _ _ _ (F, upd V 1 0) _ _ _ dX6_verdict_34 rfl (by have hcd : cVer R x y = 0 := (by simp [cVer, h1, h2]); exact mP_0 hcd (by simp [upd]) (mR_keep hM (by simp [upd]) (by simp [upd]) rfl rfl) rfl) rfl (Nat.le_refl _) (Nat.le_refl _)

theorem nxt_ix {R : St} (h : GR R) (hx : ¬ nxt R (nn R) = -1) : ix (nxt R (nn R)) < 12 ∧ nxt R (nn R) = nI (ix (nxt R (nn R))) := by
  obtain ⟨q, hq, e, -, -⟩ := nxt_ok hx
  have := h.n12
  rw [e, ix_nI (by omega)]; exact ⟨by omega, rfl⟩

set_option maxRecDepth 100000 in
set_option maxHeartbeats 4000000 in
theorem m_nextReel {g : zG} {b : Nat → Nat} {R : St} {F : Nat → Nat → Int32} {V : Nat → Int32} {H : Nat → St} {s : Nat} {t : Nat → Nat} {L : Nat} (hG : GR R) (hM : mR F V H s t L) : FI (S := (Nat → Nat → Int32) × (Nat → Int32)) g yX6_nextReel cX6_nextReel 2 .int 4 0 0 [.ref (b 0)] (mW g.2 b R F V) (mP (0) (vNextR R) H s H s t L) (fun S => mW g.2 b R S.1 S.2) := by
  refine fi_entry (by decide) (Nat.le_of_ble_eq_true rfl) (fun C hC hm hE => ?_)
  refine z_aln (pc := 0) hC 0 rfl dX6_nextReel_0 ?_
  refine z_iconst (pc := 1) (v := 0) hC dX6_nextReel_1 (by decide) ?_
  refine z_put (pc := 2) (ws' := mW g.2 b R F (upd V 1 0)) hC fX6_38 p6_4 0 rfl (Nat.le_of_ble_eq_true rfl) (mW_V 4 1 (by decide)) dX6_nextReel_2 ?_
  refine z_aln (pc := 5) hC 0 rfl dX6_nextReel_5 ?_
  refine z_g (pc := 6) (rest := []) hC vX6_next lX6_95 dX6_nextReel_6 (m_next hG.num hG.n12) (fun w => w) isCtx_id rfl 0 6 rfl rfl rfl rfl rfl (by decide) (Nat.le_of_ble_eq_true rfl) ⟨Nat.le_refl _, Nat.le_refl _⟩ ?_
  refine z_isn (pc := 9) (lv' := [(1, .int (nxt R (nn R))), (0, .ref (b 0))]) hC hm (by decide) rfl dX6_nextReel_9 ?_
  refine z_iln (pc := 10) hC 0 rfl dX6_nextReel_10 ?_
  refine z_iconst (pc := 11) (v := -1) hC dX6_nextReel_11 (by decide) ?_
  refine z_icne (pc := 12) hC 19 (by decide) dX6_nextReel_12 (fun c12 => ?_) (fun c12 => ?_)
  · obtain ⟨hj, hx⟩ := nxt_ix hG c12
    refine z_aln (pc := 19) hC 1 rfl dX6_nextReel_19 ?_
    refine z_aln (pc := 20) hC 1 rfl dX6_nextReel_20 ?_
    refine z_get (pc := 21) hC fX6_7 0 rfl rfl dX6_nextReel_21 ?_
    refine z_iconst (pc := 24) (v := nI 2) hC dX6_nextReel_24 (by decide) ?_
    refine z_iald (pc := 25) hC 1 rfl dX6_nextReel_25 2 rfl (by omega) (by decide) ?_
    refine z_is_ (y := R 14 2) (flat_num R (by decide)) ?_
    refine z_iconst (pc := 26) (v := 1) hC dX6_nextReel_26 (by decide) ?_
    refine z_iadd (pc := 27) (v := (R 14 2) + 1) hC rfl dX6_nextReel_27 ?_
    refine z_g (pc := 28) (rest := []) hC vX6_isSlip lX6_76 dX6_nextReel_28 m_isSlip (fun w => w) isCtx_id rfl 0 6 rfl rfl rfl rfl rfl (by decide) (Nat.le_of_ble_eq_true rfl) ⟨Nat.le_refl _, Nat.le_refl _⟩ ?_
    refine z_ifeq (pc := 31) hC 46 (by decide) dX6_nextReel_31 (fun c31 => ?_) (fun c31 => ?_)
    · refine z_aln (pc := 46) hC 1 rfl dX6_nextReel_46 ?_
      refine z_iln (pc := 47) hC 0 rfl dX6_nextReel_47 ?_
      refine z_is_ (y := nI (ix (nxt R (nn R)))) hx ?_
      refine z_g (pc := 48) (rest := []) hC vX6_found lX6_64 dX6_nextReel_48 (m_found hj) (fun w => w) isCtx_id rfl 0 6 rfl rfl rfl rfl rfl (by decide) (Nat.le_of_ble_eq_true rfl) ⟨Nat.le_refl _, Nat.le_refl _⟩ ?_
      exact hE _ _ _ (F, upd V 1 0) _ _ _ dX6_nextReel_51 rfl (by have hcd : 0 = 0 := rfl; exact mP_0 hcd (by simp [upd]) (mR_keep hM (by simp [upd]) (by simp [upd]) rfl rfl) (by simp [vNextR, c12, bI_0.mp c31])) rfl (Nat.le_refl _) (Nat.le_refl _)
    · refine z_aln (pc := 34) hC 1 rfl dX6_nextReel_34 ?_
      refine z_aln (pc := 35) hC 1 rfl dX6_nextReel_35 ?_
      refine z_iln (pc := 36) hC 0 rfl dX6_nextReel_36 ?_
      refine z_is_ (y := nI (ix (nxt R (nn R)))) hx ?_
      refine z_g (pc := 37) (rest := [.ref (b 0)]) hC vX6_found lX6_64 dX6_nextReel_37 (m_found hj) (fun w => w) isCtx_id rfl 0 6 rfl rfl rfl rfl rfl (by decide) (Nat.le_of_ble_eq_true rfl) ⟨Nat.le_refl _, Nat.le_refl _⟩ ?_
      refine z_g (pc := 40) (rest := []) hC vX6_after lX6_79 dX6_nextReel_40 m_after (fun w => w) isCtx_id rfl 0 6 rfl rfl rfl rfl rfl (by decide) (Nat.le_of_ble_eq_true rfl) ⟨Nat.le_refl _, Nat.le_refl _⟩ ?_
      refine z_goto (pc := 43) hC 51 (by decide) dX6_nextReel_43 ?_
      exact hE _ _ _ (F, upd V 1 0) _ _ _ dX6_nextReel_51 rfl (by have hcd : 0 = 0 := rfl; exact mP_0 hcd (by simp [upd]) (mR_keep hM (by simp [upd]) (by simp [upd]) rfl rfl) (by simp [vNextR, c12, bI_n.mp c31])) rfl (Nat.le_refl _) (Nat.le_refl _)
  · refine z_iconst (pc := 15) (v := -1) hC dX6_nextReel_15 (by decide) ?_
    refine z_goto (pc := 16) hC 51 (by decide) dX6_nextReel_16 ?_
    exact hE _ _ _ (F, upd V 1 0) _ _ _ dX6_nextReel_51 rfl (by have hcd : 0 = 0 := rfl; exact mP_0 hcd (by simp [upd]) (mR_keep hM (by simp [upd]) (by simp [upd]) rfl rfl) (by simp [vNextR, c12])) rfl (Nat.le_refl _) (Nat.le_refl _)

set_option maxRecDepth 100000 in
set_option maxHeartbeats 4000000 in
theorem m_minutesToDone {g : zG} {b : Nat → Nat} {R : St} {F : Nat → Nat → Int32} {V : Nat → Int32} {H : Nat → St} {s : Nat} {t : Nat → Nat} {L : Nat} (hG : GR R) (hM : mR F V H s t L) {x : Int32} : FI (S := (Nat → Nat → Int32) × (Nat → Int32)) g yX6_minutesToDone cX6_minutesToDone 2 .int 6 0 0 [.ref (b 0), .int x] (mW g.2 b R F V) (mP (cIs R x) (mtd (nn R) (ix x) 300 0 R) H s H s t L) (fun S => mW g.2 b R S.1 S.2) := by
  refine fi_entry (by decide) (Nat.le_of_ble_eq_true rfl) (fun C hC hm hE => ?_)
  refine z_aln (pc := 0) hC 0 rfl dX6_minutesToDone_0 ?_
  refine z_iconst (pc := 1) (v := 0) hC dX6_minutesToDone_1 (by decide) ?_
  refine z_put (pc := 2) (ws' := mW g.2 b R F (upd V 1 0)) hC fX6_38 p6_4 0 rfl (Nat.le_of_ble_eq_true rfl) (mW_V 4 1 (by decide)) dX6_minutesToDone_2 ?_
  refine z_aln (pc := 5) hC 0 rfl dX6_minutesToDone_5 ?_
  refine z_iln (pc := 6) hC 1 rfl dX6_minutesToDone_6 ?_
  refine z_g (pc := 7) (rest := []) hC vX6_isJob lX6_127 dX6_minutesToDone_7 m_isJob (fun w => w) isCtx_id rfl 0 6 rfl rfl rfl rfl rfl (by decide) (Nat.le_of_ble_eq_true rfl) ⟨Nat.le_refl _, Nat.le_refl _⟩ ?_
  refine z_ifeq (pc := 10) hC 21 (by decide) dX6_minutesToDone_10 (fun c10 => ?_) (fun c10 => ?_)
  · have h1 : isJob R x = false := bI_0.mp c10
    refine z_aln (pc := 21) hC 0 rfl dX6_minutesToDone_21 ?_
    refine z_iconst (pc := 22) (v := 1) hC dX6_minutesToDone_22 (by decide) ?_
    refine z_g (pc := 23) (rest := []) hC vX6_fails lX6_53 dX6_minutesToDone_23 (m_fails (x := 1)) (fun w => w) isCtx_id rfl 0 6 rfl rfl rfl rfl rfl (by decide) (Nat.le_of_ble_eq_true rfl) ⟨Nat.le_refl _, Nat.le_refl _⟩ ?_
    exact hE _ _ _ (F, upd (upd V 1 0) 1 1) _ _ _ dX6_minutesToDone_26 rfl (by have hcd : cIs R x = 1 := (if_pos h1); exact mP_f hM hcd (by decide) (by simp [upd]; rfl) (by simp [upd]) (by simp [upd])) rfl (Nat.le_refl _) (Nat.le_refl _)
  · have h1 : isJob R x = true := bI_n.mp c10
    obtain ⟨hjn, hj, hx⟩ := job_ix hG h1
    refine z_aln (pc := 13) hC 0 rfl dX6_minutesToDone_13 ?_
    refine z_iln (pc := 14) hC 1 rfl dX6_minutesToDone_14 ?_
    refine z_is_ (y := nI (ix x)) hx ?_
    refine z_i0 (pc := 15) (rest := []) hC vX6_minutesTo lX6_176 dX6_minutesToDone_15 (m_minutesTo hG.1 hj) rfl 0 6 rfl rfl rfl rfl rfl (by decide) (Nat.le_of_ble_eq_true rfl) ⟨Nat.le_refl _, Nat.le_refl _⟩ (fun r f hr => ?_)
    refine z_goto (pc := 18) hC 26 (by decide) dX6_minutesToDone_18 ?_
    exact hE _ _ _ (va_up F 1 f, upd V 1 0) _ _ _ dX6_minutesToDone_26 rfl (mP_0 (by simp [cIs, h1]) (upd_eq _ _ _) (mR_keep hM (by simp [upd]) (by simp [upd]) rfl rfl) hr) rfl (Nat.le_refl _) (Nat.le_refl _)

set_option maxRecDepth 100000 in
set_option maxHeartbeats 4000000 in
theorem m_count {g : zG} {b : Nat → Nat} {R : St} {F : Nat → Nat → Int32} {V : Nat → Int32} {H : Nat → St} {s : Nat} {t : Nat → Nat} {L : Nat} (hG : GR R) (hM : mR F V H s t L) {x : Int32} : FI (S := (Nat → Nat → Int32) × (Nat → Int32)) g yX6_count cX6_count 2 .int 2 0 0 [.ref (b 0), .int x] (mW g.2 b R F V) (mP (cCnt x) (vCnt R x) H s H s t L) (fun S => mW g.2 b R S.1 S.2) := by
  refine fi_entry (by decide) (Nat.le_of_ble_eq_true rfl) (fun C hC hm hE => ?_)
  refine z_aln (pc := 0) hC 0 rfl dX6_count_0 ?_
  refine z_iconst (pc := 1) (v := 0) hC dX6_count_1 (by decide) ?_
  refine z_put (pc := 2) (ws' := mW g.2 b R F (upd V 1 0)) hC fX6_38 p6_4 0 rfl (Nat.le_of_ble_eq_true rfl) (mW_V 4 1 (by decide)) dX6_count_2 ?_
  refine z_iln (pc := 5) hC 1 rfl dX6_count_5 ?_
  refine z_iconst (pc := 6) (v := 0) hC dX6_count_6 (by decide) ?_
  refine z_bipush (pc := 7) (v := 10) hC dX6_count_7 (by decide) ?_
  refine z_gs (pc := 9) (rest := []) hC sX6_in lX6_42 dX6_count_9 m_in rfl rfl (by decide) (Nat.le_of_ble_eq_true rfl) ⟨Nat.le_refl _, Nat.le_refl _⟩ ?_
  refine z_ifne (pc := 12) hC 23 (by decide) dX6_count_12 (fun c12 => ?_) (fun c12 => ?_)
  · have h1 : inB x 0 10 = true := bI_n.mp c12
    obtain ⟨hw, hx⟩ := in_ix (n := 10) (by decide) rfl h1
    refine z_iln (pc := 23) hC 1 rfl dX6_count_23 ?_
    refine z_bipush (pc := 24) (v := 8) hC dX6_count_24 (by decide) ?_
    refine z_icge (pc := 26) hC 38 (by decide) dX6_count_26 (fun c26 => ?_) (fun c26 => ?_)
    · have h2 : ¬ x < 8 := Int32.not_lt.mpr c26
      refine z_aln (pc := 38) hC 0 rfl dX6_count_38 ?_
      refine z_iln (pc := 39) hC 1 rfl dX6_count_39 ?_
      refine z_bipush (pc := 40) (v := 8) hC dX6_count_40 (by decide) ?_
      refine z_isub (pc := 42) (v := x - 8) hC rfl dX6_count_42 ?_
      refine z_g (pc := 43) (rest := []) hC vX6_with lX6_179 dX6_count_43 (m_with hG.num hG.n12) (fun w => w) isCtx_id rfl 0 6 rfl rfl rfl rfl rfl (by decide) (Nat.le_of_ble_eq_true rfl) ⟨Nat.le_refl _, Nat.le_refl _⟩ ?_
      exact hE _ _ _ (F, upd V 1 0) _ _ _ dX6_count_46 rfl (by have hcd : cCnt x = 0 := (by simp [cCnt, h1]); exact mP_0 hcd (by simp [upd]) (mR_keep hM (by simp [upd]) (by simp [upd]) rfl rfl) (by simp [vCnt, h2])) rfl (Nat.le_refl _) (Nat.le_refl _)
    · have h2 : x < 8 := Int32.not_le.mp c26
      have h3 : ix x < 8 := by rw [hx] at h2; exact (nI_ltI (b := 8) (by omega) (by omega)).mp h2
      refine z_aln (pc := 29) hC 0 rfl dX6_count_29 ?_
      refine z_get (pc := 30) hC fX6_7 0 rfl rfl dX6_count_30 ?_
      refine z_iln (pc := 33) hC 1 rfl dX6_count_33 ?_
      refine z_is_ (y := nI (ix x)) hx ?_
      refine z_iald (pc := 34) hC 1 rfl dX6_count_34 (ix x) rfl (by omega) (by decide) ?_
      refine z_is_ (y := R 14 (ix x)) (flat_num R (by omega)) ?_
      refine z_goto (pc := 35) hC 46 (by decide) dX6_count_35 ?_
      exact hE _ _ _ (F, upd V 1 0) _ _ _ dX6_count_46 rfl (by have hcd : cCnt x = 0 := (by simp [cCnt, h1]); exact mP_0 hcd (by simp [upd]) (mR_keep hM (by simp [upd]) (by simp [upd]) rfl rfl) (by simp [vCnt, h2])) rfl (Nat.le_refl _) (Nat.le_refl _)
  · have h1 : inB x 0 10 = false := bI_0.mp c12
    refine z_aln (pc := 15) hC 0 rfl dX6_count_15 ?_
    refine z_iconst (pc := 16) (v := 1) hC dX6_count_16 (by decide) ?_
    refine z_g (pc := 17) (rest := []) hC vX6_fails lX6_53 dX6_count_17 (m_fails (x := 1)) (fun w => w) isCtx_id rfl 0 6 rfl rfl rfl rfl rfl (by decide) (Nat.le_of_ble_eq_true rfl) ⟨Nat.le_refl _, Nat.le_refl _⟩ ?_
    refine z_goto (pc := 20) hC 46 (by decide) dX6_count_20 ?_
    exact hE _ _ _ (F, upd (upd V 1 0) 1 1) _ _ _ dX6_count_46 rfl (by have hcd : cCnt x = 1 := (if_pos h1); exact mP_f hM hcd (by decide) (by simp [upd]; rfl) (by simp [upd]) (by simp [upd])) rfl (Nat.le_refl _) (Nat.le_refl _)

set_option maxRecDepth 100000 in
set_option maxHeartbeats 4000000 in
theorem m_scratchReels {g : zG} {b : Nat → Nat} {R : St} {F : Nat → Nat → Int32} {V : Nat → Int32} {H : Nat → St} {s : Nat} {t : Nat → Nat} {L : Nat} (hG : GR R) (hM : mR F V H s t L) : FI (S := (Nat → Nat → Int32) × (Nat → Int32)) g yX6_scratchReels cX6_scratchReels 3 .int 2 0 0 [.ref (b 0)] (mW g.2 b R F V) (mP 0 (cntR R 0 12 0) H s H s t L) (fun S => mW g.2 b R S.1 S.2) := by
  refine fi_entry (by decide) (Nat.le_of_ble_eq_true rfl) (fun C hC hm hE => ?_)
  have loop : ∀ (k m : Nat) (y : Int32), m + k = 12 → cntR R m k y = cntR R 0 12 0 → Z g C 0 0 (mW g.2 b R F (upd V 1 0)) [(2, .int (nI m)), (1, .int y), (0, .ref (b 0))] 9 [] := by
    intro k
    induction k with
    | zero =>
      intro m y hm2 hp
      refine z_iln (pc := 9) hC 0 rfl dX6_scratchReels_9 ?_
      refine z_bipush (pc := 10) (v := nI 12) hC dX6_scratchReels_10 (by decide) ?_
      refine z_icge (pc := 12) hC 37 (by decide) dX6_scratchReels_12 (fun c12 => ?_) (fun c12 => absurd (nI_le (by omega) (by omega)) c12)
      refine z_iln (pc := 37) hC 1 rfl dX6_scratchReels_37 ?_
      exact hE _ _ _ (F, upd V 1 0) _ _ _ dX6_scratchReels_38 rfl (mP_0 rfl (upd_eq _ _ _) (mR_keep hM (by simp [upd]) (by simp [upd]) rfl rfl) hp) rfl (Nat.le_refl _) (Nat.le_refl _)
    | succ k ih =>
      intro m y hm2 hp
      refine z_iln (pc := 9) hC 0 rfl dX6_scratchReels_9 ?_
      refine z_bipush (pc := 10) (v := nI 12) hC dX6_scratchReels_10 (by decide) ?_
      refine z_icge (pc := 12) hC 37 (by decide) dX6_scratchReels_12 (fun c12 => absurd c12 (nI_ge (by omega) (by omega))) (fun c12 => ?_)
      refine z_iln (pc := 15) hC 1 rfl dX6_scratchReels_15 ?_
      refine z_aln (pc := 16) hC 2 rfl dX6_scratchReels_16 ?_
      refine z_iln (pc := 17) hC 0 rfl dX6_scratchReels_17 ?_
      refine z_g (pc := 18) (rest := [.int y]) hC vX6_isScratch lX6_67 dX6_scratchReels_18 (m_isScratch (by omega)) (fun w => w) isCtx_id rfl 0 6 rfl rfl rfl rfl rfl (by decide) (Nat.le_of_ble_eq_true rfl) ⟨Nat.le_refl _, Nat.le_refl _⟩ ?_
      refine z_ifeq (pc := 21) hC 28 (by decide) dX6_scratchReels_21 (fun c21 => ?_) (fun c21 => ?_)
      · refine z_iconst (pc := 28) (v := 0) hC dX6_scratchReels_28 (by decide) ?_
        refine z_iadd (pc := 29) (v := y + (if scr R m = true then 1 else 0)) hC (by simp [bI_0.mp c21]) dX6_scratchReels_29 ?_
        refine z_isn (pc := 30) (lv' := [(1, .int (y + (if scr R m = true then 1 else 0))), (2, .int (nI m)), (0, .ref (b 0))]) hC hm (by decide) rfl dX6_scratchReels_30 ?_
        refine z_iinc (pc := 31) (v := nI (m + 1)) (j := 1) (lv' := [(2, .int (nI (m + 1))), (1, .int (y + (if scr R m = true then 1 else 0))), (0, .ref (b 0))]) hC hm (by decide) rfl (up_step m) rfl dX6_scratchReels_31 ?_
        refine z_goto (pc := 34) hC 9 (by decide) dX6_scratchReels_34 ?_
        refine z_lv [0, 1, 2] rfl ?_
        exact ih (m + 1) _ (by omega) (by rw [← hp]; rfl)
      · refine z_iconst (pc := 24) (v := 1) hC dX6_scratchReels_24 (by decide) ?_
        refine z_goto (pc := 25) hC 29 (by decide) dX6_scratchReels_25 ?_
        refine z_iadd (pc := 29) (v := y + (if scr R m = true then 1 else 0)) hC (by simp [bI_n.mp c21]) dX6_scratchReels_29 ?_
        refine z_isn (pc := 30) (lv' := [(1, .int (y + (if scr R m = true then 1 else 0))), (2, .int (nI m)), (0, .ref (b 0))]) hC hm (by decide) rfl dX6_scratchReels_30 ?_
        refine z_iinc (pc := 31) (v := nI (m + 1)) (j := 1) (lv' := [(2, .int (nI (m + 1))), (1, .int (y + (if scr R m = true then 1 else 0))), (0, .ref (b 0))]) hC hm (by decide) rfl (up_step m) rfl dX6_scratchReels_31 ?_
        refine z_goto (pc := 34) hC 9 (by decide) dX6_scratchReels_34 ?_
        refine z_lv [0, 1, 2] rfl ?_
        exact ih (m + 1) _ (by omega) (by rw [← hp]; rfl)
  refine z_aln (pc := 0) hC 0 rfl dX6_scratchReels_0 ?_
  refine z_iconst (pc := 1) (v := 0) hC dX6_scratchReels_1 (by decide) ?_
  refine z_put (pc := 2) (ws' := mW g.2 b R F (upd V 1 0)) hC fX6_38 p6_4 0 rfl (Nat.le_of_ble_eq_true rfl) (mW_V 4 1 (by decide)) dX6_scratchReels_2 ?_
  refine z_iconst (pc := 5) (v := 0) hC dX6_scratchReels_5 (by decide) ?_
  refine z_isn (pc := 6) (lv' := [(1, .int 0), (0, .ref (b 0))]) hC hm (by decide) rfl dX6_scratchReels_6 ?_
  refine z_iconst (pc := 7) (v := nI 0) hC dX6_scratchReels_7 (by decide) ?_
  refine z_isn (pc := 8) (lv' := [(2, .int (nI 0)), (1, .int 0), (0, .ref (b 0))]) hC hm (by decide) rfl dX6_scratchReels_8 ?_
  refine z_lv [0, 1, 2] rfl ?_
  exact loop 12 0 0 (by omega) rfl
