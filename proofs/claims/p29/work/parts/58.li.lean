/-! WHAT HOLDS BETWEEN THE LAW'S CALLS -/
theorem gs_sub {R : St} {x y z u : Int32} (h : GR R) (hc : cSub R x y z u = 0) : GR (subm R (nn R) x y z u) := by
  unfold cSub at hc; split at hc
  · cases hc
  · split at hc
    · cases hc
    · rename_i h1 h2
      have h1' : right x y z u = true := by simpa using h1
      exact gr_subm h (by simpa using h2) (right_m h1').1 (right_m h1').2
theorem gs_can {R : St} {x : Int32} (h : GR R) (hc : cCan R x = 0) : GR (rCan R (ix x)) := by
  unfold cCan at hc; split at hc
  · cases hc
  · split at hc
    · cases hc
    · rename_i h1 h2
      exact gr_can h (job_ix h (by simpa using h1)).1 h2
theorem gs_day {R : St} (h : GR R) (hc : cDay R = 0) : GR (setS R 14 0 (R 14 0 + 1)) := by
  unfold cDay at hc; split at hc
  · cases hc
  · rename_i h1; exact gr_day h h1
theorem gs_set {R : St} {x y : Int32} (h : GR R) (hc : cSet x y = 0) : GR (setS R 14 (8 + ix x) y) := by
  unfold cSet at hc; split at hc
  · cases hc
  · rename_i h1
    obtain ⟨h3, h4⟩ := in_ix (n := 1) (by omega) rfl (show inB x 0 1 = true by simpa using h1)
    exact gr_set (by omega) (by omega) h
def LI (b : Nat) (S : St × Nat × XS) : Prop := GR S.1 ∧ KI S.1 (nn S.1) ∧ (∃ dd, dd ≤ b ∧ S.1 14 0 = nI dd) ∧ ∃ (H : Nat → St) (t : Nat → Nat) (L : Nat), xR H S.2.1 t L S.2.2
def bW (i : Nat → ClassId) (x : Nat) (u c a h : Nat → Nat) (e : Nat → Nat → Nat) (v : Nat → Nat) (S : St × Nat × XS) : va_W := lgW i v S.1 ++ xW i x u c a h e S.2.2.1 S.2.2.2.1 S.2.2.2.2.1 S.1 (nI S.2.1) (nI S.2.2.2.2.2.1) S.2.2.2.2.2.2
theorem li_up {b b' : Nat} {S : St × Nat × XS} (h : LI b S) (hb : b ≤ b') : LI b' S := ⟨h.1, h.2.1, h.2.2.1.imp fun _ q => ⟨Nat.le_trans q.1 hb, q.2⟩, h.2.2.2⟩
theorem nn_setS {R : St} {c j : Nat} {x : Int32} (h : c ≠ 14 ∨ j ≠ 10) : nn (setS R c j x) = nn R := by
  unfold nn; rw [setS_at, if_neg (by omega)]
theorem canS_t {R : St} {n : Nat} {kd v : Int32} (hn : n < 12) (h : ¬ kd = 2 ∨ kept R n v = false) : canS R n kd v = true := by
  rcases h with h | h <;> simp [canS, hn, h]
theorem cSub_0 {R : St} {kd V mi pr : Nat} (hk : kd < 3) (hV : 1 ≤ V ∧ V ≤ 99) (hm : 1 ≤ mi ∧ mi ≤ 20) (hp : pr ≤ 9) (hc : canS R (nn R) (nI kd) (nI V) = true) : cSub R (nI kd) (nI V) (nI mi) (nI pr) = 0 := by
  have h1 : inB (nI kd) 0 2 = true := inB_nI (b := 2) (by omega) (by omega)
  have h2 : inB (nI V) 1 99 = true := inB_iff.mpr ⟨nI_le (a := 1) hV.1 (by omega), nI_le (b := 99) hV.2 (by omega)⟩
  have h3 : inB (nI mi) 1 20 = true := inB_iff.mpr ⟨nI_le (a := 1) hm.1 (by omega), nI_le (b := 20) hm.2 (by omega)⟩
  have h4 : inB (nI pr) 0 9 = true := inB_nI (b := 9) hp (by omega)
  have hr : right (nI kd) (nI V) (nI mi) (nI pr) = true := by simp [right, h1, h2, h3, h4]
  unfold cSub
  rw [if_neg (by rw [hr]; decide), if_neg (by rw [hc]; decide)]
theorem nn_subm {R : St} {kd v mi pr : Int32} (h : GR R) : nn (subm R (nn R) kd v mi pr) = nn R + 1 := by
  have : subm R (nn R) kd v mi pr 14 10 = nI (nn R + 1) := by
    show R 14 10 + 1 = _
    rw [h.num]; exact nI_1 _
  unfold nn at this ⊢
  rw [this, nI_clamp (by have := h.n12; unfold nn at this; omega)]
theorem ki_subm {R : St} {kd V mi pr : Nat} (hG : GR R) (h : KI R (nn R)) (hk : kd < 3) (hp : pr ≤ 9) : KI (subm R (nn R) (nI kd) (nI V) (nI mi) (nI pr)) (nn (subm R (nn R) (nI kd) (nI V) (nI mi) (nI pr))) := by
  rw [nn_subm hG]
  refine ⟨fun j hj => ?_, h.2.1, h.2.2⟩
  by_cases e : j = nn R
  · subst e
    refine ⟨?_, ?_⟩
    · show setS R 6 (nn R) (nI kd) 6 (nn R) = 0 ∨ setS R 6 (nn R) (nI kd) 6 (nn R) = 1 ∨ setS R 6 (nn R) (nI kd) 6 (nn R) = 2
      rw [setS_eq]
      rcases (show kd = 0 ∨ kd = 1 ∨ kd = 2 by omega) with q | q | q <;> subst q <;> decide
    · show setS (setS (setS (setS R 6 (nn R) (nI kd)) 7 (nn R) (nI V)) 8 (nn R) (nI mi)) 9 (nn R) (nI pr) 9 (nn R) ≤ 9
      rw [setS_eq]
      exact nI_le (b := 9) hp (by omega)
  · have h6 : subm R (nn R) (nI kd) (nI V) (nI mi) (nI pr) 6 j = R 6 j := setS_j R 6 _ e
    have h9 : subm R (nn R) (nI kd) (nI V) (nI mi) (nI pr) 9 j = R 9 j := setS_j _ 9 _ e
    rw [h6, h9]
    exact h.1 j (by omega)
theorem li_subm {b s : Nat} {R : St} {S0 S2 : XS} {kd V mi pr : Nat} {H' : Nat → St} {s' : Nat} {t' : Nat → Nat} {L' : Nat} (h : LI b (R, s, S0)) (hk : kd < 3) (hm : 1 ≤ mi ∧ mi ≤ 20) (hp : pr ≤ 9) (hc : canS R (nn R) (nI kd) (nI V) = true) (hX : xR H' s' t' L' S2) : LI b (subm R (nn R) (nI kd) (nI V) (nI mi) (nI pr), s', S2) :=
  ⟨gr_subm h.1 hc (nI_lt (a := 0) (by omega) (by omega)) (nI_pos' (by omega)), ki_subm h.1 h.2.1 hk hp, h.2.2.1.imp fun _ q => ⟨q.1, (show subm R (nn R) (nI kd) (nI V) (nI mi) (nI pr) 14 0 = R 14 0 from day_subm).trans q.2⟩, H', t', L', hX⟩
theorem rCan_r {R : St} {i r : Nat} (h : R 10 i = 1) (hr : R 12 i = nI r) (h12 : r < 12) : setS (setS (setS R 5 r (-1)) 10 i 3) 12 i (-1) = rCan R i := by
  rw [rCan, if_pos h, rl_eq hr h12, toff, setS_comm R (-1) 3 (Or.inl (by decide))]
theorem rCan_w {R : St} {i : Nat} (h : ¬ R 10 i = 1) (hr : R 12 i = -1) : setS (setS R 10 i 3) 12 i (-1) = rCan R i := by
  rw [rCan, if_neg h]
  exact setS_id (show (-1 : Int32) = setS R 10 i 3 12 i by rw [setS_c _ _ _ (by decide)]; exact hr.symm)
theorem ki_can {R : St} {i n : Nat} (h : KI R n) : KI (rCan R i) n := by
  unfold rCan; split
  · refine ki_of h rfl rfl (fun q _ => ?_) rfl
    rcases toff_5 (R := setS R 10 i 3) (j := i) (r := rl R i) (i := q) with e | e
    · exact Or.inl e
    · exact Or.inr (Or.inl e)
  · exact ki_of h rfl rfl (fun _ _ => Or.inl rfl) rfl
theorem nn_can {R : St} {i : Nat} : nn (rCan R i) = nn R := by unfold rCan; split <;> rfl
theorem day_can {R : St} {i : Nat} : rCan R i 14 0 = R 14 0 := by unfold rCan; split <;> rfl
theorem cCan_0 {R : St} {i : Nat} (h : GR R) (hi : i < nn R) (h1 : R 10 i ≤ 1) : cCan R (nI i) = 0 := by
  unfold cCan
  rw [if_neg (by rw [isJob_nI h hi]; decide), ix_nI (by have := h.n12; omega), if_neg (Int32.not_lt.mpr h1)]
theorem li_can {b s : Nat} {R : St} {S0 S2 : XS} {i : Nat} {H' : Nat → St} {s' : Nat} {t' : Nat → Nat} {L' : Nat} (h : LI b (R, s, S0)) (hi : i < nn R) (h1 : R 10 i ≤ 1) (hX : xR H' s' t' L' S2) : LI b (rCan R i, s', S2) :=
  ⟨gr_can h.1 hi (Int32.not_lt.mpr h1), by rw [show nn (rCan R i, s', S2).1 = nn R from nn_can]; exact ki_can h.2.1, h.2.2.1.imp fun _ q => ⟨q.1, (show rCan R i 14 0 = R 14 0 from day_can).trans q.2⟩, H', t', L', hX⟩
theorem cSti_0 {r w : Nat} (hr : r < 12) (hw : w ≤ 99) : cSti (nI r) (nI w) = 0 := by
  unfold cSti
  rw [if_neg (by rw [isReel_nI hr]; decide), if_neg (by rw [show inB (nI w) 0 99 = true from inB_nI (b := 99) hw (by omega)]; decide)]
theorem li_sti {b s : Nat} {R : St} {S0 S2 : XS} {r : Nat} {w : Int32} {H' : Nat → St} {s' : Nat} {t' : Nat → Nat} {L' : Nat} (h : LI b (R, s, S0)) (hX : xR H' s' t' L' S2) : LI b (setS R 1 r w, s', S2) :=
  ⟨gr_1 h.1, ki_of h.2.1 rfl rfl (fun _ _ => Or.inl rfl) rfl, h.2.2.1, H', t', L', hX⟩
theorem cRing_0 {R : St} {r : Nat} (hr : r < 12) (h : onSh R r = true) : cRing R (nI r) = 0 := by
  unfold cRing
  rw [if_neg (by rw [isReel_nI hr]; decide), ix_nI (by omega), if_neg (by rw [h]; decide)]
theorem li_ring {b s : Nat} {R : St} {S0 S2 : XS} {r : Nat} {w : Int32} {H' : Nat → St} {s' : Nat} {t' : Nat → Nat} {L' : Nat} (h : LI b (R, s, S0)) (hw : w = 0 ∨ w = 1) (hX : xR H' s' t' L' S2) : LI b (setS R 2 r w, s', S2) :=
  ⟨gr_2 hw h.1, ki_of h.2.1 rfl rfl (fun _ _ => Or.inl rfl) rfl, h.2.2.1, H', t', L', hX⟩
theorem cDay_0 {R : St} {dd : Nat} (h : R 14 0 = nI dd) (hd : dd < 999) : cDay R = 0 := by
  unfold cDay
  rw [if_neg (fun e => by have := nI_inj (a := dd) (b := 999) (by omega) (by omega) (h.symm.trans e); omega)]
theorem li_day {b s : Nat} {R : St} {S0 S2 : XS} {H' : Nat → St} {s' : Nat} {t' : Nat → Nat} {L' : Nat} (h : LI b (R, s, S0)) (hb : b < 900) (hX : xR H' s' t' L' S2) : LI (b + 1) (setS R 14 0 (R 14 0 + 1), s', S2) := by
  obtain ⟨dd, h1, h2⟩ := h.2.2.1
  have h2 : R 14 0 = nI dd := h2
  refine ⟨gs_day h.1 (cDay_0 h2 (by omega)), ki_n (by decide) h.2.1, ⟨dd + 1, by omega, ?_⟩, H', t', L', hX⟩
  show setS R 14 0 (R 14 0 + 1) 14 0 = nI (dd + 1)
  rw [setS_eq, h2]; exact nI_1 dd
theorem cSet_0 {w V : Nat} (hw : w = 0 ∧ V ≤ 9 ∨ w = 1 ∧ V ≤ 99) : cSet (nI w) (nI V) = 0 := by
  rcases hw with ⟨rfl, h⟩ | ⟨rfl, h⟩
  · exact set_ix0 (z := 9) rfl (by decide) (inB_nI (b := 9) h (by omega))
  · exact set_ix0 (z := 99) rfl (by decide) (inB_nI (b := 99) h (by omega))
theorem li_set {b s : Nat} {R : St} {S0 S2 : XS} {w V : Nat} {H' : Nat → St} {s' : Nat} {t' : Nat → Nat} {L' : Nat} (h : LI b (R, s, S0)) (hw : w = 0 ∨ w = 1) (hV : V ≤ 99) (hX : xR H' s' t' L' S2) : LI b (setS R 14 (8 + w) (nI V), s', S2) := by
  refine ⟨gr_set (by omega) (by omega) h.1, (by rw [show nn (setS R 14 (8 + w) (nI V), s', S2).1 = nn R from nn_setS (Or.inr (by omega))]; refine ⟨h.2.1.1, h.2.1.2.1, ?_⟩; rcases hw with rfl | rfl; exact nI_pos' (by omega); exact h.2.1.2.2), h.2.2.1.imp fun _ q => ⟨q.1, (show setS R 14 (8 + w) (nI V) 14 0 = R 14 0 from setS_j R 14 _ (by omega)).trans q.2⟩, H', t', L', hX⟩
theorem cPass_0 {M : Nat} (h : 1 ≤ M ∧ M ≤ 99) : cPass (nI M) = 0 := by
  unfold cPass
  rw [if_neg (by rw [show inB (nI M) 1 99 = true from inB_iff.mpr ⟨nI_le (a := 1) h.1 (by omega), nI_le (b := 99) h.2 (by omega)⟩]; decide)]
theorem li_pas {b s M : Nat} {R : St} {S0 S2 : XS} {H' : Nat → St} {s' : Nat} {t' : Nat → Nat} {L' : Nat} (h : LI b (R, s, S0)) (hX : xR H' s' t' L' S2) : LI b ((pas (nn R) M (R, 0)).1, s', S2) := by
  have e : nn (pas (nn R) M (R, 0)).1 = nn R := nn_eq (inv_pas M (R, 0) h.1.1)
  exact ⟨gr_pas h.1, by rw [show nn ((pas (nn R) M (R, 0)).1, s', S2).1 = nn R from e]; exact ki_pas M (R, 0) h.2.1, h.2.2.1.imp fun _ q => ⟨q.1, (show (pas (nn R) M (R, 0)).1 14 0 = R 14 0 from day_pas M (R, 0)).trans q.2⟩, H', t', L', hX⟩
theorem n_12 {R : St} (h : GR R) (h1 : ¬ nI (nn R) = 12) : nn R < 12 := by
  have := h.n12
  have : nn R ≠ 12 := fun e => h1 (by rw [e]; rfl)
  omega
theorem rn_1 {R : St} {r : Nat} (h : R 2 r = 0 ∨ R 2 r = 1) (h1 : ¬ R 2 r = 1) : (0 : Int32) = R 2 r := (h.resolve_right h1).symm
theorem sh_lt {R : St} {n r : Nat} (h : KI R n) (hr : r < 12) (h0 : R 5 r < 0) : onSh R r = true := sh_t h hr (Int32.not_le.mpr h0)
