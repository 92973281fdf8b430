/-- the reference's own rows of the saved states and of the text -/
def mR (F : Nat → Nat → Int32) (V : Nat → Int32) (H : Nat → St) (s : Nat) (t : Nat → Nat) (L : Nat) : Prop :=
  V 0 = nI s ∧ s ≤ 6 ∧ enc (F 0) H s ∧ V 2 = nI L ∧ L ≤ 80 ∧ tOK (F 2) t L
/-- what a call of the reference tells: the exception's number k, the state behind it if there is none, the value -/
def mP (cd : Nat) (val : Int32) (H' : Nat → St) (s' : Nat) (H : Nat → St) (s : Nat) (t : Nat → Nat) (L : Nat) (r : Int32) (S : (Nat → Nat → Int32) × (Nat → Int32)) : Prop :=
  S.2 1 = nI cd ∧ (cd = 0 → mR S.1 S.2 H' s' t L ∧ r = val) ∧ (cd ≠ 0 → mR S.1 S.2 H s t L)
theorem mR_keep {F F' : Nat → Nat → Int32} {V V' : Nat → Int32} {H : Nat → St} {s : Nat} {t : Nat → Nat} {L : Nat} (h : mR F V H s t L) (e0 : V' 0 = V 0) (e2 : V' 2 = V 2) (f0 : F' 0 = F 0) (f2 : F' 2 = F 2) : mR F' V' H s t L :=
  ⟨e0.trans h.1, h.2.1, by rw [f0]; exact h.2.2.1, e2.trans h.2.2.2.1, h.2.2.2.2.1, by rw [f2]; exact h.2.2.2.2.2⟩
theorem mP_f {cd k s s' L : Nat} {val r : Int32} {H H' : Nat → St} {t : Nat → Nat} {F : Nat → Nat → Int32} {V V' : Nat → Int32} (h : mR F V H s t L) (hc : cd = k) (hk : k ≠ 0) (e1 : V' 1 = nI k) (e0 : V' 0 = V 0) (e2 : V' 2 = V 2) : mP cd val H' s' H s t L r (F, V') :=
  ⟨by rw [hc]; exact e1, fun e => absurd (hc.symm.trans e) hk, fun _ => mR_keep h e0 e2 rfl rfl⟩
theorem mP_0 {cd s s' L : Nat} {val r : Int32} {H H' : Nat → St} {t : Nat → Nat} {F' : Nat → Nat → Int32} {V' : Nat → Int32} (hc : cd = 0) (e1 : V' 1 = 0) (h : mR F' V' H' s' t L) (hr : r = val) : mP cd val H' s' H s t L r (F', V') :=
  ⟨by rw [hc]; exact e1, fun _ => ⟨h, hr⟩, fun e => absurd hc e⟩
theorem mR_save {F : Nat → Nat → Int32} {V V' : Nat → Int32} {H : Nat → St} {s : Nat} {t : Nat → Nat} {L : Nat} {f : Nat → Int32} {R : St} (h : mR F V H s t L) (hf : enc f (pushH H s R) (pushN s)) (e0 : V' 0 = nI (pushN s)) (e2 : V' 2 = V 2) : mR (va_up F 0 f) V' (pushH H s R) (pushN s) t L :=
  ⟨e0, pushN_le h.2.1, hf, e2.trans h.2.2.2.1, h.2.2.2.2.1, h.2.2.2.2.2⟩
theorem pushN_n0 {s : Nat} : ¬ pushN s = 0 := by unfold pushN; split <;> omega

theorem pass_ix {x : Int32} (h : inB x 1 99 = true) : ix x < 2 ^ 31 ∧ x = nI (ix x) := by
  obtain ⟨h1, h2⟩ := inB_iff.mp h
  obtain ⟨j, hj, rfl⟩ := nI_of (x := x) (Int32.not_lt.mpr (Int32.le_trans (by decide) h1))
  rw [ix_nI hj]; exact ⟨hj, rfl⟩
theorem mR_set {F : Nat → Nat → Int32} {V V' : Nat → Int32} {H : Nat → St} {s : Nat} {t : Nat → Nat} {L : Nat} (h : mR F V H s t L) (e0 : V' 0 = V 0) (h2 : V' 2 = nI L) : mR F V' H s t L := ⟨e0.trans h.1, h.2.1, h.2.2.1, h2, h.2.2.2.2.1, h.2.2.2.2.2⟩

theorem set_ix {x y : Int32} {z : Int32} (hz : z = if x = 0 then 9 else 99) (h1 : inB x 0 1 = true) (h2 : inB y 0 z = false) : cSet x y = 2 := by
  unfold cSet; rw [if_neg (by simp [h1]), ← hz, if_pos h2]
theorem set_ix0 {x y : Int32} {z : Int32} (hz : z = if x = 0 then 9 else 99) (h1 : inB x 0 1 = true) (h2 : inB y 0 z = true) : cSet x y = 0 := by
  unfold cSet; rw [if_neg (by simp [h1]), ← hz, if_neg (by simp [h2])]

theorem rCan_1 {R : St} {j r : Nat} (h : R 10 j = 1) (hr : rl R j = r) : setS (toff R j r) 10 j 3 = rCan R j := by
  unfold rCan; rw [if_pos h, hr]; unfold toff
  rw [setS_comm _ (3 : Int32) (-1) (Or.inl (by decide) : (10 : Nat) ≠ 5 ∨ j ≠ r)]
  rw [setS_comm _ (3 : Int32) (-1) (Or.inl (by decide) : (10 : Nat) ≠ 12 ∨ j ≠ j)]
theorem rCan_11 {R : St} {j : Nat} : rCan R j 11 j = R 11 j := by
  unfold rCan; split <;> simp [toff, setS_at]
theorem rCan_0 {R : St} {j : Nat} (h : ¬ R 10 j = 1) : setS R 10 j 3 = rCan R j := by unfold rCan; rw [if_neg h]
