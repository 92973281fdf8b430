/-! THE LAW'S ARRAYS, as functions of the same room: three columns a reel (36), four columns a job (48), eleven numbers -/
def fA (R : St) (q : Nat) : Int32 := R (q % 3) (q / 3)
def fB (R : St) (q : Nat) : Int32 := R (3 + q % 3) (q / 3)
def fJ (R : St) (q : Nat) : Int32 := R (6 + q % 4) (q / 4)
def fK (R : St) (q : Nat) : Int32 := R (10 + q % 4) (q / 4)
def lgW (i : Nat → ClassId) (v : Nat → Nat) (R : St) : va_W := [(v 0, .inl (i 0, 36, .inl (fA R))), (v 1, .inl (i 0, 36, .inl (fB R))), (v 2, .inl (i 0, 48, .inl (fJ R))), (v 3, .inl (i 0, 48, .inl (fK R))), (v 4, .inl (i 0, 11, .inl (R 14)))]
theorem fA_at {R : St} {c : Nat} (hc : c < 3) (r : Nat) : fA R (3 * r + c) = R c r := by unfold fA; rw [show (3 * r + c) % 3 = c by omega, show (3 * r + c) / 3 = r by omega]
theorem fB_at {R : St} {c : Nat} (hc : c < 3) (r : Nat) : fB R (3 * r + c) = R (3 + c) r := by unfold fB; rw [show (3 * r + c) % 3 = c by omega, show (3 * r + c) / 3 = r by omega]
theorem fJ_at {R : St} {c : Nat} (hc : c < 4) (r : Nat) : fJ R (4 * r + c) = R (6 + c) r := by unfold fJ; rw [show (4 * r + c) % 4 = c by omega, show (4 * r + c) / 4 = r by omega]
theorem fK_at {R : St} {c : Nat} (hc : c < 4) (r : Nat) : fK R (4 * r + c) = R (10 + c) r := by unfold fK; rw [show (4 * r + c) % 4 = c by omega, show (4 * r + c) / 4 = r by omega]
theorem fA_set {R : St} {c j : Nat} {x : Int32} (h : 2 < c) : fA (setS R c j x) = fA R := by
  funext q; unfold fA; exact setS_c R j x (by omega) _
theorem fB_set {R : St} {c j : Nat} {x : Int32} (h : c < 3 ∨ 5 < c) : fB (setS R c j x) = fB R := by
  funext q; unfold fB; exact setS_c R j x (by omega) _
theorem fJ_set {R : St} {c j : Nat} {x : Int32} (h : c < 6 ∨ 9 < c) : fJ (setS R c j x) = fJ R := by
  funext q; unfold fJ; exact setS_c R j x (by omega) _
theorem fK_set {R : St} {c j : Nat} {x : Int32} (h : c < 10 ∨ 13 < c) : fK (setS R c j x) = fK R := by
  funext q; unfold fK; exact setS_c R j x (by omega) _
theorem n_set {R : St} {c j : Nat} {x : Int32} (h : c < 14) : setS R c j x 14 = R 14 := by
  funext q; exact setS_c R j x (by omega) _
theorem fA_up {R : St} {c r : Nat} {x : Int32} (hc : c < 3) : upd (fA R) (3 * r + c) x = fA (setS R c r x) := by
  funext q
  have e : (q % 3 = c ∧ q / 3 = r) = (q = 3 * r + c) := propext ⟨fun h => by omega, fun h => by omega⟩
  simp only [fA, setS_at, upd, e]
theorem fB_up {R : St} {c r : Nat} {x : Int32} (hc : c < 3) : upd (fB R) (3 * r + c) x = fB (setS R (3 + c) r x) := by
  funext q
  have e : (3 + q % 3 = 3 + c ∧ q / 3 = r) = (q = 3 * r + c) := propext ⟨fun h => by omega, fun h => by omega⟩
  simp only [fB, setS_at, upd, e]
theorem fJ_up {R : St} {c r : Nat} {x : Int32} (hc : c < 4) : upd (fJ R) (4 * r + c) x = fJ (setS R (6 + c) r x) := by
  funext q
  have e : (6 + q % 4 = 6 + c ∧ q / 4 = r) = (q = 4 * r + c) := propext ⟨fun h => by omega, fun h => by omega⟩
  simp only [fJ, setS_at, upd, e]
theorem fK_up {R : St} {c r : Nat} {x : Int32} (hc : c < 4) : upd (fK R) (4 * r + c) x = fK (setS R (10 + c) r x) := by
  funext q
  have e : (10 + q % 4 = 10 + c ∧ q / 4 = r) = (q = 4 * r + c) := propext ⟨fun h => by omega, fun h => by omega⟩
  simp only [fK, setS_at, upd, e]
section LG
variable {i : Nat → ClassId} {v : Nat → Nat} {R : St} {c r j : Nat} {x : Int32}
theorem lg_A (hc : c < 3) : (lgW i v R).set 0 (v 0, .inl (i 0, 36, .inl (upd (fA R) (3 * r + c) x))) = lgW i v (setS R c r x) := by
  rw [fA_up hc]
  show [_, _, _, _, _] = _
  unfold lgW
  rw [fB_set (by omega), fJ_set (by omega), fK_set (by omega), n_set (by omega)]
theorem lg_B (hc : c < 3) : (lgW i v R).set 1 (v 1, .inl (i 0, 36, .inl (upd (fB R) (3 * r + c) x))) = lgW i v (setS R (3 + c) r x) := by
  rw [fB_up hc]
  show [_, _, _, _, _] = _
  unfold lgW
  rw [fA_set (by omega), fJ_set (by omega), fK_set (by omega), n_set (by omega)]
theorem lg_J (hc : c < 4) : (lgW i v R).set 2 (v 2, .inl (i 0, 48, .inl (upd (fJ R) (4 * r + c) x))) = lgW i v (setS R (6 + c) r x) := by
  rw [fJ_up hc]
  show [_, _, _, _, _] = _
  unfold lgW
  rw [fA_set (by omega), fB_set (by omega), fK_set (by omega), n_set (by omega)]
theorem lg_K (hc : c < 4) : (lgW i v R).set 3 (v 3, .inl (i 0, 48, .inl (upd (fK R) (4 * r + c) x))) = lgW i v (setS R (10 + c) r x) := by
  rw [fK_up hc]
  show [_, _, _, _, _] = _
  unfold lgW
  rw [fA_set (by omega), fB_set (by omega), fJ_set (by omega), n_set (by omega)]
theorem lg_N : (lgW i v R).set 4 (v 4, .inl (i 0, 11, .inl (upd (R 14) j x))) = lgW i v (setS R 14 j x) := by
  show [_, _, _, _, _] = _
  unfold lgW
  rw [fA_set (by omega), fB_set (by omega), fJ_set (by omega), fK_set (by omega)]
  have : setS R 14 j x 14 = upd (R 14) j x := by funext q; simp [setS, va_up]
  rw [this]
end LG
/-- what else holds of a room that the law's calls make: kinds, priorities, drives, CARE -/
def KI (R : St) (n : Nat) : Prop := (∀ j, j < n → (R 6 j = 0 ∨ R 6 j = 1 ∨ R 6 j = 2) ∧ R 9 j ≤ 9) ∧ (∀ r, r < 12 → R 5 r = -1 ∨ 0 ≤ R 5 r) ∧ 0 ≤ R 14 8
theorem setS_id {R : St} {c j : Nat} {x : Int32} (h : x = R c j) : setS R c j x = R := by
  subst h; funext a b; simp only [setS_at]; split
  · rename_i q; rw [q.1, q.2]
  · rfl
theorem i32_add0 (x : Int32) : x + 0 = x := Int32.add_zero x
/-- numbers drawn out of the script -/
def lo (x : Int32) (n : Nat) : Nat := x.toBitVec.toNat % 2 ^ 31 % n
theorem lo_lt (x : Int32) {n : Nat} (hn : 0 < n) : lo x n < n := Nat.mod_lt _ hn
/-- reels on the shelf, as the law tests it -/
theorem sh_t {R : St} {n r : Nat} (h : KI R n) (hr : r < 12) (h0 : ¬ 0 ≤ R 5 r) : onSh R r = true := by
  rcases h.2.1 r hr with h1 | h1
  · simp [onSh, h1]
  · exact absurd h1 h0
theorem sh_f {R : St} {r : Nat} (h0 : 0 ≤ R 5 r) : onSh R r = false := by
  have : ¬ R 5 r = -1 := fun e => by rw [e] at h0; exact absurd h0 (by decide)
  simp [onSh, this]
theorem best_is {R : St} {i : Nat} (he : elig R i = true) : ∀ (k j : Nat), j + k < 2 ^ 31 → j ≤ i → i < j + k → (∀ q, j ≤ q → q < j + k → elig R q = true → R 9 q ≤ R 9 i) → (∀ q, j ≤ q → q < i → elig R q = true → R 9 q < R 9 i) → best R j k = nI i
  | 0, j, _, h1, h2, _, _ => by omega
  | k + 1, j, hb0, h1, h2, h3, h4 => by
    have hi : i < 2 ^ 31 := by omega
    by_cases hj : j = i
    · subst hj
      rcases best_spec R k (j + 1) with h5 | ⟨q, h5, h6, h7, h8⟩
      · simp [best, he, h5]
      · have h9 := h3 q (by omega) (by omega) h8
        have : (best R (j + 1) k).toNatClampNeg = q := by
          rw [h7]
          exact nI_clamp (by omega)
        simp only [best, he, this, h9, or_true, and_self, if_true]
    · have hb := best_is he k (j + 1) (by omega) (by omega) (by omega) (fun q a b c => h3 q (by omega) (by omega) c) (fun q a b c => h4 q (by omega) b c)
      have hn : ¬ (elig R j = true ∧ (best R (j + 1) k = -1 ∨ R 9 (best R (j + 1) k).toNatClampNeg ≤ R 9 j)) := by
        rintro ⟨a, b⟩
        rw [hb, nI_clamp hi] at b
        rcases b with b | b
        · exact nI_ne hi b
        · exact absurd (h4 j (Nat.le_refl _) (by omega) a) (Int32.not_lt.mpr b)
      simp only [best, if_neg hn]
      exact hb
theorem best_no {R : St} : ∀ (k j : Nat), (∀ q, j ≤ q → q < j + k → elig R q = false) → best R j k = -1
  | 0, _, _ => rfl
  | k + 1, j, h => by
    have h1 := h j (Nat.le_refl _) (by omega)
    have h2 := best_no k (j + 1) (fun q a b => h q (by omega) (by omega))
    simp [best, h1, h2]
/-- the reel that is taken at the m-th mount -/
def tk (R : St) (j : Nat) (m : Int32) : Int32 := if slp R m = true then aft R (fnd R j) else fnd R j
theorem aft_cyc {R : St} {r t : Nat} (hr : r < 12) (ht : t < 12) (h : ∀ s, 1 ≤ s → s ≤ t → onSh R ((r + s) % 12) = false) (h1 : onSh R ((r + (t + 1)) % 12) = true) : aft R (nI r) = nI ((r + (t + 1)) % 12) := by
  by_cases hc : r + (t + 1) < 12
  · have e1 : (r + (t + 1)) % 12 = r + (t + 1) := Nat.mod_eq_of_lt hc
    rw [e1] at h1 ⊢
    have hf : fst_ (fun q => onSh R q && decide (nI r < nI q)) 0 12 = nI (r + (t + 1)) := by
      refine fst_hit (fun j hj => ?_) ?_ hc
      · by_cases hjr : j ≤ r
        · have : ¬ nI r < nI j := nI_nlt hjr (by omega)
          simp [this]
        · have e := h (j - r) (by omega) (by omega)
          rw [show (r + (j - r)) % 12 = j by rw [show r + (j - r) = j by omega]; exact Nat.mod_eq_of_lt (by omega)] at e
          simp [e]
      · have : nI r < nI (r + (t + 1)) := nI_lt (by omega) (by omega)
        simp [h1, this]
    unfold aft
    rw [hf, if_neg (nI_ne (by omega))]
  · have e1 : (r + (t + 1)) % 12 = r + (t + 1) - 12 := by omega
    rw [e1] at h1 ⊢
    have hf : fst_ (fun q => onSh R q && decide (nI r < nI q)) 0 12 = -1 := by
      refine fst_miss (fun j hj => ?_)
      by_cases hjr : j ≤ r
      · have : ¬ nI r < nI j := nI_nlt hjr (by omega)
        simp [this]
      · have e := h (j - r) (by omega) (by omega)
        rw [show (r + (j - r)) % 12 = j by rw [show r + (j - r) = j by omega]; exact Nat.mod_eq_of_lt (by omega)] at e
        simp [e]
    unfold aft
    rw [hf, if_pos rfl]
    refine fst_hit (fun j hj => ?_) h1 (by omega)
    have e := h (j + 12 - r) (by omega) (by omega)
    rwa [show (r + (j + 12 - r)) % 12 = j by omega] at e
theorem cyc_end {R : St} {r t : Nat} (hr : r < 12) (hs : onSh R r = true) (h : ∀ s, 1 ≤ s → s ≤ t → onSh R ((r + s) % 12) = false) : t < 12 := by
  apply Classical.byContradiction
  intro ht
  have e := h 12 (by omega) (by omega)
  rw [show (r + 12) % 12 = r by omega, hs] at e
  cases e
