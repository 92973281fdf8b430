/-! THE CLASS'S READERS, their answers known, the world the same; success without draws -/
section GX
variable {g : zG} {x : Nat} {u c a h : Nat → Nat} {e : Nat → Nat → Nat} {Q P : Nat → Int32} {T R : St} {s p : Nat} {K : Nat → St} {H : Nat → St} {t : Nat → Nat} {L : Nat}
theorem g_reel (hG : GR R) (hX : xR H s t L (Q, P, T, p, K)) {y z : Int32} (h0 : cReel y z = 0) : Gi g yX5_reel cX5_reel 3 .int 8 [.ref x, .int y, .int z] (xW g.2 x u c a h e Q P T R (nI s) (nI p) K) (vReel R y z) (xW g.2 x u c a h e Q P T R (nI s) (nI p) K) :=
  FI_mono (k_reel hG hX h0) (fun r S q => ⟨(), q.2.1, by rw [q.2.2]⟩)
theorem g_reelOn (hG : GR R) (hX : xR H s t L (Q, P, T, p, K)) {y : Int32} (h0 : cOn y = 0) : Gi g yX5_reelOn cX5_reelOn 2 .int 8 [.ref x, .int y] (xW g.2 x u c a h e Q P T R (nI s) (nI p) K) (onDr R y) (xW g.2 x u c a h e Q P T R (nI s) (nI p) K) :=
  FI_mono (k_reelOn hG hX h0) (fun r S q => ⟨(), q.2.1, by rw [q.2.2]⟩)
theorem g_job (hG : GR R) (hX : xR H s t L (Q, P, T, p, K)) {y z : Int32} (h0 : cJob R y z = 0) : Gi g yX5_job cX5_job 3 .int 8 [.ref x, .int y, .int z] (xW g.2 x u c a h e Q P T R (nI s) (nI p) K) (vJob R y z) (xW g.2 x u c a h e Q P T R (nI s) (nI p) K) :=
  FI_mono (k_job hG hX h0) (fun r S q => ⟨(), q.2.1, by rw [q.2.2]⟩)
theorem g_isStuck (hG : GR R) (hX : xR H s t L (Q, P, T, p, K)) {y : Int32} (h0 : cIs R y = 0) : Gi g yX5_isStuck cX5_isStuck 2 .boolean 8 [.ref x, .int y] (xW g.2 x u c a h e Q P T R (nI s) (nI p) K) (vStuck R y) (xW g.2 x u c a h e Q P T R (nI s) (nI p) K) :=
  FI_mono (k_isStuck hG hX h0) (fun r S q => ⟨(), q.2.1, by rw [q.2.2]⟩)
theorem g_verdict (hG : GR R) (hX : xR H s t L (Q, P, T, p, K)) {y z : Int32} (h0 : cVer R y z = 0) : Gi g yX5_verdict cX5_verdict 3 .int 8 [.ref x, .int y, .int z] (xW g.2 x u c a h e Q P T R (nI s) (nI p) K) (chk R (ix y) (ix z)) (xW g.2 x u c a h e Q P T R (nI s) (nI p) K) :=
  FI_mono (k_verdict hG hX h0) (fun r S q => ⟨(), q.2.1, by rw [q.2.2]⟩)
theorem g_count (hG : GR R) (hX : xR H s t L (Q, P, T, p, K)) {y : Int32} (h0 : cCnt y = 0) : Gi g yX5_count cX5_count 2 .int 8 [.ref x, .int y] (xW g.2 x u c a h e Q P T R (nI s) (nI p) K) (vCnt R y) (xW g.2 x u c a h e Q P T R (nI s) (nI p) K) :=
  FI_mono (k_count hG hX h0) (fun r S q => ⟨(), q.2.1, by rw [q.2.2]⟩)
end GX
theorem inB_nI {a b : Nat} (h : a ≤ b) (hb : b < 2 ^ 31) : inB (nI a) 0 (nI b) = true := inB_iff.mpr ⟨nI_pos' (by omega), nI_le h hb⟩
theorem isReel_nI {r : Nat} (hr : r < 12) : isReel (nI r) = true := inB_nI (b := 11) (by omega) (by omega)
theorem isJob_nI {R : St} {j : Nat} (h : GR R) (hj : j < nn R) : isJob R (nI j) = true := by
  have hn := h.n12
  unfold isJob
  rw [h.num, show nn R = (nn R - 1) + 1 by omega, nI_pred]
  exact inB_nI (by omega) (by omega)
theorem cReel_0 {r q : Nat} (hr : r < 12) (hq : q ≤ 6) : cReel (nI r) (nI q) = 0 := by
  unfold cReel
  rw [if_neg (by rw [isReel_nI hr]; decide)]
  by_cases h : q = 6
  · subst h; exact if_pos rfl
  · rw [if_neg (show ¬ nI q = (6 : Int32) from fun e => h (nI_inj (by omega) (by omega) (show nI q = nI 6 from e))), if_neg (by rw [show inB (nI q) 0 5 = true from inB_nI (b := 5) (by omega) (by omega)]; decide)]
theorem vReel_at {R : St} {r q : Nat} (hr : r < 12) (hq : q < 6) : vReel R (nI r) (nI q) = R q r := by
  unfold vReel
  rw [if_neg (show ¬ nI q = (6 : Int32) from fun e => by have := nI_inj (by omega) (by omega) (show nI q = nI 6 from e); omega), ix_nI (by omega), ix_nI (by omega)]
theorem vReel_6 {R : St} {r : Nat} (hr : r < 12) : vReel R (nI r) (nI 6) = bI (scr R r) := by
  unfold vReel
  rw [if_pos (show nI 6 = (6 : Int32) by decide), ix_nI (by omega)]
theorem cJob_0 {R : St} {j q : Nat} (h : GR R) (hj : j < nn R) (hq : q < 8) : cJob R (nI j) (nI q) = 0 := by
  unfold cJob
  rw [if_neg (by rw [isJob_nI h hj]; decide), if_neg (by rw [show inB (nI q) 0 7 = true from inB_nI (b := 7) (by omega) (by omega)]; decide)]
theorem vJob_at {R : St} {j q : Nat} (hj : j < 12) (hq : q < 8) : vJob R (nI j) (nI q) = R (6 + q) j := by
  unfold vJob
  rw [ix_nI (by omega), ix_nI (by omega)]
theorem cIs_0 {R : St} {j : Nat} (h : GR R) (hj : j < nn R) : cIs R (nI j) = 0 := by
  unfold cIs
  rw [if_neg (by rw [isJob_nI h hj]; decide)]
theorem vStuck_at {R : St} {j : Nat} (hj : j < 12) : vStuck R (nI j) = bI (decide (R 10 j = 0) && decide (fnd R j = -1)) := by
  unfold vStuck
  rw [ix_nI (by omega)]
theorem cVer_0 {R : St} {j r : Nat} (h : GR R) (hj : j < nn R) (hr : r < 12) : cVer R (nI j) (nI r) = 0 := by
  unfold cVer
  rw [if_neg (by rw [isJob_nI h hj]; decide), if_neg (by rw [isReel_nI hr]; decide)]
theorem cCnt_0 {q : Nat} (hq : q ≤ 10) : cCnt (nI q) = 0 := by
  unfold cCnt
  rw [if_neg (by rw [show inB (nI q) 0 10 = true from inB_nI (b := 10) (by omega) (by omega)]; decide)]
theorem vCnt_at {R : St} {q : Nat} (hq : q < 8) : vCnt R (nI q) = R 14 q := by
  unfold vCnt
  rw [if_pos (show nI q < (8 : Int32) from nI_lt (b := 8) (by omega) (by omega)), ix_nI (by omega)]
/-- how many of the first m jobs are in state j -/
def cw (R : St) : Nat → Nat → Int32
  | 0, _ => 0
  | m + 1, j => cw R m j + (if R 10 m = nI j then 1 else 0)
theorem cw_s {R : St} {j : Nat} : ∀ (k m : Nat), cntS R (nI j) m k (cw R m j) = cw R (m + k) j
  | 0, m => rfl
  | k + 1, m => by
    have := cw_s (R := R) (j := j) k (m + 1)
    rw [show m + (k + 1) = m + 1 + k by omega, ← this]
    rfl
theorem vCnt_8 {R : St} : vCnt R 8 = cw R (nn R) 0 := by
  have := cw_s (R := R) (j := 0) (nn R) 0
  rw [Nat.zero_add] at this
  rw [← this]; rfl
theorem vCnt_9 {R : St} : vCnt R 9 = cw R (nn R) 1 := by
  have := cw_s (R := R) (j := 1) (nn R) 0
  rw [Nat.zero_add] at this
  rw [← this]; rfl
theorem vCnt_10 {R : St} : vCnt R 10 = cw R (nn R) 2 := by
  have := cw_s (R := R) (j := 2) (nn R) 0
  rw [Nat.zero_add] at this
  rw [← this]; rfl
theorem cw_up {R : St} {m j0 : Nat} (h : R 10 m = nI j0) (h4 : j0 < 4) : ∀ j, j < 4 → upd (cw R m) j0 (cw R m j0 + 1) j = cw R (m + 1) j := by
  intro j hj
  have e : (R 10 m = nI j) ↔ j = j0 := by
    rw [h]
    exact ⟨fun e => (nI_inj (by omega) (by omega) e).symm, fun e => by rw [e]⟩
  simp only [upd, cw, e]
  by_cases hj0 : j = j0
  · subst hj0; simp
  · simp [hj0]
theorem vNext_q {R : St} {q : Nat} (hq : nxt R (nn R) = nI q) (h12 : q < 12) : vNextR R = tk R q (R 14 2 + 1) := by
  unfold vNextR tk
  rw [hq, if_neg (nI_ne (by omega)), ix_nI (by omega)]
theorem vNext_no {R : St} (h : nxt R (nn R) = -1) : vNextR R = -1 := by
  unfold vNextR; rw [if_pos h]
theorem fnd_ge {R : St} {j : Nat} (h : 0 ≤ fnd R j) : ¬ fnd R j = -1 := fun e => by rw [e] at h; exact absurd h (by decide)
