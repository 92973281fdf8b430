/-- behind a command -/
def aftr (t : Nat → Nat) (L k q : Nat) : List Cmd × Option Nat := if L ≤ q then ([], none) else if at_ t L q 59 = false then ([], some q) else prs t L k (q + 1)
theorem rdC_end {t : Nat → Nat} {L p : Nat} (h : ¬ p < L) : rdC t L p = (none, p) := by simp [rdC, h]
theorem prs_n {t : Nat → Nat} {L k p q : Nat} (h : rdC t L p = (none, q)) (hf : L - p ≤ k) (hp : p ≤ L) : prs t L k p = ([], some q) := by
  cases k with
  | zero =>
    rw [rdC_end (by omega)] at h
    cases h; rfl
  | succ k => simp [prs, h]
theorem prs_c {t : Nat → Nat} {L k p q : Nat} {c : Cmd} (h : rdC t L p = (some c, q)) (hf : L - p ≤ k) (hp : p ≤ L) : ∃ k', k = k' + 1 ∧ prs t L k p = (c :: (aftr t L k' q).1, (aftr t L k' q).2) := by
  cases k with
  | zero =>
    rw [rdC_end (by omega)] at h
    cases h
  | succ k =>
    refine ⟨k, rfl, ?_⟩
    simp only [prs, h, aftr]
    split
    · rfl
    · split <;> rfl
theorem rdJ_ge {t : Nat → Nat} {L p : Nat} (hp : p ≤ L) : p ≤ (rdJ t L p).2 := by
  obtain ⟨p1, v, e1⟩ : ∃ p1 v, rdN t L 99 (L - p) p 0 = (p1, v) := ⟨_, _, rfl⟩
  obtain ⟨g0, g1, _⟩ := rdN_ok t L 99 (L - p) p 0 (by omega) hp
  rw [e1] at g0 g1; dsimp only at g0 g1
  simp only [rdJ, e1]
  split
  · exact g0
  · split
    · exact g0
    · rename_i ha
      have ha := (at_s (by simpa using ha)).1
      obtain ⟨p2, m, e2⟩ : ∃ p2 m, rdN t L 20 (L - (p1 + 1)) (p1 + 1) 0 = (p2, m) := ⟨_, _, rfl⟩
      obtain ⟨g2, g3, _⟩ := rdN_ok t L 20 (L - (p1 + 1)) (p1 + 1) 0 (by omega) (by omega)
      rw [e2] at g2 g3; dsimp only at g2 g3
      simp only [rdM, e2]
      split
      · dsimp only; omega
      · split
        · dsimp only; omega
        · split
          · dsimp only; omega
          · dsimp only; omega
theorem rdC_gt {t : Nat → Nat} {L p q : Nat} {c : Cmd} (h : rdC t L p = (some c, q)) : p + 1 ≤ q := by
  unfold rdC at h
  split at h
  · cases h
  · rename_i hl
    split at h
    · have := rdJ_ge (t := t) (L := L) (p := p + 1) (by omega)
      have e := congrArg Prod.snd h
      dsimp only at e; omega
    · split at h
      · have := rdN_ok t L 99 (L - (p + 1)) (p + 1) 0 (by omega) (by omega)
        split at h
        · cases h
        · have e := congrArg Prod.snd h
          dsimp only at e; omega
      · split at h
        · have e := congrArg Prod.snd h
          dsimp only at e; omega
        · cases h
def stored (F : Nat → Nat → Int32) (cs : List Cmd) : Prop := ∀ i x, cs[i]? = some x → cmdAt F i x
theorem cmdAt_j {F F' : Nat → Nat → Int32} {i : Nat} {x : Cmd} (h : ∀ k, F' k i = F k i) (hx : cmdAt F i x) : cmdAt F' i x :=
  ⟨(h 3).trans hx.1, fun e => (h 4).trans (hx.2.1 e), fun e => ⟨(h 5).trans (hx.2.2 e).1, (h 6).trans (hx.2.2 e).2⟩⟩
theorem stored_same {F F' : Nat → Nat → Int32} {cs : List Cmd} (h : ∀ k j, j ≠ cs.length → F' k j = F k j) (hs : stored F cs) : stored F' cs := fun i x hi => by
  have hl : i < cs.length := (List.getElem?_eq_some_iff.mp hi).1
  exact cmdAt_j (fun k => h k i (by omega)) (hs i x hi)
theorem stored_snoc {F F' : Nat → Nat → Int32} {cs : List Cmd} {x : Cmd} (h : ∀ k j, j ≠ cs.length → F' k j = F k j) (hs : stored F cs) (hx : cmdAt F' cs.length x) : stored F' (cs ++ [x]) := fun i z hi => by
  by_cases hl : i < cs.length
  · rw [List.getElem?_append_left hl] at hi
    exact stored_same h hs i z hi
  · rw [List.getElem?_append_right (by omega)] at hi
    have h0 : i - cs.length = 0 := by
      have := (List.getElem?_eq_some_iff.mp hi).1
      simp at this; omega
    rw [h0] at hi
    have hz : x = z := by simpa using hi
    rw [← hz, show i = cs.length by omega]; exact hx
