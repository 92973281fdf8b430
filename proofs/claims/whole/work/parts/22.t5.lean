/-- behind a command -/
def aftr (t : Nat → Nat) (L k q : Nat) : List Cmd × Option Nat := if L ≤ q then ([], none) else if at_ t L q 59 = false then ([], some q) else prs t L k (q + 1)
theorem rdC_end {t : Nat → Nat} {L p : Nat} (h : ¬ p < L) : rdC t L p = (none, p) := by simp [rdC, h]
theorem prs_n {t : Nat → Nat} {L k p q : Nat} (h : rdC t L p = (none, q)) (hf : L - p ≤ k) (hp : p ≤ L) : prs t L k p = ([], some q) := by
  cases k with
  | zero =>
    rw [rdC_end (by omega)] at h
    cases h; rfl
  | succ k => simp [prs, h]
theorem prs_c {t : Nat → Nat} {L k p q : Nat} {c : Cmd} (h : rdC t L p = (some c, q)) (hf : L - p ≤ k) (hp : p ≤ L) : ∃ k', k = k' + 1 ∧ prs t L k p = (c :: (aftr t L k' q).1, (aftr t L k' q).2) := by
  cases k with
  | zero =>
    rw [rdC_end (by omega)] at h
    cases h
  | succ k =>
    refine ⟨k, rfl, ?_⟩
    simp only [prs, h, aftr]
    split
    · rfl
    · split <;> rfl
theorem rdJ_ge {t : Nat → Nat} {L p : Nat} (hp : p ≤ L) : p ≤ (rdJ t L p).2 := by
  obtain ⟨p1, v, e1⟩ : ∃ p1 v, rdN t L 99 (L - p) p 0 = (p1, v) := ⟨_, _, rfl⟩
  obtain ⟨g0, g1, _⟩ := rdN_ok t L 99 (L - p) p 0 (by omega) hp
  rw [e1] at g0 g1; dsimp only at g0 g1
  simp only [rdJ, e1]
  split
  · exact g0
  · split
    · exact g0
    · rename_i ha
      have ha := (at_s (by simpa using ha)).1
      obtain ⟨p2, m, e2⟩ : ∃ p2 m, rdN t L 20 (L - (p1 + 1)) (p1 + 1) 0 = (p2, m) := ⟨_, _, rfl⟩
      obtain ⟨g2, g3, _⟩ := rdN_ok t L 20 (L - (p1 + 1)) (p1 + 1) 0 (by omega) (by omega)
      rw [e2] at g2 g3; dsimp only at g2 g3
      simp only [rdM, e2]
      split
      · dsimp only; omega
      · split
        · dsimp only; omega
        · split
          · dsimp only; omega
          · dsimp only; omega
theorem rdC_gt {t : Nat → Nat} {L p q : Nat} {c : Cmd} (h : rdC t L p = (some c, q)) : p + 1 ≤ q := by
  unfold rdC at h
  split at h
  · cases h
  · rename_i hl
    split at h
    · have := rdJ_ge (t := t) (L := L) (p := p + 1) (by omega)
      have e := congrArg Prod.snd h
      dsimp only at e; omega
    · split at h
      · have := rdN_ok t L 99 (L - (p + 1)) (p + 1) 0 (by omega) (by omega)
        split at h
        · cases h
        · have e := congrArg Prod.snd h
          dsimp only at e; omega
      · split at h
        · have e := congrArg Prod.snd h
          dsimp only at e; omega
        · cases h
def stored (F : Nat → Nat → Int32) (cs : List Cmd) : Prop := ∀ i x, cs[i]? = some x → cmdAt F i x
theorem cmdAt_j {F F' : Nat → Nat → Int32} {i : Nat} {x : Cmd} (h : ∀ k, F' k i = F k i) (hx : cmdAt F i x) : cmdAt F' i x :=
  ⟨(h 3).trans hx.1, fun e => (h 4).trans (hx.2.1 e), fun e => ⟨(h 5).trans (hx.2.2 e).1, (h 6).trans (hx.2.2 e).2⟩⟩
theorem stored_same {F F' : Nat → Nat → Int32} {cs : List Cmd} (h : ∀ k j, j ≠ cs.length → F' k j = F k j) (hs : stored F cs) : stored F' cs := fun i x hi => by
  have hl : i < cs.length := (List.getElem?_eq_some_iff.mp hi).1
  exact cmdAt_j (fun k => h k i (by omega)) (hs i x hi)
theorem stored_snoc {F F' : Nat → Nat → Int32} {cs : List Cmd} {x : Cmd} (h : ∀ k j, j ≠ cs.length → F' k j = F k j) (hs : stored F cs) (hx : cmdAt F' cs.length x) : stored F' (cs ++ [x]) := fun i z hi => by
  by_cases hl : i < cs.length
  · rw [List.getElem?_append_left hl] at hi
    exact stored_same h hs i z hi
  · rw [List.getElem?_append_right (by omega)] at hi
    have h0 : i - cs.length = 0 := by
      have := (List.getElem?_eq_some_iff.mp hi).1
      simp at this; omega
    rw [h0] at hi
    have hz : x = z := by simpa using hi
    rw [← hz, show i = cs.length by omega]; exact hx

set_option maxRecDepth 100000 in
set_option maxHeartbeats 4000000 in
theorem m_isValid {g : zG} {b : Nat → Nat} {R : St} {F : Nat → Nat → Int32} {V : Nat → Int32} {t : Nat → Nat} {L : Nat} (hT : tOK (F 2) t L) (hL : L ≤ 80) (h2 : V 2 = nI L) : FI (S := (Nat → Nat → Int32) × (Nat → Int32)) g yX6_isValid cX6_isValid 2 .boolean 4 0 0 [.ref (b 0)] (mW g.2 b R F V) (fun r (S : (Nat → Nat → Int32) × (Nat → Int32)) => r = bI (decide ((prs t L 80 0).2 = none)) ∧ kpV V S.2 ∧ kpF F S.1 ∧ S.2 5 = nI (prs t L 80 0).1.length ∧ (prs t L 80 0).1.length ≤ 41 ∧ stored S.1 (prs t L 80 0).1 ∧ ∀ e, (prs t L 80 0).2 = some e → S.2 3 = nI e) (fun S => mW g.2 b R S.1 S.2) := by
  refine fi_entry (by decide) (Nat.le_of_ble_eq_true rfl) (fun C hC hm hE => ?_)
  have exit0 : ∀ (q : Nat) (cs : List Cmd) (F' : Nat → Nat → Int32) (V' : Nat → Int32), cs.length ≤ 41 → kpF F F' → kpV V V' → V' 3 = nI q → V' 5 = nI cs.length → stored F' cs → prs t L 80 0 = (cs, some q) → Z g C 0 0 (mW g.2 b R F' V') [(1, .int 0), (0, .ref (b 0))] 15 [] := by
    intro q cs F' V' hlen hF hV h3 h5 hst hp
    refine z_iln (pc := 15) hC 0 rfl dX6_isValid_15 ?_
    refine z_ifeq (pc := 16) hC 36 (by decide) dX6_isValid_16 (fun c16 => ?_) (fun c16 => absurd c16 (by decide))
    refine z_iln (pc := 36) hC 0 rfl dX6_isValid_36 ?_
    refine z_ifeq (pc := 37) hC 55 (by decide) dX6_isValid_37 (fun c37 => ?_) (fun c37 => absurd c37 (by decide))
    refine z_iconst (pc := 55) (v := 0) hC dX6_isValid_55 (by decide) ?_
    exact hE _ _ _ (F', V') _ _ _ dX6_isValid_56 rfl (by rw [hp]; exact ⟨rfl, hV, hF, h5, hlen, hst, fun e he => by cases he; exact h3⟩) rfl (Nat.le_refl _) (Nat.le_refl _)
  have loop : ∀ (k q : Nat) (cs : List Cmd) (F' : Nat → Nat → Int32) (V' : Nat → Int32), L - (q + 1) ≤ k → q ≤ L → 2 * cs.length ≤ q + 1 → kpF F F' → kpV V V' → V' 3 = nI q → V' 5 = nI cs.length → stored F' cs → prs t L 80 0 = (cs ++ (aftr t L k q).1, (aftr t L k q).2) → Z g C 0 0 (mW g.2 b R F' V') [(1, .int 1), (0, .ref (b 0))] 15 [] := by
    intro k
    induction k using Nat.strongRecOn with
    | _ k ih =>
    intro q cs F' V' hk hq hlen hF hV h3 h5 hst hp
    refine z_iln (pc := 15) hC 0 rfl dX6_isValid_15 ?_
    refine z_ifeq (pc := 16) hC 36 (by decide) dX6_isValid_16 (fun c16 => absurd c16 (by decide)) (fun c16 => ?_)
    refine z_aln (pc := 19) hC 1 rfl dX6_isValid_19 ?_
    refine z_bipush (pc := 20) (v := 59) hC dX6_isValid_20 (by decide) ?_
    refine z_g (pc := 22) (rest := []) hC vX6_takes lX6_154 dX6_isValid_22 (m_takes (F := F') (V := V') (p := q) (x := 59) (by rw [hF.2.2]; exact hT) hL (hV.2.2.trans h2) h3 hq (by omega) (by omega)) (fun w => w) isCtx_id rfl 0 6 rfl rfl rfl rfl rfl (by decide) (Nat.le_of_ble_eq_true rfl) ⟨Nat.le_refl _, Nat.le_refl _⟩ ?_
    refine z_ifeq (pc := 25) hC 36 (by decide) dX6_isValid_25 (fun c25 => ?_) (fun c25 => ?_)
    · have ha : at_ t L q 59 = false := bI_0.mp c25
      refine z_w (ws' := mW g.2 b R F' (upd V' 3 (nI q))) (by rw [if_neg (by simp [ha])]) ?_
      refine z_iln (pc := 36) hC 0 rfl dX6_isValid_36 ?_
      refine z_ifeq (pc := 37) hC 55 (by decide) dX6_isValid_37 (fun c37 => absurd c37 (by decide)) (fun c37 => ?_)
      refine z_aln (pc := 40) hC 1 rfl dX6_isValid_40 ?_
      refine z_get (pc := 41) hC fX6_139 0 rfl rfl dX6_isValid_41 ?_
      refine z_is_ (y := nI q) (by simp [upd]) ?_
      refine z_aln (pc := 44) hC 1 rfl dX6_isValid_44 ?_
      refine z_get (pc := 45) hC fX6_136 0 rfl rfl dX6_isValid_45 ?_
      refine z_is_ (y := nI L) (by simp [upd, hV.2.2, h2]) ?_
      refine z_icne (pc := 48) hC 55 (by decide) dX6_isValid_48 (fun c48 => ?_) (fun c48 => ?_)
      · have hqL : ¬ L ≤ q := fun z => c48 (by rw [Nat.le_antisymm hq z])
        have hpr : prs t L 80 0 = (cs, some q) := by rw [hp]; simp [aftr, hqL, ha]
        refine z_iconst (pc := 55) (v := 0) hC dX6_isValid_55 (by decide) ?_
        exact hE _ _ _ (F', upd V' 3 (nI q)) _ _ _ dX6_isValid_56 rfl (by rw [hpr]; exact ⟨rfl, ⟨hV.1, hV.2.1, hV.2.2⟩, hF, h5, by show cs.length ≤ 41; omega, hst, fun e he => by cases he; simp [upd]⟩) rfl (Nat.le_refl _) (Nat.le_refl _)
      · have hqL : q = L := nI_inj (by omega) (by omega) c48
        have hpr : prs t L 80 0 = (cs, none) := by rw [hp]; simp [aftr, hqL]
        refine z_iconst (pc := 51) (v := 1) hC dX6_isValid_51 (by decide) ?_
        refine z_goto (pc := 52) hC 56 (by decide) dX6_isValid_52 ?_
        exact hE _ _ _ (F', upd V' 3 (nI q)) _ _ _ dX6_isValid_56 rfl (by rw [hpr]; exact ⟨rfl, ⟨hV.1, hV.2.1, hV.2.2⟩, hF, h5, by show cs.length ≤ 41; omega, hst, fun e he => by cases he⟩) rfl (Nat.le_refl _) (Nat.le_refl _)
    · have ha : at_ t L q 59 = true := bI_n.mp c25
      refine z_w (ws' := mW g.2 b R F' (upd V' 3 (nI (q + 1)))) (by rw [if_pos ha]) ?_
      have haL := (at_s ha).1
      refine z_aln (pc := 28) hC 1 rfl dX6_isValid_28 ?_
      refine z_i0 (pc := 29) (rest := []) hC vX6_readsCommand lX6_164 dX6_isValid_29 (m_readsCommand (F := F') (V := upd V' 3 (nI (q + 1))) (p := q + 1) (c := cs.length) (by rw [hF.2.2]; exact hT) hL (by simp [upd, hV.2.2, h2]) (by simp [upd]) haL (by simp [upd, h5]) (by omega)) rfl 0 6 rfl rfl rfl rfl rfl (by decide) (Nat.le_of_ble_eq_true rfl) ⟨Nat.le_refl _, Nat.le_refl _⟩ (fun r S hq2 => ?_)
      obtain ⟨rfl, q1, q2, q3, q4, q5, q6⟩ := hq2
      have hle := rdC_le (t := t) haL
      have hV2 : kpV V S.2 := kpV_tr hV ⟨q1.1, q1.2.1, q1.2.2⟩
      rcases hcd : rdC t L (q + 1) with ⟨_ | x, q'⟩
      · rw [hcd] at q2 q5 q6 hle
        dsimp only at q2 q5 q6 hle
        refine z_is_ (y := 0) rfl ?_
        refine z_isn (pc := 32) (lv' := [(1, .int 0), (0, .ref (b 0))]) hC hm (by decide) rfl dX6_isValid_32 ?_
        refine z_goto (pc := 33) hC 15 (by decide) dX6_isValid_33 ?_
        refine z_lv [0, 1] rfl ?_
        exact exit0 q' cs S.1 S.2 (by omega) (kpF_tr hF q3) hV2 q2 (q5 rfl) (stored_same q4 hst) (by rw [hp]; simp [aftr, Nat.not_le.mpr haL, ha, prs_n hcd hk haL])
      · rw [hcd] at q2 q5 q6 hle
        dsimp only at q2 q5 q6 hle
        obtain ⟨q7, q8⟩ := q6 x rfl
        refine z_is_ (y := 1) rfl ?_
        refine z_isn (pc := 32) (lv' := [(1, .int 1), (0, .ref (b 0))]) hC hm (by decide) rfl dX6_isValid_32 ?_
        refine z_goto (pc := 33) hC 15 (by decide) dX6_isValid_33 ?_
        have hgt := rdC_gt hcd
        obtain ⟨k', hk', hpc⟩ := prs_c hcd hk haL
        refine z_lv [0, 1] rfl ?_
        exact ih k' (by omega) q' (cs ++ [x]) S.1 S.2 (by omega) hle (by simp; omega) (kpF_tr hF q3) hV2 q2 (by simpa using q7) (stored_snoc q4 hst q8) (by rw [hp]; simp [aftr, Nat.not_le.mpr haL, ha, hpc])
  refine z_aln (pc := 0) hC 0 rfl dX6_isValid_0 ?_
  refine z_iconst (pc := 1) (v := nI 0) hC dX6_isValid_1 (by decide) ?_
  refine z_put (pc := 2) (ws' := mW g.2 b R F (upd V 3 (nI 0))) hC fX6_139 p6_7 0 rfl (Nat.le_of_ble_eq_true rfl) (mW_V 7 3 (by decide)) dX6_isValid_2 ?_
  refine z_aln (pc := 5) hC 0 rfl dX6_isValid_5 ?_
  refine z_iconst (pc := 6) (v := nI 0) hC dX6_isValid_6 (by decide) ?_
  refine z_put (pc := 7) (ws' := mW g.2 b R F (upd (upd V 3 (nI 0)) 5 (nI 0))) hC fX6_151 p6_9 0 rfl (Nat.le_of_ble_eq_true rfl) (mW_V 9 5 (by decide)) dX6_isValid_7 ?_
  refine z_aln (pc := 10) hC 0 rfl dX6_isValid_10 ?_
  refine z_i0 (pc := 11) (rest := []) hC vX6_readsCommand lX6_164 dX6_isValid_11 (m_readsCommand (V := upd (upd V 3 (nI 0)) 5 (nI 0)) (p := 0) (c := 0) hT hL (by simp [upd, h2]) (by simp [upd]) (Nat.zero_le _) (by simp [upd]) (by omega)) rfl 0 6 rfl rfl rfl rfl rfl (by decide) (Nat.le_of_ble_eq_true rfl) ⟨Nat.le_refl _, Nat.le_refl _⟩ (fun r S hq => ?_)
  obtain ⟨rfl, q1, q2, q3, q4, q5, q6⟩ := hq
  have hle := rdC_le (t := t) (L := L) (p := 0) (Nat.zero_le _)
  have hV : kpV V S.2 := ⟨q1.1, q1.2.1, q1.2.2⟩
  rcases hcd : rdC t L 0 with ⟨_ | x, q⟩
  · rw [hcd] at q2 q5 q6 hle
    dsimp only at q2 q5 q6 hle
    refine z_is_ (y := 0) rfl ?_
    refine z_isn (pc := 14) (lv' := [(1, .int 0), (0, .ref (b 0))]) hC hm (by decide) rfl dX6_isValid_14 ?_
    refine z_lv [0, 1] rfl ?_
    exact exit0 q [] S.1 S.2 (Nat.zero_le _) q3 hV q2 (q5 rfl) (fun i x h => by simp at h) (prs_n hcd (by omega) (Nat.zero_le _))
  · rw [hcd] at q2 q5 q6 hle
    dsimp only at q2 q5 q6 hle
    obtain ⟨q7, q8⟩ := q6 x rfl
    refine z_is_ (y := 1) rfl ?_
    refine z_isn (pc := 14) (lv' := [(1, .int 1), (0, .ref (b 0))]) hC hm (by decide) rfl dX6_isValid_14 ?_
    have hgt := rdC_gt hcd
    obtain ⟨k', hk', hpc⟩ := prs_c hcd (show L - 0 ≤ 80 by omega) (Nat.zero_le _)
    refine z_lv [0, 1] rfl ?_
    exact loop k' q [x] S.1 S.2 (by omega) hle (by simp; omega) q3 hV q2 q7 (stored_snoc (cs := []) q4 (fun i x h => by simp at h) q8) (by rw [hpc]; rfl)

set_option maxRecDepth 100000 in
set_option maxHeartbeats 4000000 in
theorem m_errorPosition {g : zG} {b : Nat → Nat} {R : St} {F : Nat → Nat → Int32} {V : Nat → Int32} {t : Nat → Nat} {L : Nat} (hT : tOK (F 2) t L) (hL : L ≤ 80) (h2 : V 2 = nI L) : FI (S := (Nat → Nat → Int32) × (Nat → Int32)) g yX6_errorPosition cX6_errorPosition 1 .int 5 0 0 [.ref (b 0)] (mW g.2 b R F V) (fun r (S : (Nat → Nat → Int32) × (Nat → Int32)) => r = errV (prs t L 80 0).2 ∧ S.2 0 = V 0 ∧ S.2 1 = 0 ∧ S.2 2 = V 2 ∧ kpF F S.1) (fun S => mW g.2 b R S.1 S.2) := by
  refine fi_entry (by decide) (Nat.le_of_ble_eq_true rfl) (fun C hC hm hE => ?_)
  refine z_aln (pc := 0) hC 0 rfl dX6_errorPosition_0 ?_
  refine z_iconst (pc := 1) (v := 0) hC dX6_errorPosition_1 (by decide) ?_
  refine z_put (pc := 2) (ws' := mW g.2 b R F (upd V 1 0)) hC fX6_38 p6_4 0 rfl (Nat.le_of_ble_eq_true rfl) (mW_V 4 1 (by decide)) dX6_errorPosition_2 ?_
  refine z_aln (pc := 5) hC 0 rfl dX6_errorPosition_5 ?_
  refine z_i0 (pc := 6) (rest := []) hC vX6_isValid lX6_167 dX6_errorPosition_6 (m_isValid (V := upd V 1 0) hT hL (by simp [upd, h2])) rfl 0 6 rfl rfl rfl rfl rfl (by decide) (Nat.le_of_ble_eq_true rfl) ⟨Nat.le_refl _, Nat.le_refl _⟩ (fun r S hq => ?_)
  obtain ⟨rfl, q1, q2, q3, q4, q5, q6⟩ := hq
  have k0 : S.2 0 = V 0 := q1.1
  have k1 : S.2 1 = 0 := q1.2.1
  have k2 : S.2 2 = V 2 := q1.2.2
  refine z_ifeq (pc := 9) hC 16 (by decide) dX6_errorPosition_9 (fun c9 => ?_) (fun c9 => ?_)
  · obtain ⟨e, he⟩ : ∃ e, (prs t L 80 0).2 = some e := by
      cases h : (prs t L 80 0).2 with
      | none => rw [h] at c9; exact absurd c9 (by decide)
      | some e => exact ⟨e, rfl⟩
    refine z_aln (pc := 16) hC 0 rfl dX6_errorPosition_16 ?_
    refine z_get (pc := 17) hC fX6_139 0 rfl rfl dX6_errorPosition_17 ?_
    exact hE _ _ _ S _ _ _ dX6_errorPosition_20 rfl ⟨by rw [he]; exact q6 e he, k0, k1, k2, q2⟩ rfl (Nat.le_refl _) (Nat.le_refl _)
  · have he : (prs t L 80 0).2 = none := by simpa using bI_n.mp c9
    refine z_iconst (pc := 12) (v := -1) hC dX6_errorPosition_12 (by decide) ?_
    refine z_goto (pc := 13) hC 20 (by decide) dX6_errorPosition_13 ?_
    exact hE _ _ _ S _ _ _ dX6_errorPosition_20 rfl ⟨by rw [he]; rfl, k0, k1, k2, q2⟩ rfl (Nat.le_refl _) (Nat.le_refl _)
