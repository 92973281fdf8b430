/-- what the reference sees at p -/
def sgC (t : Nat → Nat) (L p : Nat) : Int32 := if p < L then nI (t p) else 0
theorem sgC_is {t : Nat → Nat} {L p x : Nat} (h : p < L ∧ t p = x) : sgC t L p = nI x := by rw [sgC, if_pos h.1, h.2]
theorem sgC_eq {t : Nat → Nat} {L p x : Nat} (ht : ∀ q, q < L → t q < 1000) (hx : x < 1000) (h0 : 0 < x) : sgC t L p = nI x ↔ at_ t L p x = true := by
  unfold sgC at_
  by_cases h : p < L
  · have := ht p h
    rw [if_pos h, nI_eq (by omega) (by omega)]; simp [h]
  · rw [if_neg h]
    simp [h]
    exact fun e => by have := nI_inj (a := 0) (by omega) (by omega) e; omega
theorem inB_sg {t : Nat → Nat} {L p lo : Nat} (ht : ∀ q, q < L → t q < 1000) (h0 : 0 < lo) (h1 : lo < 1000) : inB (sgC t L p) (nI lo) 57 = true ↔ (p < L ∧ lo ≤ t p ∧ t p ≤ 57) := by
  rw [inB_iff]; unfold sgC
  by_cases h : p < L
  · have := ht p h
    rw [if_pos h, nI_leI (by omega) (by omega), show (57 : Int32) = nI 57 from rfl, nI_leI (by omega) (by omega)]
    simp [h]
  · rw [if_neg h]
    constructor
    · intro z
      have := (nI_leI (a := lo) (b := 0) (by omega) (by omega)).mp z.1
      omega
    · intro z; exact absurd z.1 h
theorem upd43 (V : Nat → Int32) (n p n' p' : Int32) : upd (upd (upd (upd V 4 n) 3 p) 4 n') 3 p' = upd (upd V 4 n') 3 p' := by
  funext j; simp only [upd]
  by_cases h3 : j = 3
  · simp [h3]
  · by_cases h4 : j = 4
    · simp [h4]
    · simp [h3, h4]
theorem upd40 {V : Nat → Int32} {p : Int32} (h : V 3 = p) (n : Int32) : upd V 4 n = upd (upd V 4 n) 3 p := by
  funext j; simp only [upd]
  by_cases h3 : j = 3
  · simp [h3, h]
  · simp [h3]

set_option maxRecDepth 100000 in
set_option maxHeartbeats 4000000 in
theorem m_sign {g : zG} {b : Nat → Nat} {R : St} {F : Nat → Nat → Int32} {V : Nat → Int32} {t : Nat → Nat} {L p : Nat} (hT : tOK (F 2) t L) (hL : L ≤ 80) (h2 : V 2 = nI L) (h3 : V 3 = nI p) (hp : p ≤ L) : Gi g yX6_sign cX6_sign 1 .int 0 [.ref (b 0)] (mW g.2 b R F V) (sgC t L p) (mW g.2 b R F V) := by
  refine fi_entry (by decide) (Nat.le_of_ble_eq_true rfl) (fun C hC hm hE => ?_)
  refine z_aln (pc := 0) hC 0 rfl dX6_sign_0 ?_
  refine z_get (pc := 1) hC fX6_139 0 rfl rfl dX6_sign_1 ?_
  refine z_is_ (y := nI p) h3 ?_
  refine z_aln (pc := 4) hC 0 rfl dX6_sign_4 ?_
  refine z_get (pc := 5) hC fX6_136 0 rfl rfl dX6_sign_5 ?_
  refine z_is_ (y := nI L) h2 ?_
  refine z_icge (pc := 8) hC 23 (by decide) dX6_sign_8 (fun c8 => ?_) (fun c8 => ?_)
  · have hlt : ¬ p < L := fun z => absurd ((nI_leI (by omega) (by omega)).mp c8) (by omega)
    refine z_iconst (pc := 23) (v := 0) hC dX6_sign_23 (by decide) ?_
    exact hE _ _ _ () _ _ _ dX6_sign_24 rfl (by rw [sgC, if_neg hlt]) rfl (Nat.le_refl _) (Nat.le_refl _)
  · have hlt : p < L := Nat.lt_of_not_le (fun z => c8 ((nI_leI (by omega) (by omega)).mpr z))
    refine z_aln (pc := 11) hC 0 rfl dX6_sign_11 ?_
    refine z_get (pc := 12) hC fX6_19 0 rfl rfl dX6_sign_12 ?_
    refine z_aln (pc := 15) hC 0 rfl dX6_sign_15 ?_
    refine z_get (pc := 16) hC fX6_139 0 rfl rfl dX6_sign_16 ?_
    refine z_is_ (y := nI p) h3 ?_
    refine z_iald (pc := 19) hC 4 rfl dX6_sign_19 p rfl (by omega) (by decide) ?_
    refine z_is_ (y := nI (t p)) (hT p hlt).1 ?_
    refine z_goto (pc := 20) hC 24 (by decide) dX6_sign_20 ?_
    exact hE _ _ _ () _ _ _ dX6_sign_24 rfl (by rw [sgC, if_pos hlt]) rfl (Nat.le_refl _) (Nat.le_refl _)

set_option maxRecDepth 100000 in
set_option maxHeartbeats 4000000 in
theorem m_takes {g : zG} {b : Nat → Nat} {R : St} {F : Nat → Nat → Int32} {V : Nat → Int32} {t : Nat → Nat} {L p : Nat} {x : Nat} (hT : tOK (F 2) t L) (hL : L ≤ 80) (h2 : V 2 = nI L) (h3 : V 3 = nI p) (hp : p ≤ L) (hx : x < 1000) (h0 : 0 < x) : Gi g yX6_takes cX6_takes 3 .boolean 1 [.ref (b 0), .int (nI x)] (mW g.2 b R F V) (bI (at_ t L p x)) (mW g.2 b R F (upd V 3 (nI (if at_ t L p x = true then p + 1 else p)))) := by
  refine fi_entry (by decide) (Nat.le_of_ble_eq_true rfl) (fun C hC hm hE => ?_)
  refine z_aln (pc := 0) hC 0 rfl dX6_takes_0 ?_
  refine z_g (pc := 1) (rest := []) hC vX6_sign lX6_142 dX6_takes_1 (m_sign hT hL h2 h3 hp) (fun w => w) isCtx_id rfl 0 6 rfl rfl rfl rfl rfl (by decide) (Nat.le_of_ble_eq_true rfl) ⟨Nat.le_refl _, Nat.le_refl _⟩ ?_
  refine z_iln (pc := 4) hC 1 rfl dX6_takes_4 ?_
  refine z_icne (pc := 5) hC 12 (by decide) dX6_takes_5 (fun c5 => ?_) (fun c5 => ?_)
  · refine z_iconst (pc := 12) (v := 0) hC dX6_takes_12 (by decide) ?_
    refine z_isn (pc := 13) (lv' := [(2, .int 0), (0, .ref (b 0)), (1, .int (nI x))]) hC hm (by decide) rfl dX6_takes_13 ?_
    refine z_aln (pc := 14) hC 1 rfl dX6_takes_14 ?_
    refine z_dup (pc := 15) hC rfl dX6_takes_15 ?_
    refine z_get (pc := 16) hC fX6_139 0 rfl rfl dX6_takes_16 ?_
    refine z_is_ (y := nI p) h3 ?_
    refine z_iln (pc := 19) hC 0 rfl dX6_takes_19 ?_
    refine z_ifeq (pc := 20) hC 27 (by decide) dX6_takes_20 (fun c20 => ?_) (fun c20 => absurd c20 (by decide))
    refine z_iconst (pc := 27) (v := 0) hC dX6_takes_27 (by decide) ?_
    refine z_iadd (pc := 28) (v := nI p) hC (Int32.add_zero _) dX6_takes_28 ?_
    refine z_put (pc := 29) (ws' := mW g.2 b R F (upd V 3 (nI p))) hC fX6_139 p6_7 0 rfl (Nat.le_of_ble_eq_true rfl) (mW_V 7 3 (by decide)) dX6_takes_29 ?_
    refine z_iln (pc := 32) hC 0 rfl dX6_takes_32 ?_
    exact hE _ _ _ () _ _ _ dX6_takes_33 rfl (bI_f (by simpa using fun z => c5 ((sgC_eq hT.lt hx h0).mpr z))) (by rw [if_neg (fun z => c5 ((sgC_eq hT.lt hx h0).mpr z))]) (Nat.le_refl _) (Nat.le_refl _)
  · refine z_iconst (pc := 8) (v := 1) hC dX6_takes_8 (by decide) ?_
    refine z_goto (pc := 9) hC 13 (by decide) dX6_takes_9 ?_
    refine z_isn (pc := 13) (lv' := [(2, .int 1), (0, .ref (b 0)), (1, .int (nI x))]) hC hm (by decide) rfl dX6_takes_13 ?_
    refine z_aln (pc := 14) hC 1 rfl dX6_takes_14 ?_
    refine z_dup (pc := 15) hC rfl dX6_takes_15 ?_
    refine z_get (pc := 16) hC fX6_139 0 rfl rfl dX6_takes_16 ?_
    refine z_is_ (y := nI p) h3 ?_
    refine z_iln (pc := 19) hC 0 rfl dX6_takes_19 ?_
    refine z_ifeq (pc := 20) hC 27 (by decide) dX6_takes_20 (fun c20 => absurd c20 (by decide)) (fun c20 => ?_)
    refine z_iconst (pc := 23) (v := 1) hC dX6_takes_23 (by decide) ?_
    refine z_goto (pc := 24) hC 28 (by decide) dX6_takes_24 ?_
    refine z_iadd (pc := 28) (v := nI (p + 1)) hC (nI_1 p) dX6_takes_28 ?_
    refine z_put (pc := 29) (ws' := mW g.2 b R F (upd V 3 (nI (p + 1)))) hC fX6_139 p6_7 0 rfl (Nat.le_of_ble_eq_true rfl) (mW_V 7 3 (by decide)) dX6_takes_29 ?_
    refine z_iln (pc := 32) hC 0 rfl dX6_takes_32 ?_
    exact hE _ _ _ () _ _ _ dX6_takes_33 rfl (bI_t ((sgC_eq hT.lt hx h0).mp c5)) (by rw [if_pos ((sgC_eq hT.lt hx h0).mp c5)]) (Nat.le_refl _) (Nat.le_refl _)

set_option maxRecDepth 100000 in
set_option maxHeartbeats 4000000 in
theorem m_readsNumber {g : zG} {b : Nat → Nat} {R : St} {F : Nat → Nat → Int32} {V : Nat → Int32} {t : Nat → Nat} {L p : Nat} {hi : Nat} (hT : tOK (F 2) t L) (hL : L ≤ 80) (h2 : V 2 = nI L) (h3 : V 3 = nI p) (hp : p ≤ L) (hhi : hi ≤ 99) : Gi g yX6_readsNumber cX6_readsNumber 2 .boolean 1 [.ref (b 0), .int (nI hi)] (mW g.2 b R F V) (bI (decide (0 < (rdN t L hi (L - p) p 0).2))) (mW g.2 b R F (upd (upd V 4 (nI (rdN t L hi (L - p) p 0).2)) 3 (nI (rdN t L hi (L - p) p 0).1))) := by
  refine fi_entry (by decide) (Nat.le_of_ble_eq_true rfl) (fun C hC hm hE => ?_)
  obtain ⟨rr, hrr⟩ : ∃ rr, rr = rdN t L hi (L - p) p 0 := ⟨_, rfl⟩
  rw [← hrr] at hE
  have loop : ∀ (k p n : Nat), L - p = k → p ≤ L → n ≤ hi → rdN t L hi k p n = rr → Z g C 0 0 (mW g.2 b R F (upd (upd V 4 (nI n)) 3 (nI p))) [(0, .ref (b 0)), (1, .int (nI hi))] 5 [] := by
    intro k
    induction k with
    | zero =>
      intro p n hk hp hn hr
      refine z_aln (pc := 5) hC 0 rfl dX6_readsNumber_5 ?_
      refine z_g (pc := 6) (rest := []) hC vX6_sign lX6_142 dX6_readsNumber_6 (m_sign (V := upd (upd V 4 (nI n)) 3 (nI p)) hT hL (by simp [upd, h2]) (by simp [upd]) hp) (fun w => w) isCtx_id rfl 0 6 rfl rfl rfl rfl rfl (by decide) (Nat.le_of_ble_eq_true rfl) ⟨Nat.le_refl _, Nat.le_refl _⟩ ?_
      refine z_aln (pc := 9) hC 0 rfl dX6_readsNumber_9 ?_
      refine z_get (pc := 10) hC fX6_145 0 rfl rfl dX6_readsNumber_10 ?_
      refine z_is_ (y := nI n) (by simp [upd]) ?_
      by_cases hn0 : n = 0
      · refine z_ifne (pc := 13) hC 21 (by decide) dX6_readsNumber_13 (fun c13 => absurd hn0 (fun z => c13 (by rw [z]; rfl))) (fun c13 => ?_)
        refine z_bipush (pc := 16) (v := 49) hC dX6_readsNumber_16 (by decide) ?_
        refine z_goto (pc := 18) hC 23 (by decide) dX6_readsNumber_18 ?_
        refine z_bipush (pc := 23) (v := 57) hC dX6_readsNumber_23 (by decide) ?_
        refine z_gs (pc := 25) (rest := []) hC sX6_in lX6_42 dX6_readsNumber_25 (m_in (x := sgC t L p) (y := 49) (z := 57)) rfl rfl (by decide) (Nat.le_of_ble_eq_true rfl) ⟨Nat.le_refl _, Nat.le_refl _⟩ ?_
        refine z_ifeq (pc := 28) hC 82 (by decide) dX6_readsNumber_28 (fun c28 => ?_) (fun c28 => absurd ((inB_sg (lo := 49) hT.lt (by omega) (by omega)).mp (bI_n.mp c28)).1 (by omega))
        refine z_aln (pc := 82) hC 0 rfl dX6_readsNumber_82 ?_
        refine z_get (pc := 83) hC fX6_145 0 rfl rfl dX6_readsNumber_83 ?_
        refine z_is_ (y := nI n) (by simp [upd]) ?_
        refine z_ifle (pc := 86) hC 93 (by decide) dX6_readsNumber_86 (fun c86 => ?_) (fun c86 => ?_)
        · have hz : n = 0 := (nI_gt0 (by omega)).mp c86
          refine z_iconst (pc := 93) (v := 0) hC dX6_readsNumber_93 (by decide) ?_
          exact hE _ _ _ () _ _ _ dX6_readsNumber_94 rfl (bI_f (by rw [← hr, rdN_f (Or.inl rfl)]; simpa using hz)) (by rw [← hr, rdN_f (Or.inl rfl)]) (Nat.le_refl _) (Nat.le_refl _)
        · have hz : ¬ n = 0 := fun e => c86 (by rw [e]; decide)
          refine z_iconst (pc := 89) (v := 1) hC dX6_readsNumber_89 (by decide) ?_
          refine z_goto (pc := 90) hC 94 (by decide) dX6_readsNumber_90 ?_
          exact hE _ _ _ () _ _ _ dX6_readsNumber_94 rfl (bI_t (by rw [← hr, rdN_f (Or.inl rfl)]; exact decide_eq_true (Nat.pos_of_ne_zero hz))) (by rw [← hr, rdN_f (Or.inl rfl)]) (Nat.le_refl _) (Nat.le_refl _)
      · refine z_ifne (pc := 13) hC 21 (by decide) dX6_readsNumber_13 (fun c13 => ?_) (fun c13 => absurd (nI_inj (b := 0) (by omega) (by omega) c13) hn0)
        refine z_bipush (pc := 21) (v := 48) hC dX6_readsNumber_21 (by decide) ?_
        refine z_bipush (pc := 23) (v := 57) hC dX6_readsNumber_23 (by decide) ?_
        refine z_gs (pc := 25) (rest := []) hC sX6_in lX6_42 dX6_readsNumber_25 (m_in (x := sgC t L p) (y := 48) (z := 57)) rfl rfl (by decide) (Nat.le_of_ble_eq_true rfl) ⟨Nat.le_refl _, Nat.le_refl _⟩ ?_
        refine z_ifeq (pc := 28) hC 82 (by decide) dX6_readsNumber_28 (fun c28 => ?_) (fun c28 => absurd ((inB_sg (lo := 48) hT.lt (by omega) (by omega)).mp (bI_n.mp c28)).1 (by omega))
        refine z_aln (pc := 82) hC 0 rfl dX6_readsNumber_82 ?_
        refine z_get (pc := 83) hC fX6_145 0 rfl rfl dX6_readsNumber_83 ?_
        refine z_is_ (y := nI n) (by simp [upd]) ?_
        refine z_ifle (pc := 86) hC 93 (by decide) dX6_readsNumber_86 (fun c86 => ?_) (fun c86 => ?_)
        · have hz : n = 0 := (nI_gt0 (by omega)).mp c86
          refine z_iconst (pc := 93) (v := 0) hC dX6_readsNumber_93 (by decide) ?_
          exact hE _ _ _ () _ _ _ dX6_readsNumber_94 rfl (bI_f (by rw [← hr, rdN_f (Or.inl rfl)]; simpa using hz)) (by rw [← hr, rdN_f (Or.inl rfl)]) (Nat.le_refl _) (Nat.le_refl _)
        · have hz : ¬ n = 0 := fun e => c86 (by rw [e]; decide)
          refine z_iconst (pc := 89) (v := 1) hC dX6_readsNumber_89 (by decide) ?_
          refine z_goto (pc := 90) hC 94 (by decide) dX6_readsNumber_90 ?_
          exact hE _ _ _ () _ _ _ dX6_readsNumber_94 rfl (bI_t (by rw [← hr, rdN_f (Or.inl rfl)]; exact decide_eq_true (Nat.pos_of_ne_zero hz))) (by rw [← hr, rdN_f (Or.inl rfl)]) (Nat.le_refl _) (Nat.le_refl _)
    | succ k ih =>
      intro p n hk hp hn hr
      refine z_aln (pc := 5) hC 0 rfl dX6_readsNumber_5 ?_
      refine z_g (pc := 6) (rest := []) hC vX6_sign lX6_142 dX6_readsNumber_6 (m_sign (V := upd (upd V 4 (nI n)) 3 (nI p)) hT hL (by simp [upd, h2]) (by simp [upd]) hp) (fun w => w) isCtx_id rfl 0 6 rfl rfl rfl rfl rfl (by decide) (Nat.le_of_ble_eq_true rfl) ⟨Nat.le_refl _, Nat.le_refl _⟩ ?_
      refine z_aln (pc := 9) hC 0 rfl dX6_readsNumber_9 ?_
      refine z_get (pc := 10) hC fX6_145 0 rfl rfl dX6_readsNumber_10 ?_
      refine z_is_ (y := nI n) (by simp [upd]) ?_
      by_cases hn0 : n = 0
      · refine z_ifne (pc := 13) hC 21 (by decide) dX6_readsNumber_13 (fun c13 => absurd hn0 (fun z => c13 (by rw [z]; rfl))) (fun c13 => ?_)
        refine z_bipush (pc := 16) (v := 49) hC dX6_readsNumber_16 (by decide) ?_
        refine z_goto (pc := 18) hC 23 (by decide) dX6_readsNumber_18 ?_
        refine z_bipush (pc := 23) (v := 57) hC dX6_readsNumber_23 (by decide) ?_
        refine z_gs (pc := 25) (rest := []) hC sX6_in lX6_42 dX6_readsNumber_25 (m_in (x := sgC t L p) (y := 49) (z := 57)) rfl rfl (by decide) (Nat.le_of_ble_eq_true rfl) ⟨Nat.le_refl _, Nat.le_refl _⟩ ?_
        refine z_ifeq (pc := 28) hC 82 (by decide) dX6_readsNumber_28 (fun c28 => ?_) (fun c28 => ?_)
        · refine z_aln (pc := 82) hC 0 rfl dX6_readsNumber_82 ?_
          refine z_get (pc := 83) hC fX6_145 0 rfl rfl dX6_readsNumber_83 ?_
          refine z_is_ (y := nI n) (by simp [upd]) ?_
          refine z_ifle (pc := 86) hC 93 (by decide) dX6_readsNumber_86 (fun c86 => ?_) (fun c86 => ?_)
          · have hz : n = 0 := (nI_gt0 (by omega)).mp c86
            refine z_iconst (pc := 93) (v := 0) hC dX6_readsNumber_93 (by decide) ?_
            exact hE _ _ _ () _ _ _ dX6_readsNumber_94 rfl (bI_f (by rw [← hr, rdN_f (Or.inr (fun z => bI_n.mpr ((inB_sg (p := p) (lo := 49) hT.lt (by omega) (by omega)).mpr (by have := dgO_s z.1; have := z.2.1; omega)) c28))]; simpa using hz)) (by rw [← hr, rdN_f (Or.inr (fun z => bI_n.mpr ((inB_sg (p := p) (lo := 49) hT.lt (by omega) (by omega)).mpr (by have := dgO_s z.1; have := z.2.1; omega)) c28))]) (Nat.le_refl _) (Nat.le_refl _)
          · have hz : ¬ n = 0 := fun e => c86 (by rw [e]; decide)
            refine z_iconst (pc := 89) (v := 1) hC dX6_readsNumber_89 (by decide) ?_
            refine z_goto (pc := 90) hC 94 (by decide) dX6_readsNumber_90 ?_
            exact hE _ _ _ () _ _ _ dX6_readsNumber_94 rfl (bI_t (by rw [← hr, rdN_f (Or.inr (fun z => bI_n.mpr ((inB_sg (p := p) (lo := 49) hT.lt (by omega) (by omega)).mpr (by have := dgO_s z.1; have := z.2.1; omega)) c28))]; exact decide_eq_true (Nat.pos_of_ne_zero hz))) (by rw [← hr, rdN_f (Or.inr (fun z => bI_n.mpr ((inB_sg (p := p) (lo := 49) hT.lt (by omega) (by omega)).mpr (by have := dgO_s z.1; have := z.2.1; omega)) c28))]) (Nat.le_refl _) (Nat.le_refl _)
        · obtain ⟨hlt, hd1, hd2⟩ := (inB_sg (lo := 49) hT.lt (by omega) (by omega)).mp (bI_n.mp c28)
          refine z_bipush (pc := 31) (v := nI 10) hC dX6_readsNumber_31 (by decide) ?_
          refine z_aln (pc := 33) hC 0 rfl dX6_readsNumber_33 ?_
          refine z_get (pc := 34) hC fX6_145 0 rfl rfl dX6_readsNumber_34 ?_
          refine z_is_ (y := nI n) (by simp [upd]) ?_
          refine z_imul (pc := 37) (v := nI (10 * n)) hC (pk_mul 10 n) dX6_readsNumber_37 ?_
          refine z_aln (pc := 38) hC 0 rfl dX6_readsNumber_38 ?_
          refine z_g (pc := 39) (rest := [.int (nI (10 * n))]) hC vX6_sign lX6_142 dX6_readsNumber_39 (m_sign (V := upd (upd V 4 (nI n)) 3 (nI p)) hT hL (by simp [upd, h2]) (by simp [upd]) hp) (fun w => w) isCtx_id rfl 0 6 rfl rfl rfl rfl rfl (by decide) (Nat.le_of_ble_eq_true rfl) ⟨Nat.le_refl _, Nat.le_refl _⟩ ?_
          refine z_is_ (y := nI (t p)) (sgC_is ⟨hlt, rfl⟩) ?_
          refine z_iadd (pc := 42) (v := nI (10 * n + t p)) hC (nI_add _ _) dX6_readsNumber_42 ?_
          refine z_bipush (pc := 43) (v := nI 48) hC dX6_readsNumber_43 (by decide) ?_
          refine z_isub (pc := 45) (v := nI (10 * n + (t p - 48))) hC (by rw [← Nat.add_sub_assoc (show 48 ≤ t p by omega)]; exact pk_sub (by omega)) dX6_readsNumber_45 ?_
          refine z_iln (pc := 46) hC 1 rfl dX6_readsNumber_46 ?_
          refine z_icgt (pc := 47) hC 82 (by decide) dX6_readsNumber_47 (fun c47 => ?_) (fun c47 => ?_)
          · refine z_aln (pc := 82) hC 0 rfl dX6_readsNumber_82 ?_
            refine z_get (pc := 83) hC fX6_145 0 rfl rfl dX6_readsNumber_83 ?_
            refine z_is_ (y := nI n) (by simp [upd]) ?_
            refine z_ifle (pc := 86) hC 93 (by decide) dX6_readsNumber_86 (fun c86 => ?_) (fun c86 => ?_)
            · have hz : n = 0 := (nI_gt0 (by omega)).mp c86
              refine z_iconst (pc := 93) (v := 0) hC dX6_readsNumber_93 (by decide) ?_
              exact hE _ _ _ () _ _ _ dX6_readsNumber_94 rfl (bI_f (by rw [← hr, rdN_f (Or.inr (fun z => absurd ((nI_ltI (by omega) (by omega)).mp c47) (by omega)))]; simpa using hz)) (by rw [← hr, rdN_f (Or.inr (fun z => absurd ((nI_ltI (by omega) (by omega)).mp c47) (by omega)))]) (Nat.le_refl _) (Nat.le_refl _)
            · have hz : ¬ n = 0 := fun e => c86 (by rw [e]; decide)
              refine z_iconst (pc := 89) (v := 1) hC dX6_readsNumber_89 (by decide) ?_
              refine z_goto (pc := 90) hC 94 (by decide) dX6_readsNumber_90 ?_
              exact hE _ _ _ () _ _ _ dX6_readsNumber_94 rfl (bI_t (by rw [← hr, rdN_f (Or.inr (fun z => absurd ((nI_ltI (by omega) (by omega)).mp c47) (by omega)))]; exact decide_eq_true (Nat.pos_of_ne_zero hz))) (by rw [← hr, rdN_f (Or.inr (fun z => absurd ((nI_ltI (by omega) (by omega)).mp c47) (by omega)))]) (Nat.le_refl _) (Nat.le_refl _)
          · have hh : 10 * n + (t p - 48) ≤ hi := Nat.le_of_not_lt (fun z => c47 ((nI_ltI (by omega) (by omega)).mpr z))
            refine z_aln (pc := 50) hC 0 rfl dX6_readsNumber_50 ?_
            refine z_bipush (pc := 51) (v := nI 10) hC dX6_readsNumber_51 (by decide) ?_
            refine z_aln (pc := 53) hC 0 rfl dX6_readsNumber_53 ?_
            refine z_get (pc := 54) hC fX6_145 0 rfl rfl dX6_readsNumber_54 ?_
            refine z_is_ (y := nI n) (by simp [upd]) ?_
            refine z_imul (pc := 57) (v := nI (10 * n)) hC (pk_mul 10 n) dX6_readsNumber_57 ?_
            refine z_aln (pc := 58) hC 0 rfl dX6_readsNumber_58 ?_
            refine z_g (pc := 59) (rest := [.int (nI (10 * n)), .ref (b 0)]) hC vX6_sign lX6_142 dX6_readsNumber_59 (m_sign (V := upd (upd V 4 (nI n)) 3 (nI p)) hT hL (by simp [upd, h2]) (by simp [upd]) hp) (fun w => w) isCtx_id rfl 0 6 rfl rfl rfl rfl rfl (by decide) (Nat.le_of_ble_eq_true rfl) ⟨Nat.le_refl _, Nat.le_refl _⟩ ?_
            refine z_is_ (y := nI (t p)) (sgC_is ⟨hlt, rfl⟩) ?_
            refine z_iadd (pc := 62) (v := nI (10 * n + t p)) hC (nI_add _ _) dX6_readsNumber_62 ?_
            refine z_bipush (pc := 63) (v := nI 48) hC dX6_readsNumber_63 (by decide) ?_
            refine z_isub (pc := 65) (v := nI (10 * n + (t p - 48))) hC (by rw [← Nat.add_sub_assoc (show 48 ≤ t p by omega)]; exact pk_sub (by omega)) dX6_readsNumber_65 ?_
            refine z_put (pc := 66) (ws' := mW g.2 b R F (upd (upd (upd V 4 (nI n)) 3 (nI p)) 4 (nI (10 * n + (t p - 48))))) hC fX6_145 p6_8 0 rfl (Nat.le_of_ble_eq_true rfl) (mW_V 8 4 (by decide)) dX6_readsNumber_66 ?_
            refine z_aln (pc := 69) hC 0 rfl dX6_readsNumber_69 ?_
            refine z_dup (pc := 70) hC rfl dX6_readsNumber_70 ?_
            refine z_get (pc := 71) hC fX6_139 0 rfl rfl dX6_readsNumber_71 ?_
            refine z_is_ (y := nI p) (by simp [upd]) ?_
            refine z_iconst (pc := 74) (v := 1) hC dX6_readsNumber_74 (by decide) ?_
            refine z_iadd (pc := 75) (v := nI (p + 1)) hC (nI_1 p) dX6_readsNumber_75 ?_
            refine z_put (pc := 76) (ws' := mW g.2 b R F (upd (upd (upd (upd V 4 (nI n)) 3 (nI p)) 4 (nI (10 * n + (t p - 48)))) 3 (nI (p + 1)))) hC fX6_139 p6_7 0 rfl (Nat.le_of_ble_eq_true rfl) (mW_V 7 3 (by decide)) dX6_readsNumber_76 ?_
            refine z_goto (pc := 79) hC 5 (by decide) dX6_readsNumber_79 ?_
            refine z_w (ws' := mW g.2 b R F (upd (upd V 4 (nI (10 * n + (t p - 48)))) 3 (nI (p + 1)))) (by rw [upd43]) ?_
            refine z_lv [0, 1] rfl ?_
            exact ih (p + 1) (10 * n + (t p - 48)) (by omega) (by omega) hh (by rw [← hr, rdN_t (by simp [dgO]; omega) (by omega) hh])
      · refine z_ifne (pc := 13) hC 21 (by decide) dX6_readsNumber_13 (fun c13 => ?_) (fun c13 => absurd (nI_inj (b := 0) (by omega) (by omega) c13) hn0)
        refine z_bipush (pc := 21) (v := 48) hC dX6_readsNumber_21 (by decide) ?_
        refine z_bipush (pc := 23) (v := 57) hC dX6_readsNumber_23 (by decide) ?_
        refine z_gs (pc := 25) (rest := []) hC sX6_in lX6_42 dX6_readsNumber_25 (m_in (x := sgC t L p) (y := 48) (z := 57)) rfl rfl (by decide) (Nat.le_of_ble_eq_true rfl) ⟨Nat.le_refl _, Nat.le_refl _⟩ ?_
        refine z_ifeq (pc := 28) hC 82 (by decide) dX6_readsNumber_28 (fun c28 => ?_) (fun c28 => ?_)
        · refine z_aln (pc := 82) hC 0 rfl dX6_readsNumber_82 ?_
          refine z_get (pc := 83) hC fX6_145 0 rfl rfl dX6_readsNumber_83 ?_
          refine z_is_ (y := nI n) (by simp [upd]) ?_
          refine z_ifle (pc := 86) hC 93 (by decide) dX6_readsNumber_86 (fun c86 => ?_) (fun c86 => ?_)
          · have hz : n = 0 := (nI_gt0 (by omega)).mp c86
            refine z_iconst (pc := 93) (v := 0) hC dX6_readsNumber_93 (by decide) ?_
            exact hE _ _ _ () _ _ _ dX6_readsNumber_94 rfl (bI_f (by rw [← hr, rdN_f (Or.inr (fun z => bI_n.mpr ((inB_sg (p := p) (lo := 48) hT.lt (by omega) (by omega)).mpr (dgO_s z.1)) c28))]; simpa using hz)) (by rw [← hr, rdN_f (Or.inr (fun z => bI_n.mpr ((inB_sg (p := p) (lo := 48) hT.lt (by omega) (by omega)).mpr (dgO_s z.1)) c28))]) (Nat.le_refl _) (Nat.le_refl _)
          · have hz : ¬ n = 0 := fun e => c86 (by rw [e]; decide)
            refine z_iconst (pc := 89) (v := 1) hC dX6_readsNumber_89 (by decide) ?_
            refine z_goto (pc := 90) hC 94 (by decide) dX6_readsNumber_90 ?_
            exact hE _ _ _ () _ _ _ dX6_readsNumber_94 rfl (bI_t (by rw [← hr, rdN_f (Or.inr (fun z => bI_n.mpr ((inB_sg (p := p) (lo := 48) hT.lt (by omega) (by omega)).mpr (dgO_s z.1)) c28))]; exact decide_eq_true (Nat.pos_of_ne_zero hz))) (by rw [← hr, rdN_f (Or.inr (fun z => bI_n.mpr ((inB_sg (p := p) (lo := 48) hT.lt (by omega) (by omega)).mpr (dgO_s z.1)) c28))]) (Nat.le_refl _) (Nat.le_refl _)
        · obtain ⟨hlt, hd1, hd2⟩ := (inB_sg (lo := 48) hT.lt (by omega) (by omega)).mp (bI_n.mp c28)
          refine z_bipush (pc := 31) (v := nI 10) hC dX6_readsNumber_31 (by decide) ?_
          refine z_aln (pc := 33) hC 0 rfl dX6_readsNumber_33 ?_
          refine z_get (pc := 34) hC fX6_145 0 rfl rfl dX6_readsNumber_34 ?_
          refine z_is_ (y := nI n) (by simp [upd]) ?_
          refine z_imul (pc := 37) (v := nI (10 * n)) hC (pk_mul 10 n) dX6_readsNumber_37 ?_
          refine z_aln (pc := 38) hC 0 rfl dX6_readsNumber_38 ?_
          refine z_g (pc := 39) (rest := [.int (nI (10 * n))]) hC vX6_sign lX6_142 dX6_readsNumber_39 (m_sign (V := upd (upd V 4 (nI n)) 3 (nI p)) hT hL (by simp [upd, h2]) (by simp [upd]) hp) (fun w => w) isCtx_id rfl 0 6 rfl rfl rfl rfl rfl (by decide) (Nat.le_of_ble_eq_true rfl) ⟨Nat.le_refl _, Nat.le_refl _⟩ ?_
          refine z_is_ (y := nI (t p)) (sgC_is ⟨hlt, rfl⟩) ?_
          refine z_iadd (pc := 42) (v := nI (10 * n + t p)) hC (nI_add _ _) dX6_readsNumber_42 ?_
          refine z_bipush (pc := 43) (v := nI 48) hC dX6_readsNumber_43 (by decide) ?_
          refine z_isub (pc := 45) (v := nI (10 * n + (t p - 48))) hC (by rw [← Nat.add_sub_assoc (show 48 ≤ t p by omega)]; exact pk_sub (by omega)) dX6_readsNumber_45 ?_
          refine z_iln (pc := 46) hC 1 rfl dX6_readsNumber_46 ?_
          refine z_icgt (pc := 47) hC 82 (by decide) dX6_readsNumber_47 (fun c47 => ?_) (fun c47 => ?_)
          · refine z_aln (pc := 82) hC 0 rfl dX6_readsNumber_82 ?_
            refine z_get (pc := 83) hC fX6_145 0 rfl rfl dX6_readsNumber_83 ?_
            refine z_is_ (y := nI n) (by simp [upd]) ?_
            refine z_ifle (pc := 86) hC 93 (by decide) dX6_readsNumber_86 (fun c86 => ?_) (fun c86 => ?_)
            · have hz : n = 0 := (nI_gt0 (by omega)).mp c86
              refine z_iconst (pc := 93) (v := 0) hC dX6_readsNumber_93 (by decide) ?_
              exact hE _ _ _ () _ _ _ dX6_readsNumber_94 rfl (bI_f (by rw [← hr, rdN_f (Or.inr (fun z => absurd ((nI_ltI (by omega) (by omega)).mp c47) (by omega)))]; simpa using hz)) (by rw [← hr, rdN_f (Or.inr (fun z => absurd ((nI_ltI (by omega) (by omega)).mp c47) (by omega)))]) (Nat.le_refl _) (Nat.le_refl _)
            · have hz : ¬ n = 0 := fun e => c86 (by rw [e]; decide)
              refine z_iconst (pc := 89) (v := 1) hC dX6_readsNumber_89 (by decide) ?_
              refine z_goto (pc := 90) hC 94 (by decide) dX6_readsNumber_90 ?_
              exact hE _ _ _ () _ _ _ dX6_readsNumber_94 rfl (bI_t (by rw [← hr, rdN_f (Or.inr (fun z => absurd ((nI_ltI (by omega) (by omega)).mp c47) (by omega)))]; exact decide_eq_true (Nat.pos_of_ne_zero hz))) (by rw [← hr, rdN_f (Or.inr (fun z => absurd ((nI_ltI (by omega) (by omega)).mp c47) (by omega)))]) (Nat.le_refl _) (Nat.le_refl _)
          · have hh : 10 * n + (t p - 48) ≤ hi := Nat.le_of_not_lt (fun z => c47 ((nI_ltI (by omega) (by omega)).mpr z))
            refine z_aln (pc := 50) hC 0 rfl dX6_readsNumber_50 ?_
            refine z_bipush (pc := 51) (v := nI 10) hC dX6_readsNumber_51 (by decide) ?_
            refine z_aln (pc := 53) hC 0 rfl dX6_readsNumber_53 ?_
            refine z_get (pc := 54) hC fX6_145 0 rfl rfl dX6_readsNumber_54 ?_
            refine z_is_ (y := nI n) (by simp [upd]) ?_
            refine z_imul (pc := 57) (v := nI (10 * n)) hC (pk_mul 10 n) dX6_readsNumber_57 ?_
            refine z_aln (pc := 58) hC 0 rfl dX6_readsNumber_58 ?_
            refine z_g (pc := 59) (rest := [.int (nI (10 * n)), .ref (b 0)]) hC vX6_sign lX6_142 dX6_readsNumber_59 (m_sign (V := upd (upd V 4 (nI n)) 3 (nI p)) hT hL (by simp [upd, h2]) (by simp [upd]) hp) (fun w => w) isCtx_id rfl 0 6 rfl rfl rfl rfl rfl (by decide) (Nat.le_of_ble_eq_true rfl) ⟨Nat.le_refl _, Nat.le_refl _⟩ ?_
            refine z_is_ (y := nI (t p)) (sgC_is ⟨hlt, rfl⟩) ?_
            refine z_iadd (pc := 62) (v := nI (10 * n + t p)) hC (nI_add _ _) dX6_readsNumber_62 ?_
            refine z_bipush (pc := 63) (v := nI 48) hC dX6_readsNumber_63 (by decide) ?_
            refine z_isub (pc := 65) (v := nI (10 * n + (t p - 48))) hC (by rw [← Nat.add_sub_assoc (show 48 ≤ t p by omega)]; exact pk_sub (by omega)) dX6_readsNumber_65 ?_
            refine z_put (pc := 66) (ws' := mW g.2 b R F (upd (upd (upd V 4 (nI n)) 3 (nI p)) 4 (nI (10 * n + (t p - 48))))) hC fX6_145 p6_8 0 rfl (Nat.le_of_ble_eq_true rfl) (mW_V 8 4 (by decide)) dX6_readsNumber_66 ?_
            refine z_aln (pc := 69) hC 0 rfl dX6_readsNumber_69 ?_
            refine z_dup (pc := 70) hC rfl dX6_readsNumber_70 ?_
            refine z_get (pc := 71) hC fX6_139 0 rfl rfl dX6_readsNumber_71 ?_
            refine z_is_ (y := nI p) (by simp [upd]) ?_
            refine z_iconst (pc := 74) (v := 1) hC dX6_readsNumber_74 (by decide) ?_
            refine z_iadd (pc := 75) (v := nI (p + 1)) hC (nI_1 p) dX6_readsNumber_75 ?_
            refine z_put (pc := 76) (ws' := mW g.2 b R F (upd (upd (upd (upd V 4 (nI n)) 3 (nI p)) 4 (nI (10 * n + (t p - 48)))) 3 (nI (p + 1)))) hC fX6_139 p6_7 0 rfl (Nat.le_of_ble_eq_true rfl) (mW_V 7 3 (by decide)) dX6_readsNumber_76 ?_
            refine z_goto (pc := 79) hC 5 (by decide) dX6_readsNumber_79 ?_
            refine z_w (ws' := mW g.2 b R F (upd (upd V 4 (nI (10 * n + (t p - 48)))) 3 (nI (p + 1)))) (by rw [upd43]) ?_
            refine z_lv [0, 1] rfl ?_
            exact ih (p + 1) (10 * n + (t p - 48)) (by omega) (by omega) hh (by rw [← hr, rdN_t (by simp [dgO]; omega) (by omega) hh])
  refine z_aln (pc := 0) hC 0 rfl dX6_readsNumber_0 ?_
  refine z_iconst (pc := 1) (v := nI 0) hC dX6_readsNumber_1 (by decide) ?_
  refine z_put (pc := 2) (ws' := mW g.2 b R F (upd V 4 (nI 0))) hC fX6_145 p6_8 0 rfl (Nat.le_of_ble_eq_true rfl) (mW_V 8 4 (by decide)) dX6_readsNumber_2 ?_
  refine z_w (ws' := mW g.2 b R F (upd (upd V 4 (nI 0)) 3 (nI p))) (congrArg (mW g.2 b R F) (upd40 h3 _)) ?_
  refine z_lv [0, 1] rfl ?_
  exact loop (L - p) p 0 (by omega) hp (by omega) hrr.symm

/-- what stays when a command is read -/
def kpV (V V' : Nat → Int32) : Prop := V' 0 = V 0 ∧ V' 1 = V 1 ∧ V' 2 = V 2
def kpF (F F' : Nat → Nat → Int32) : Prop := F' 0 = F 0 ∧ F' 1 = F 1 ∧ F' 2 = F 2
theorem kpF_set {F F' : Nat → Nat → Int32} {k j : Nat} {v : Int32} (h : kpF F F') (hk : 3 ≤ k) : kpF F (setS F' k j v) :=
  ⟨(funext fun i => setS_c F' j v (show (0 : Nat) ≠ k by omega) i).trans h.1, (funext fun i => setS_c F' j v (show (1 : Nat) ≠ k by omega) i).trans h.2.1, (funext fun i => setS_c F' j v (show (2 : Nat) ≠ k by omega) i).trans h.2.2⟩
theorem kpF_id (F : Nat → Nat → Int32) : kpF F F := ⟨rfl, rfl, rfl⟩
theorem setT (F : Nat → Nat → Int32) {k : Nat} (hk : 3 ≤ k) (j : Nat) (v : Int32) : setS F k j v 2 = F 2 := funext fun i => setS_c F j v (show (2 : Nat) ≠ k by omega) i

theorem inB_sgd {t : Nat → Nat} {L p : Nat} (ht : ∀ q, q < L → t q < 1000) : inB (sgC t L p) 48 57 = dgO t L p := by
  have h := inB_sg (p := p) (lo := 48) ht (by omega) (by omega)
  cases e : dgO t L p with
  | true => exact h.mpr (dgO_s e)
  | false =>
    cases e2 : inB (sgC t L p) 48 57 with
    | false => rfl
    | true =>
      obtain ⟨a1, a2, a3⟩ := h.mp e2
      rw [show dgO t L p = true by simp [dgO]; omega] at e; cases e

set_option maxRecDepth 100000 in
set_option maxHeartbeats 4000000 in
theorem m_readsJob {g : zG} {b : Nat → Nat} {R : St} {F : Nat → Nat → Int32} {V : Nat → Int32} {t : Nat → Nat} {L p : Nat} {c : Nat} (hT : tOK (F 2) t L) (hL : L ≤ 80) (h2 : V 2 = nI L) (h3 : V 3 = nI p) (hp : p ≤ L) (hc : V 5 = nI c) (hcl : c < 48) : FI (S := (Nat → Nat → Int32) × (Nat → Int32)) g yX6_readsJob cX6_readsJob 2 .boolean 2 0 0 [.ref (b 0)] (mW g.2 b R F V) (fun r (S : (Nat → Nat → Int32) × (Nat → Int32)) => r = bI (rdJ t L p).1.isSome ∧ kpV V S.2 ∧ S.2 3 = nI (rdJ t L p).2 ∧ S.2 5 = V 5 ∧ kpF F S.1 ∧ (∀ k j, j ≠ c → S.1 k j = F k j) ∧ ∀ x, (rdJ t L p).1 = some x → S.1 4 c = nI x.1 ∧ S.1 5 c = nI x.2.1 ∧ S.1 6 c = nI x.2.2) (fun S => mW g.2 b R S.1 S.2) := by
  refine fi_entry (by decide) (Nat.le_of_ble_eq_true rfl) (fun C hC hm hE => ?_)
  obtain ⟨p1, v, e1⟩ : ∃ p1 v, rdN t L 99 (L - p) p 0 = (p1, v) := ⟨_, _, rfl⟩
  obtain ⟨f1, hp1, f3⟩ := rdN_ok t L 99 (L - p) p 0 (by omega) hp
  rw [e1] at f1 hp1 f3
  dsimp only at f1 hp1 f3
  refine z_aln (pc := 0) hC 0 rfl dX6_readsJob_0 ?_
  refine z_bipush (pc := 1) (v := 99) hC dX6_readsJob_1 (by decide) ?_
  refine z_g (pc := 3) (rest := []) hC vX6_readsNumber lX6_148 dX6_readsJob_3 (m_readsNumber (F := F) (V := V) (p := p) (hi := 99) hT hL (by simp [upd, h2]) (by simp [upd, h3]) hp (by omega)) (fun w => w) isCtx_id rfl 0 6 rfl rfl rfl rfl rfl (by decide) (Nat.le_of_ble_eq_true rfl) ⟨Nat.le_refl _, Nat.le_refl _⟩ ?_
  simp only [e1]
  refine z_ifne (pc := 6) hC 11 (by decide) dX6_readsJob_6 (fun c6 => ?_) (fun c6 => ?_)
  · have hv : ¬ v = 0 := fun e => by rw [e] at c6; exact c6 rfl
    refine z_aln (pc := 11) hC 0 rfl dX6_readsJob_11 ?_
    refine z_get (pc := 12) hC fX6_25 0 rfl rfl dX6_readsJob_12 ?_
    refine z_aln (pc := 15) hC 0 rfl dX6_readsJob_15 ?_
    refine z_get (pc := 16) hC fX6_151 0 rfl rfl dX6_readsJob_16 ?_
    refine z_is_ (y := nI c) (by simp [upd, hc]) ?_
    refine z_aln (pc := 19) hC 0 rfl dX6_readsJob_19 ?_
    refine z_get (pc := 20) hC fX6_145 0 rfl rfl dX6_readsJob_20 ?_
    refine z_is_ (y := nI v) (by simp [upd]) ?_
    refine z_iast (pc := 23) (ws' := mW g.2 b R (setS F 4 c (nI v)) (upd (upd V 4 (nI v)) 3 (nI p1))) hC 6 rfl dX6_readsJob_23 c rfl (by omega) (by decide) mW_F4 ?_
    refine z_aln (pc := 24) hC 0 rfl dX6_readsJob_24 ?_
    refine z_bipush (pc := 25) (v := 42) hC dX6_readsJob_25 (by decide) ?_
    refine z_g (pc := 27) (rest := []) hC vX6_takes lX6_154 dX6_readsJob_27 (m_takes (F := setS F 4 c (nI v)) (V := upd (upd V 4 (nI v)) 3 (nI p1)) (p := p1) (x := 42) (by rw [setT _ (by omega)]; exact hT) hL (by simp [upd, h2]) (by simp [upd]) hp1 (by omega) (by omega)) (fun w => w) isCtx_id rfl 0 6 rfl rfl rfl rfl rfl (by decide) (Nat.le_of_ble_eq_true rfl) ⟨Nat.le_refl _, Nat.le_refl _⟩ ?_
    refine z_ifeq (pc := 30) hC 42 (by decide) dX6_readsJob_30 (fun c30 => ?_) (fun c30 => ?_)
    · have ha : at_ t L p1 42 = false := bI_0.mp c30
      refine z_w (ws' := mW g.2 b R (setS F 4 c (nI v)) (upd (upd (upd V 4 (nI v)) 3 (nI p1)) 3 (nI p1))) (by rw [if_neg (by simp [ha])]) ?_
      refine z_iconst (pc := 42) (v := 0) hC dX6_readsJob_42 (by decide) ?_
      exact hE _ _ _ (setS F 4 c (nI v), upd (upd (upd V 4 (nI v)) 3 (nI p1)) 3 (nI p1)) _ _ _ dX6_readsJob_43 rfl (by have eJ := (show rdJ t L p = (none, p1) by simp [rdJ, e1, hv, ha]); rw [eJ]; exact ⟨rfl, ⟨by simp [upd], by simp [upd], by simp [upd]⟩, by simp [upd], by simp [upd], (kpF_set (kpF_id F) (by omega)), fun k j hj => by simp [setS_at, hj], fun x hx => by simp at hx⟩) rfl (Nat.le_refl _) (Nat.le_refl _)
    · have ha : at_ t L p1 42 = true := bI_n.mp c30
      refine z_w (ws' := mW g.2 b R (setS F 4 c (nI v)) (upd (upd (upd V 4 (nI v)) 3 (nI p1)) 3 (nI (p1 + 1)))) (by rw [if_pos ha]) ?_
      obtain ⟨p2, m, e2⟩ : ∃ p2 m, rdN t L 20 (L - (p1 + 1)) (p1 + 1) 0 = (p2, m) := ⟨_, _, rfl⟩
      obtain ⟨g1, g2, g3⟩ := rdN_ok t L 20 (L - (p1 + 1)) (p1 + 1) 0 (by omega) (at_s ha).1
      rw [e2] at g1 g2 g3
      dsimp only at g1 g2 g3
      refine z_aln (pc := 33) hC 0 rfl dX6_readsJob_33 ?_
      refine z_bipush (pc := 34) (v := 20) hC dX6_readsJob_34 (by decide) ?_
      refine z_g (pc := 36) (rest := []) hC vX6_readsNumber lX6_148 dX6_readsJob_36 (m_readsNumber (F := setS F 4 c (nI v)) (V := upd (upd (upd V 4 (nI v)) 3 (nI p1)) 3 (nI (p1 + 1))) (p := p1 + 1) (hi := 20) (by rw [setT _ (by omega)]; exact hT) hL (by simp [upd, h2]) (by simp [upd]) (at_s ha).1 (by omega)) (fun w => w) isCtx_id rfl 0 6 rfl rfl rfl rfl rfl (by decide) (Nat.le_of_ble_eq_true rfl) ⟨Nat.le_refl _, Nat.le_refl _⟩ ?_
      simp only [e2]
      refine z_ifne (pc := 39) hC 44 (by decide) dX6_readsJob_39 (fun c39 => ?_) (fun c39 => ?_)
      · have hmz : ¬ m = 0 := fun e => by rw [e] at c39; exact c39 rfl
        refine z_aln (pc := 44) hC 0 rfl dX6_readsJob_44 ?_
        refine z_get (pc := 45) hC fX6_28 0 rfl rfl dX6_readsJob_45 ?_
        refine z_aln (pc := 48) hC 0 rfl dX6_readsJob_48 ?_
        refine z_get (pc := 49) hC fX6_151 0 rfl rfl dX6_readsJob_49 ?_
        refine z_is_ (y := nI c) (by simp [upd, hc]) ?_
        refine z_aln (pc := 52) hC 0 rfl dX6_readsJob_52 ?_
        refine z_get (pc := 53) hC fX6_145 0 rfl rfl dX6_readsJob_53 ?_
        refine z_is_ (y := nI m) (by simp [upd]) ?_
        refine z_iast (pc := 56) (ws' := mW g.2 b R (setS (setS F 4 c (nI v)) 5 c (nI m)) (upd (upd (upd (upd (upd V 4 (nI v)) 3 (nI p1)) 3 (nI (p1 + 1))) 4 (nI m)) 3 (nI p2))) hC 7 rfl dX6_readsJob_56 c rfl (by omega) (by decide) mW_F5 ?_
        refine z_aln (pc := 57) hC 0 rfl dX6_readsJob_57 ?_
        refine z_get (pc := 58) hC fX6_31 0 rfl rfl dX6_readsJob_58 ?_
        refine z_aln (pc := 61) hC 0 rfl dX6_readsJob_61 ?_
        refine z_get (pc := 62) hC fX6_151 0 rfl rfl dX6_readsJob_62 ?_
        refine z_is_ (y := nI c) (by simp [upd, hc]) ?_
        refine z_iconst (pc := 65) (v := 0) hC dX6_readsJob_65 (by decide) ?_
        refine z_iast (pc := 66) (ws' := mW g.2 b R (setS (setS (setS F 4 c (nI v)) 5 c (nI m)) 6 c 0) (upd (upd (upd (upd (upd V 4 (nI v)) 3 (nI p1)) 3 (nI (p1 + 1))) 4 (nI m)) 3 (nI p2))) hC 8 rfl dX6_readsJob_66 c rfl (by omega) (by decide) mW_F6 ?_
        refine z_aln (pc := 67) hC 0 rfl dX6_readsJob_67 ?_
        refine z_bipush (pc := 68) (v := 33) hC dX6_readsJob_68 (by decide) ?_
        refine z_g (pc := 70) (rest := []) hC vX6_takes lX6_154 dX6_readsJob_70 (m_takes (F := setS (setS (setS F 4 c (nI v)) 5 c (nI m)) 6 c 0) (V := upd (upd (upd (upd (upd V 4 (nI v)) 3 (nI p1)) 3 (nI (p1 + 1))) 4 (nI m)) 3 (nI p2)) (p := p2) (x := 33) (by rw [setT _ (by omega), setT _ (by omega), setT _ (by omega)]; exact hT) hL (by simp [upd, h2]) (by simp [upd]) g2 (by omega) (by omega)) (fun w => w) isCtx_id rfl 0 6 rfl rfl rfl rfl rfl (by decide) (Nat.le_of_ble_eq_true rfl) ⟨Nat.le_refl _, Nat.le_refl _⟩ ?_
        refine z_ifne (pc := 73) hC 78 (by decide) dX6_readsJob_73 (fun c73 => ?_) (fun c73 => ?_)
        · have hb : at_ t L p2 33 = true := bI_n.mp c73
          refine z_w (ws' := mW g.2 b R (setS (setS (setS F 4 c (nI v)) 5 c (nI m)) 6 c 0) (upd (upd (upd (upd (upd (upd V 4 (nI v)) 3 (nI p1)) 3 (nI (p1 + 1))) 4 (nI m)) 3 (nI p2)) 3 (nI (p2 + 1)))) (by rw [if_pos hb]) ?_
          refine z_aln (pc := 78) hC 0 rfl dX6_readsJob_78 ?_
          refine z_g (pc := 79) (rest := []) hC vX6_sign lX6_142 dX6_readsJob_79 (m_sign (F := setS (setS (setS F 4 c (nI v)) 5 c (nI m)) 6 c 0) (V := upd (upd (upd (upd (upd (upd V 4 (nI v)) 3 (nI p1)) 3 (nI (p1 + 1))) 4 (nI m)) 3 (nI p2)) 3 (nI (p2 + 1))) (p := p2 + 1) (by rw [setT _ (by omega), setT _ (by omega), setT _ (by omega)]; exact hT) hL (by simp [upd, h2]) (by simp [upd]) (at_s hb).1) (fun w => w) isCtx_id rfl 0 6 rfl rfl rfl rfl rfl (by decide) (Nat.le_of_ble_eq_true rfl) ⟨Nat.le_refl _, Nat.le_refl _⟩ ?_
          refine z_bipush (pc := 82) (v := 48) hC dX6_readsJob_82 (by decide) ?_
          refine z_bipush (pc := 84) (v := 57) hC dX6_readsJob_84 (by decide) ?_
          refine z_gs (pc := 86) (rest := []) hC sX6_in lX6_42 dX6_readsJob_86 (m_in (x := sgC t L (p2 + 1)) (y := 48) (z := 57)) rfl rfl (by decide) (Nat.le_of_ble_eq_true rfl) ⟨Nat.le_refl _, Nat.le_refl _⟩ ?_
          refine z_is_ (y := bI (dgO t L (p2 + 1))) (by rw [inB_sgd hT.lt]) ?_
          refine z_isn (pc := 89) (lv' := [(1, .int (bI (dgO t L (p2 + 1)))), (0, .ref (b 0))]) hC hm (by decide) rfl dX6_readsJob_89 ?_
          refine z_aln (pc := 90) hC 1 rfl dX6_readsJob_90 ?_
          refine z_get (pc := 91) hC fX6_31 0 rfl rfl dX6_readsJob_91 ?_
          refine z_aln (pc := 94) hC 1 rfl dX6_readsJob_94 ?_
          refine z_get (pc := 95) hC fX6_151 0 rfl rfl dX6_readsJob_95 ?_
          refine z_is_ (y := nI c) (by simp [upd, hc]) ?_
          refine z_iln (pc := 98) hC 0 rfl dX6_readsJob_98 ?_
          refine z_ifeq (pc := 99) hC 112 (by decide) dX6_readsJob_99 (fun c99 => ?_) (fun c99 => ?_)
          · have hd : dgO t L (p2 + 1) = false := bI_0.mp c99
            refine z_iconst (pc := 112) (v := 0) hC dX6_readsJob_112 (by decide) ?_
            refine z_iast (pc := 113) (ws' := mW g.2 b R (setS (setS (setS (setS F 4 c (nI v)) 5 c (nI m)) 6 c 0) 6 c 0) (upd (upd (upd (upd (upd (upd V 4 (nI v)) 3 (nI p1)) 3 (nI (p1 + 1))) 4 (nI m)) 3 (nI p2)) 3 (nI (p2 + 1)))) hC 8 rfl dX6_readsJob_113 c rfl (by omega) (by decide) mW_F6 ?_
            refine z_aln (pc := 114) hC 1 rfl dX6_readsJob_114 ?_
            refine z_dup (pc := 115) hC rfl dX6_readsJob_115 ?_
            refine z_get (pc := 116) hC fX6_139 0 rfl rfl dX6_readsJob_116 ?_
            refine z_is_ (y := nI (p2 + 1)) (by simp [upd]) ?_
            refine z_iln (pc := 119) hC 0 rfl dX6_readsJob_119 ?_
            refine z_ifeq (pc := 120) hC 127 (by decide) dX6_readsJob_120 (fun c120 => ?_) (fun c120 => absurd (bI_0.mpr hd) c120)
            refine z_iconst (pc := 127) (v := 0) hC dX6_readsJob_127 (by decide) ?_
            refine z_iadd (pc := 128) (v := nI (p2 + 1)) hC (Int32.add_zero _) dX6_readsJob_128 ?_
            refine z_put (pc := 129) (ws' := mW g.2 b R (setS (setS (setS (setS F 4 c (nI v)) 5 c (nI m)) 6 c 0) 6 c 0) (upd (upd (upd (upd (upd (upd (upd V 4 (nI v)) 3 (nI p1)) 3 (nI (p1 + 1))) 4 (nI m)) 3 (nI p2)) 3 (nI (p2 + 1))) 3 (nI (p2 + 1)))) hC fX6_139 p6_7 0 rfl (Nat.le_of_ble_eq_true rfl) (mW_V 7 3 (by decide)) dX6_readsJob_129 ?_
            refine z_iln (pc := 132) hC 0 rfl dX6_readsJob_132 ?_
            exact hE _ _ _ (setS (setS (setS (setS F 4 c (nI v)) 5 c (nI m)) 6 c 0) 6 c 0, upd (upd (upd (upd (upd (upd (upd V 4 (nI v)) 3 (nI p1)) 3 (nI (p1 + 1))) 4 (nI m)) 3 (nI p2)) 3 (nI (p2 + 1))) 3 (nI (p2 + 1))) _ _ _ dX6_readsJob_133 (bI_nar _) (by have eJ := (show rdJ t L p = (none, p2 + 1) by simp [rdJ, rdM, e1, e2, hv, ha, hmz, hb, hd]); rw [eJ]; exact ⟨by rw [hd]; rfl, ⟨by simp [upd], by simp [upd], by simp [upd]⟩, by simp [upd], by simp [upd], (kpF_set (kpF_set (kpF_set (kpF_set (kpF_id F) (by omega)) (by omega)) (by omega)) (by omega)), fun k j hj => by simp [setS_at, hj], fun x hx => by simp at hx⟩) rfl (Nat.le_refl _) (Nat.le_refl _)
          · have hd : dgO t L (p2 + 1) = true := bI_n.mp c99
            have hdd := dgO_s hd
            refine z_aln (pc := 102) hC 1 rfl dX6_readsJob_102 ?_
            refine z_g (pc := 103) (rest := [.int (nI c), .ref (b 8)]) hC vX6_sign lX6_142 dX6_readsJob_103 (m_sign (F := setS (setS (setS F 4 c (nI v)) 5 c (nI m)) 6 c 0) (V := upd (upd (upd (upd (upd (upd V 4 (nI v)) 3 (nI p1)) 3 (nI (p1 + 1))) 4 (nI m)) 3 (nI p2)) 3 (nI (p2 + 1))) (p := p2 + 1) (by rw [setT _ (by omega), setT _ (by omega), setT _ (by omega)]; exact hT) hL (by simp [upd, h2]) (by simp [upd]) (at_s hb).1) (fun w => w) isCtx_id rfl 0 6 rfl rfl rfl rfl rfl (by decide) (Nat.le_of_ble_eq_true rfl) ⟨Nat.le_refl _, Nat.le_refl _⟩ ?_
            refine z_is_ (y := nI (t (p2 + 1))) (sgC_is ⟨hdd.1, rfl⟩) ?_
            refine z_bipush (pc := 106) (v := nI 48) hC dX6_readsJob_106 (by decide) ?_
            refine z_isub (pc := 108) (v := nI (t (p2 + 1) - 48)) hC (pk_sub hdd.2.1) dX6_readsJob_108 ?_
            refine z_goto (pc := 109) hC 113 (by decide) dX6_readsJob_109 ?_
            refine z_iast (pc := 113) (ws' := mW g.2 b R (setS (setS (setS (setS F 4 c (nI v)) 5 c (nI m)) 6 c 0) 6 c (nI (t (p2 + 1) - 48))) (upd (upd (upd (upd (upd (upd V 4 (nI v)) 3 (nI p1)) 3 (nI (p1 + 1))) 4 (nI m)) 3 (nI p2)) 3 (nI (p2 + 1)))) hC 8 rfl dX6_readsJob_113 c rfl (by omega) (by decide) mW_F6 ?_
            refine z_aln (pc := 114) hC 1 rfl dX6_readsJob_114 ?_
            refine z_dup (pc := 115) hC rfl dX6_readsJob_115 ?_
            refine z_get (pc := 116) hC fX6_139 0 rfl rfl dX6_readsJob_116 ?_
            refine z_is_ (y := nI (p2 + 1)) (by simp [upd]) ?_
            refine z_iln (pc := 119) hC 0 rfl dX6_readsJob_119 ?_
            refine z_ifeq (pc := 120) hC 127 (by decide) dX6_readsJob_120 (fun c120 => absurd c120 (bI_n.mpr hd)) (fun c120 => ?_)
            refine z_iconst (pc := 123) (v := 1) hC dX6_readsJob_123 (by decide) ?_
            refine z_goto (pc := 124) hC 128 (by decide) dX6_readsJob_124 ?_
            refine z_iadd (pc := 128) (v := nI (p2 + 1 + 1)) hC (nI_1 _) dX6_readsJob_128 ?_
            refine z_put (pc := 129) (ws' := mW g.2 b R (setS (setS (setS (setS F 4 c (nI v)) 5 c (nI m)) 6 c 0) 6 c (nI (t (p2 + 1) - 48))) (upd (upd (upd (upd (upd (upd (upd V 4 (nI v)) 3 (nI p1)) 3 (nI (p1 + 1))) 4 (nI m)) 3 (nI p2)) 3 (nI (p2 + 1))) 3 (nI (p2 + 1 + 1)))) hC fX6_139 p6_7 0 rfl (Nat.le_of_ble_eq_true rfl) (mW_V 7 3 (by decide)) dX6_readsJob_129 ?_
            refine z_iln (pc := 132) hC 0 rfl dX6_readsJob_132 ?_
            exact hE _ _ _ (setS (setS (setS (setS F 4 c (nI v)) 5 c (nI m)) 6 c 0) 6 c (nI (t (p2 + 1) - 48)), upd (upd (upd (upd (upd (upd (upd V 4 (nI v)) 3 (nI p1)) 3 (nI (p1 + 1))) 4 (nI m)) 3 (nI p2)) 3 (nI (p2 + 1))) 3 (nI (p2 + 1 + 1))) _ _ _ dX6_readsJob_133 (bI_nar _) (by have eJ := (show rdJ t L p = (some (v, m, t (p2 + 1) - 48), p2 + 2) by simp [rdJ, rdM, e1, e2, hv, ha, hmz, hb, hd]); rw [eJ]; exact ⟨by rw [hd]; rfl, ⟨by simp [upd], by simp [upd], by simp [upd]⟩, by simp [upd], by simp [upd], (kpF_set (kpF_set (kpF_set (kpF_set (kpF_id F) (by omega)) (by omega)) (by omega)) (by omega)), fun k j hj => by simp [setS_at, hj], fun x hx => by simp at hx; subst hx; exact ⟨by simp [setS_at], by simp [setS_at], by simp [setS_at] ⟩⟩) rfl (Nat.le_refl _) (Nat.le_refl _)
        · have hb : at_ t L p2 33 = false := bI_0.mp c73
          refine z_w (ws' := mW g.2 b R (setS (setS (setS F 4 c (nI v)) 5 c (nI m)) 6 c 0) (upd (upd (upd (upd (upd (upd V 4 (nI v)) 3 (nI p1)) 3 (nI (p1 + 1))) 4 (nI m)) 3 (nI p2)) 3 (nI p2))) (by rw [if_neg (by simp [hb])]) ?_
          refine z_iconst (pc := 76) (v := 1) hC dX6_readsJob_76 (by decide) ?_
          exact hE _ _ _ (setS (setS (setS F 4 c (nI v)) 5 c (nI m)) 6 c 0, upd (upd (upd (upd (upd (upd V 4 (nI v)) 3 (nI p1)) 3 (nI (p1 + 1))) 4 (nI m)) 3 (nI p2)) 3 (nI p2)) _ _ _ dX6_readsJob_77 rfl (by have eJ := (show rdJ t L p = (some (v, m, 0), p2) by simp [rdJ, rdM, e1, e2, hv, ha, hmz, hb]); rw [eJ]; exact ⟨rfl, ⟨by simp [upd], by simp [upd], by simp [upd]⟩, by simp [upd], by simp [upd], (kpF_set (kpF_set (kpF_set (kpF_id F) (by omega)) (by omega)) (by omega)), fun k j hj => by simp [setS_at, hj], fun x hx => by simp at hx; subst hx; exact ⟨by simp [setS_at], by simp [setS_at], by simp [setS_at]; rfl⟩⟩) rfl (Nat.le_refl _) (Nat.le_refl _)
      · have hmz : m = 0 := by
          have := bI_0.mp c39
          simpa using this
        refine z_iconst (pc := 42) (v := 0) hC dX6_readsJob_42 (by decide) ?_
        exact hE _ _ _ (setS F 4 c (nI v), upd (upd (upd (upd (upd V 4 (nI v)) 3 (nI p1)) 3 (nI (p1 + 1))) 4 (nI m)) 3 (nI p2)) _ _ _ dX6_readsJob_43 rfl (by have eJ := (show rdJ t L p = (none, p2) by simp [rdJ, rdM, e1, e2, hv, ha, hmz]); rw [eJ]; exact ⟨rfl, ⟨by simp [upd], by simp [upd], by simp [upd]⟩, by simp [upd], by simp [upd], (kpF_set (kpF_id F) (by omega)), fun k j hj => by simp [setS_at, hj], fun x hx => by simp at hx⟩) rfl (Nat.le_refl _) (Nat.le_refl _)
  · have hv : v = 0 := by
      have := bI_0.mp c6
      simpa using this
    refine z_iconst (pc := 9) (v := 0) hC dX6_readsJob_9 (by decide) ?_
    exact hE _ _ _ (F, upd (upd V 4 (nI v)) 3 (nI p1)) _ _ _ dX6_readsJob_10 rfl (by have eJ := (show rdJ t L p = (none, p1) by simp [rdJ, e1, hv]); rw [eJ]; exact ⟨rfl, ⟨by simp [upd], by simp [upd], by simp [upd]⟩, by simp [upd], by simp [upd], (kpF_id F), fun k j hj => by simp [setS_at, hj], fun x hx => by simp at hx⟩) rfl (Nat.le_refl _) (Nat.le_refl _)

set_option maxRecDepth 100000 in
set_option maxHeartbeats 4000000 in
theorem m_readsMinutes {g : zG} {b : Nat → Nat} {R : St} {F : Nat → Nat → Int32} {V : Nat → Int32} {t : Nat → Nat} {L p : Nat} {c : Nat} (hT : tOK (F 2) t L) (hL : L ≤ 80) (h2 : V 2 = nI L) (h3 : V 3 = nI p) (hp : p ≤ L) (hc : V 5 = nI c) (hcl : c < 48) : Gi g yX6_readsMinutes cX6_readsMinutes 2 .boolean 2 [.ref (b 0)] (mW g.2 b R F V) (bI (decide (0 < (rdN t L 99 (L - p) p 0).2))) (mW g.2 b R (setS F 4 c (nI (rdN t L 99 (L - p) p 0).2)) (upd (upd V 4 (nI (rdN t L 99 (L - p) p 0).2)) 3 (nI (rdN t L 99 (L - p) p 0).1))) := by
  refine fi_entry (by decide) (Nat.le_of_ble_eq_true rfl) (fun C hC hm hE => ?_)
  refine z_aln (pc := 0) hC 0 rfl dX6_readsMinutes_0 ?_
  refine z_bipush (pc := 1) (v := 99) hC dX6_readsMinutes_1 (by decide) ?_
  refine z_g (pc := 3) (rest := []) hC vX6_readsNumber lX6_148 dX6_readsMinutes_3 (m_readsNumber (F := F) (V := V) (p := p) (hi := 99) hT hL (by simp [upd, h2]) (by simp [upd, h3]) hp (by omega)) (fun w => w) isCtx_id rfl 0 6 rfl rfl rfl rfl rfl (by decide) (Nat.le_of_ble_eq_true rfl) ⟨Nat.le_refl _, Nat.le_refl _⟩ ?_
  
  refine z_isn (pc := 6) (lv' := [(1, .int (bI (decide (0 < (rdN t L 99 (L - p) p 0).2)))), (0, .ref (b 0))]) hC hm (by decide) rfl dX6_readsMinutes_6 ?_
  refine z_aln (pc := 7) hC 1 rfl dX6_readsMinutes_7 ?_
  refine z_get (pc := 8) hC fX6_25 0 rfl rfl dX6_readsMinutes_8 ?_
  refine z_aln (pc := 11) hC 1 rfl dX6_readsMinutes_11 ?_
  refine z_get (pc := 12) hC fX6_151 0 rfl rfl dX6_readsMinutes_12 ?_
  refine z_is_ (y := nI c) (by simp [upd, hc]) ?_
  refine z_aln (pc := 15) hC 1 rfl dX6_readsMinutes_15 ?_
  refine z_get (pc := 16) hC fX6_145 0 rfl rfl dX6_readsMinutes_16 ?_
  refine z_is_ (y := nI (rdN t L 99 (L - p) p 0).2) (by simp [upd]) ?_
  refine z_iast (pc := 19) (ws' := mW g.2 b R (setS F 4 c (nI (rdN t L 99 (L - p) p 0).2)) (upd (upd V 4 (nI (rdN t L 99 (L - p) p 0).2)) 3 (nI (rdN t L 99 (L - p) p 0).1))) hC 6 rfl dX6_readsMinutes_19 c rfl (by omega) (by decide) mW_F4 ?_
  refine z_iln (pc := 20) hC 0 rfl dX6_readsMinutes_20 ?_
  exact hE _ _ _ () _ _ _ dX6_readsMinutes_21 (bI_nar _) rfl rfl (Nat.le_refl _) (Nat.le_refl _)
