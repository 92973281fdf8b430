/-! THE CONSOLE: its object x, its text u, its trial room c, its room a, its history h with the slots e -/
def xO (x : Nat) (u c a h : Nat → Nat) : va_W := [(x, .inr (5, [.ref (a 0), .ref (c 0), .ref (h 0), .ref (u 0)]))]
def xW (i : Nat → ClassId) (x : Nat) (u c a h : Nat → Nat) (e : Nat → Nat → Nat) (Q P : Nat → Int32) (T R : St) (z p : Int32) (K : Nat → St) : va_W := xO x u c a h ++ (tW i u Q P ++ (rW i c T ++ (rW i a R ++ hW i h e z p K)))
def xKr (i : Nat → ClassId) (x : Nat) (u c a h : Nat → Nat) (e : Nat → Nat → Nat) (Q P : Nat → Int32) (T : St) (z p : Int32) (K : Nat → St) : va_W → va_W := fun w => (xO x u c a h ++ (tW i u Q P ++ rW i c T)) ++ (w ++ hW i h e z p K)
def xKt (i : Nat → ClassId) (x : Nat) (u c a h : Nat → Nat) (e : Nat → Nat → Nat) (T R : St) (z p : Int32) (K : Nat → St) : va_W → va_W := fun w => xO x u c a h ++ (w ++ (rW i c T ++ (rW i a R ++ hW i h e z p K)))
def xKc (i : Nat → ClassId) (x : Nat) (u c a h : Nat → Nat) (e : Nat → Nat → Nat) (Q P : Nat → Int32) (R : St) (z p : Int32) (K : Nat → St) : va_W → va_W := fun w => (xO x u c a h ++ tW i u Q P) ++ (w ++ (rW i a R ++ hW i h e z p K))
def xKd (i : Nat → ClassId) (x : Nat) (u c a h : Nat → Nat) (e : Nat → Nat → Nat) (Q P : Nat → Int32) (z p : Int32) (K : Nat → St) : va_W → va_W := fun w => (xO x u c a h ++ tW i u Q P) ++ (w ++ hW i h e z p K)
def xKs (i : Nat → ClassId) (x : Nat) (u c a h : Nat → Nat) (Q P : Nat → Int32) (T : St) : va_W → va_W := fun w => (xO x u c a h ++ (tW i u Q P ++ rW i c T)) ++ w
section XK
variable {i : Nat → ClassId} {x : Nat} {u c a h : Nat → Nat} {e : Nat → Nat → Nat} {Q P : Nat → Int32} {T R : St} {z p : Int32} {K : Nat → St}
theorem xKr_ctx : isCtx (xKr i x u c a h e Q P T z p K) := ⟨_, _, fun _ => rfl⟩
theorem xKt_ctx : isCtx (xKt i x u c a h e T R z p K) := ⟨_, _, fun _ => rfl⟩
theorem xKc_ctx : isCtx (xKc i x u c a h e Q P R z p K) := ⟨_, _, fun _ => rfl⟩
theorem xKd_ctx : isCtx (xKd i x u c a h e Q P z p K) := ⟨_, _, fun _ => rfl⟩
theorem xKs_ctx : isCtx (xKs i x u c a h Q P T) := ⟨xO x u c a h ++ (tW i u Q P ++ rW i c T), [], fun w => by rw [List.append_nil]; rfl⟩
end XK
/-- what the class keeps of saved states and of the text: characters, fields, trial room, next slot, slots -/
abbrev XS : Type := (Nat → Int32) × (Nat → Int32) × St × Nat × (Nat → St)
def xR (H : Nat → St) (s : Nat) (t : Nat → Nat) (L : Nat) (S : XS) : Prop :=
  tOK S.1 t L ∧ S.2.1 0 = nI L ∧ L ≤ 80 ∧ s ≤ 6 ∧ S.2.2.2.1 < 6 ∧ ∀ k, k < s → S.2.2.2.2 ((S.2.2.2.1 + 6 - s + k) % 6) = H k
theorem pushN_if {s : Nat} (hs : s ≤ 6) : (if s < 6 then s + 1 else s) = pushN s := by
  unfold pushN; split <;> split <;> omega
theorem xR_save {H : Nat → St} {s L p : Nat} {t : Nat → Nat} {Q P : Nat → Int32} {T R : St} {K : Nat → St} (hX : xR H s t L (Q, P, T, p, K)) : xR (pushH H s R) (pushN s) t L (Q, P, T, (p + 1) % 6, upK K p R) := by
  obtain ⟨h1, h2, h3, h4, h5, h6⟩ := hX
  dsimp only at h1 h2 h5 h6
  refine ⟨h1, h2, h3, pushN_le h4, Nat.mod_lt _ (by omega), fun k hk => ?_⟩
  dsimp only
  by_cases hs : s = 6
  · subst hs
    have hk6 : k < 6 := by simpa [pushN] using hk
    rw [show pushN 6 = 6 from rfl]
    unfold upK pushH
    rw [if_pos rfl]
    by_cases hk5 : k < 5
    · rw [if_pos hk5, if_neg (by omega)]
      have := h6 (k + 1) (by omega)
      rw [← this]; congr 1; omega
    · rw [if_neg hk5, if_pos (by omega)]
  · have e : pushN s = s + 1 := if_neg hs
    rw [e] at hk ⊢
    unfold upK pushH
    rw [if_neg hs]
    by_cases hks : k = s
    · rw [if_pos hks, if_pos (by omega)]
    · rw [if_neg hks, if_neg (by omega)]
      have := h6 k (by omega)
      rw [← this]; congr 1; omega
section ZIK
variable {g : zG} {C : zC} {cc : ByteArray} {own : String} {d mc ms k n : Nat} {ws : va_W} {lv : List (Nat × Value)} {pc : Nat} {st rest : List Value}
variable {S : Type} {y : MethodName} {cy : ByteArray} {nl d' np idx b : Nat} {ret : FieldType} {As : List Value} {w : va_W} {w' : S → va_W}
theorem z_ik (hC : zOK g C cc own d mc ms) (hy : vM y cy nl (some ret) np) (hl : Cond.methodLink own idx y ∈ aw) (hdg : decode cc pc = .ok (.invokevirtual idx, 3)) {post : Int32 → S → Prop} (hM : FI g y cy nl ret d' 0 0 (.ref b :: As) w post w') (K : va_W → va_W) (hK : isCtx K) (hw : ws = K w) (q0 ci : Nat) {fs : List Value} {r : vw_C} (he : w[q0]? = some (b, .inr (ci, fs))) (hr : vwCl[ci]? = some r) (hR : r.1 = y.cls)
    (hn : As.length = np) (hst : st = As.reverse ++ .ref b :: rest) (hd : d' + 1 ≤ d) (hcat : (rest.map fun v => v.category).sum ≤ 8) (hk : k ≤ mc ∧ n ≤ ms)
    (kk : ∀ (r : Int32) (u : S), post r u → Z g C k n (K (w' u)) lv (pc + 3) (.int r :: rest)) : Z g C k n ws lv pc st := by
  obtain ⟨pre, suf, hKw⟩ := hK
  rw [hKw] at hw
  exact z_vi hC hy hl hdg hM pre suf hw q0 ci he hr hR hn hst hd hcat hk (fun r u hp => by have := kk r u hp; rw [hKw] at this; exact this)
theorem z_vk (hC : zOK g C cc own d mc ms) (hy : vM y cy nl none np) (hl : Cond.methodLink own idx y ∈ aw) (hdg : decode cc pc = .ok (.invokevirtual idx, 3)) {post : S → Prop} (hM : FV g y cy nl d' 0 0 (.ref b :: As) w post w') (K : va_W → va_W) (hK : isCtx K) (hw : ws = K w) (q0 ci : Nat) {fs : List Value} {r : vw_C} (he : w[q0]? = some (b, .inr (ci, fs))) (hr : vwCl[ci]? = some r) (hR : r.1 = y.cls)
    (hn : As.length = np) (hst : st = As.reverse ++ .ref b :: rest) (hd : d' + 1 ≤ d) (hcat : (rest.map fun v => v.category).sum ≤ 8) (hk : k ≤ mc ∧ n ≤ ms)
    (kk : ∀ (u : S), post u → Z g C k n (K (w' u)) lv (pc + 3) rest) : Z g C k n ws lv pc st := by
  obtain ⟨pre, suf, hKw⟩ := hK
  rw [hKw] at hw
  exact z_vv hC hy hl hdg hM pre suf hw q0 ci he hr hR hn hst hd hcat hk (fun u hp => by have := kk u hp; rw [hKw] at this; exact this)
end ZIK
theorem GR.ring {R : St} (h : GR R) : ∀ r, r < 12 → R 2 r = 0 ∨ R 2 r = 1 := fun r hr => (h.1.2.2.2.1 r hr).1
theorem GR.pri {R : St} (h : GR R) : ∀ j, j < nn R → 0 ≤ R 9 j := fun j hj => (h.1.2.2.1 j hj).2.2.1

set_option maxRecDepth 100000 in
set_option maxHeartbeats 4000000 in
theorem k_submit {g : zG} {x : Nat} {u c a h : Nat → Nat} {e : Nat → Nat → Nat} {Q P : Nat → Int32} {T R : St} {s p : Nat} {K : Nat → St} {H : Nat → St} {t : Nat → Nat} {L : Nat} (hG : GR R) (hX : xR H s t L (Q, P, T, p, K)) {y z v w : Int32} (h0 : cSub R y z v w = 0) : FI (S := XS) g yX5_submit cX5_submit 5 .int 8 0 0 [.ref x, .int y, .int z, .int v, .int w] (xW g.2 x u c a h e Q P T R (nI s) (nI p) K) (fun r S => (cSub R y z v w) = 0 ∧ r = nI (nn R) ∧ xR (pushH H s R) (pushN s) t L S) (fun S => xW g.2 x u c a h e S.1 S.2.1 S.2.2.1 (subm R (nn R) y z v w) (nI (pushN s)) (nI S.2.2.2.1) S.2.2.2.2) := by
  refine fg_entry (px := (fun E S => (((cSub R y z v w) = 1 ∧ E = "java/lang/IllegalArgumentException") ∨ ((cSub R y z v w) = 2 ∧ E = "java/lang/IllegalStateException")) ∧ xR H s t L S)) (wx := (fun S => xW g.2 x u c a h e S.1 S.2.1 S.2.2.1 R (nI s) (nI S.2.2.2.1) S.2.2.2.2)) (fun E S hp => by simp [h0] at hp) (by decide) (Nat.le_of_ble_eq_true rfl) (fun C hC hm hE hT hTW => ?_)
  refine z_iln (pc := 0) hC 1 rfl dX5_submit_0 ?_
  refine z_iconst (pc := 1) (v := 0) hC dX5_submit_1 (by decide) ?_
  refine z_iconst (pc := 2) (v := 2) hC dX5_submit_2 (by decide) ?_
  refine z_gs (pc := 3) (rest := []) hC sX5_isWithin lX5_33 dX5_submit_3 c_within rfl rfl (by decide) (Nat.le_of_ble_eq_true rfl) ⟨Nat.zero_le _, Nat.zero_le _⟩ ?_
  refine z_ifeq (pc := 6) hC 40 (by decide) dX5_submit_6 (fun c6 => ?_) (fun c6 => ?_)
  · have hr : right y z v w = false := by simp [right, bI_0.mp c6]
    exact hT 40 _ _ _ _ "an argument is out of range" _ _ xIAE dX5_submit_40 dX5_submit_43 dX5_submit_44 dX5_submit_46 dX5_submit_49 (by decide) (Q, P, T, p, K) ⟨(Or.inl ⟨(if_pos hr), rfl⟩), hX⟩ rfl
  · have h1 : inB y 0 2 = true := bI_n.mp c6
    refine z_iln (pc := 9) hC 2 rfl dX5_submit_9 ?_
    refine z_iconst (pc := 10) (v := 1) hC dX5_submit_10 (by decide) ?_
    refine z_bipush (pc := 11) (v := 99) hC dX5_submit_11 (by decide) ?_
    refine z_gs (pc := 13) (rest := []) hC sX5_isWithin lX5_33 dX5_submit_13 c_within rfl rfl (by decide) (Nat.le_of_ble_eq_true rfl) ⟨Nat.zero_le _, Nat.zero_le _⟩ ?_
    refine z_ifeq (pc := 16) hC 40 (by decide) dX5_submit_16 (fun c16 => ?_) (fun c16 => ?_)
    · have hr : right y z v w = false := by simp [right, bI_0.mp c16]
      exact hT 40 _ _ _ _ "an argument is out of range" _ _ xIAE dX5_submit_40 dX5_submit_43 dX5_submit_44 dX5_submit_46 dX5_submit_49 (by decide) (Q, P, T, p, K) ⟨(Or.inl ⟨(if_pos hr), rfl⟩), hX⟩ rfl
    · have h2 : inB z 1 99 = true := bI_n.mp c16
      refine z_iln (pc := 19) hC 3 rfl dX5_submit_19 ?_
      refine z_iconst (pc := 20) (v := 1) hC dX5_submit_20 (by decide) ?_
      refine z_bipush (pc := 21) (v := 20) hC dX5_submit_21 (by decide) ?_
      refine z_gs (pc := 23) (rest := []) hC sX5_isWithin lX5_33 dX5_submit_23 c_within rfl rfl (by decide) (Nat.le_of_ble_eq_true rfl) ⟨Nat.zero_le _, Nat.zero_le _⟩ ?_
      refine z_ifeq (pc := 26) hC 40 (by decide) dX5_submit_26 (fun c26 => ?_) (fun c26 => ?_)
      · have hr : right y z v w = false := by simp [right, bI_0.mp c26]
        exact hT 40 _ _ _ _ "an argument is out of range" _ _ xIAE dX5_submit_40 dX5_submit_43 dX5_submit_44 dX5_submit_46 dX5_submit_49 (by decide) (Q, P, T, p, K) ⟨(Or.inl ⟨(if_pos hr), rfl⟩), hX⟩ rfl
      · have h3 : inB v 1 20 = true := bI_n.mp c26
        refine z_il (pc := 29) hC 4 rfl dX5_submit_29 ?_
        refine z_iconst (pc := 31) (v := 0) hC dX5_submit_31 (by decide) ?_
        refine z_bipush (pc := 32) (v := 9) hC dX5_submit_32 (by decide) ?_
        refine z_gs (pc := 34) (rest := []) hC sX5_isWithin lX5_33 dX5_submit_34 c_within rfl rfl (by decide) (Nat.le_of_ble_eq_true rfl) ⟨Nat.zero_le _, Nat.zero_le _⟩ ?_
        refine z_ifne (pc := 37) hC 50 (by decide) dX5_submit_37 (fun c37 => ?_) (fun c37 => ?_)
        · have hr : right y z v w = true := by simp [right, h1, h2, h3, bI_n.mp c37]
          refine z_aln (pc := 50) hC 0 rfl dX5_submit_50 ?_
          refine z_get (pc := 51) hC fX5_10 0 rfl rfl dX5_submit_51 ?_
          refine z_iln (pc := 54) hC 1 rfl dX5_submit_54 ?_
          refine z_iln (pc := 55) hC 2 rfl dX5_submit_55 ?_
          refine z_g (pc := 56) (rest := []) hC vX4_takesJob lX5_44 dX5_submit_56 (c_takesJob hG.num hG.n12) (xKr g.2 x u c a h e Q P T (nI s) (nI p) K) xKr_ctx rfl 0 4 rfl rfl rfl rfl rfl (by decide) (Nat.le_of_ble_eq_true rfl) ⟨Nat.zero_le _, Nat.zero_le _⟩ ?_
          refine z_ifne (pc := 59) hC 72 (by decide) dX5_submit_59 (fun c59 => ?_) (fun c59 => ?_)
          · have hc : canS R (nn R) y z = true := bI_n.mp c59
            refine z_aln (pc := 72) hC 0 rfl dX5_submit_72 ?_
            refine z_get (pc := 73) hC fX5_22 0 rfl rfl dX5_submit_73 ?_
            refine z_aln (pc := 76) hC 0 rfl dX5_submit_76 ?_
            refine z_get (pc := 77) hC fX5_10 0 rfl rfl dX5_submit_77 ?_
            refine z_gv (pc := 80) (rest := []) hC vX1_save lX5_53 dX5_submit_80 (c_save hG.ring hX.2.2.2.2.1 hX.2.2.2.1) (xKs g.2 x u c a h Q P T) xKs_ctx rfl 17 1 rfl rfl rfl rfl rfl (by decide) (Nat.le_of_ble_eq_true rfl) ⟨Nat.zero_le _, Nat.zero_le _⟩ ?_
            refine z_w (ws' := xW g.2 x u c a h e Q P T R (nI (pushN s)) (nI ((p + 1) % 6)) (upK K p R)) (by rw [pushN_if hX.2.2.2.1]; rfl) ?_
            refine z_aln (pc := 83) hC 0 rfl dX5_submit_83 ?_
            refine z_get (pc := 84) hC fX5_10 0 rfl rfl dX5_submit_84 ?_
            refine z_get (pc := 87) hC fX5_57 20 rfl rfl dX5_submit_87 ?_
            refine z_iln (pc := 90) hC 1 rfl dX5_submit_90 ?_
            refine z_iln (pc := 91) hC 2 rfl dX5_submit_91 ?_
            refine z_iln (pc := 92) hC 3 rfl dX5_submit_92 ?_
            refine z_il (pc := 93) hC 4 rfl dX5_submit_93 ?_
            refine z_g (pc := 95) (rest := []) hC vX2_add lX5_61 dX5_submit_95 (c_add hG.num (canS_n hc)) (xKr g.2 x u c a h e Q P T (nI (pushN s)) (nI ((p + 1) % 6)) (upK K p R)) xKr_ctx rfl 2 2 rfl rfl rfl rfl rfl (by decide) (Nat.le_of_ble_eq_true rfl) ⟨Nat.zero_le _, Nat.zero_le _⟩ ?_
            exact hE _ _ _ (Q, P, T, ((p + 1) % 6), upK K p R) _ _ _ dX5_submit_98 rfl ⟨(by simp [cSub, hr, hc]), rfl, xR_save hX⟩ rfl (Nat.zero_le _) (Nat.zero_le _)
          · have hc : canS R (nn R) y z = false := bI_0.mp c59
            exact hT 62 _ _ _ _ "the room takes no such job now" _ _ xISE dX5_submit_62 dX5_submit_65 dX5_submit_66 dX5_submit_68 dX5_submit_71 (by decide) (Q, P, T, p, K) ⟨(Or.inr ⟨(by simp [cSub, hr, hc]), rfl⟩), hX⟩ rfl
        · have hr : right y z v w = false := by simp [right, bI_0.mp c37]
          exact hT 40 _ _ _ _ "an argument is out of range" _ _ xIAE dX5_submit_40 dX5_submit_43 dX5_submit_44 dX5_submit_46 dX5_submit_49 (by decide) (Q, P, T, p, K) ⟨(Or.inl ⟨(if_pos hr), rfl⟩), hX⟩ rfl

theorem run_gt {x : Int32} (h : x = 0 ∨ x = 1 ∨ x = 2 ∨ x = 3) (h0 : ¬ x = 0) (h1 : ¬ x = 1) : 1 < x := by
  rcases h with h | h | h | h <;> subst h <;> first | exact absurd rfl h0 | exact absurd rfl h1 | decide
theorem rCan_1' {R : St} {j r : Nat} (h : R 10 j = 1) (hr : rl R j = r) : toff (setS R 10 j 3) j r = rCan R j := by unfold rCan; rw [if_pos h, hr]
theorem day_eq {x : Int32} (h : x ≤ 999) (h1 : ¬ x < 999) : x = 999 := by
  rcases Int32.lt_or_eq_of_le h with h3 | h3
  · exact absurd h3 h1
  · exact h3
theorem set_cases (y : Int32) : y = 0 ∨ y = 1 ∨ (¬ y = 0 ∧ ¬ y = 1) := by
  by_cases h : y = 0
  · exact Or.inl h
  · by_cases h1 : y = 1
    · exact Or.inr (Or.inl h1)
    · exact Or.inr (Or.inr ⟨h, h1⟩)
theorem set_out {y z : Int32} (h : ¬ y = 0 ∧ ¬ y = 1) : cSet y z = 1 := by
  unfold cSet; rw [if_pos]
  cases e : inB y 0 1 with
  | false => rfl
  | true =>
    obtain ⟨h1, h2⟩ := in_ix (n := 1) (by decide) rfl e
    have : ix y = 0 ∨ ix y = 1 := by omega
    rcases this with h3 | h3
    · exact absurd (h2.trans (by rw [h3]; rfl)) h.1
    · exact absurd (h2.trans (by rw [h3]; rfl)) h.2

set_option maxRecDepth 100000 in
set_option maxHeartbeats 4000000 in
theorem k_cancel {g : zG} {x : Nat} {u c a h : Nat → Nat} {e : Nat → Nat → Nat} {Q P : Nat → Int32} {T R : St} {s p : Nat} {K : Nat → St} {H : Nat → St} {t : Nat → Nat} {L : Nat} (hG : GR R) (hX : xR H s t L (Q, P, T, p, K)) {y : Int32} (h0 : cCan R y = 0) : FI (S := XS) g yX5_cancel cX5_cancel 2 .int 8 0 0 [.ref x, .int y] (xW g.2 x u c a h e Q P T R (nI s) (nI p) K) (fun r S => (cCan R y) = 0 ∧ r = R 11 (ix y) ∧ xR (pushH H s R) (pushN s) t L S) (fun S => xW g.2 x u c a h e S.1 S.2.1 S.2.2.1 (rCan R (ix y)) (nI (pushN s)) (nI S.2.2.2.1) S.2.2.2.2) := by
  refine fg_entry (px := (fun E S => (((cCan R y) = 1 ∧ E = "java/lang/IndexOutOfBoundsException") ∨ ((cCan R y) = 2 ∧ E = "java/lang/IllegalStateException")) ∧ xR H s t L S)) (wx := (fun S => xW g.2 x u c a h e S.1 S.2.1 S.2.2.1 R (nI s) (nI S.2.2.2.1) S.2.2.2.2)) (fun E S hp => by simp [h0] at hp) (by decide) (Nat.le_of_ble_eq_true rfl) (fun C hC hm hE hT hTW => ?_)
  refine z_aln (pc := 0) hC 0 rfl dX5_cancel_0 ?_
  refine z_get (pc := 1) hC fX5_10 0 rfl rfl dX5_cancel_1 ?_
  refine z_get (pc := 4) hC fX5_57 20 rfl rfl dX5_cancel_4 ?_
  refine z_iln (pc := 7) hC 1 rfl dX5_cancel_7 ?_
  refine z_g (pc := 8) (rest := []) hC vX2_has lX5_67 dX5_cancel_8 c_has (xKr g.2 x u c a h e Q P T (nI s) (nI p) K) xKr_ctx rfl 2 2 rfl rfl rfl rfl rfl (by decide) (Nat.le_of_ble_eq_true rfl) ⟨Nat.zero_le _, Nat.zero_le _⟩ ?_
  refine z_ifne (pc := 11) hC 24 (by decide) dX5_cancel_11 (fun c11 => ?_) (fun c11 => ?_)
  · have h1 : isJob R y = true := bI_n.mp c11
    obtain ⟨hjn, hj, hx⟩ := job_ix hG h1
    refine z_aln (pc := 24) hC 0 rfl dX5_cancel_24 ?_
    refine z_get (pc := 25) hC fX5_10 0 rfl rfl dX5_cancel_25 ?_
    refine z_get (pc := 28) hC fX5_57 20 rfl rfl dX5_cancel_28 ?_
    refine z_get (pc := 31) hC fX5_76 22 rfl rfl dX5_cancel_31 ?_
    refine z_iln (pc := 34) hC 1 rfl dX5_cancel_34 ?_
    refine z_is_ (y := nI (ix y)) hx ?_
    refine z_iald (pc := 35) hC 33 rfl dX5_cancel_35 (ix y) rfl (by omega) (by decide) ?_
    refine z_ifeq (pc := 36) hC 65 (by decide) dX5_cancel_36 (fun c36 => ?_) (fun c36 => ?_)
    · have hle : ¬ 1 < R 10 (ix y) := by rw [c36]; decide
      refine z_aln (pc := 65) hC 0 rfl dX5_cancel_65 ?_
      refine z_get (pc := 66) hC fX5_22 0 rfl rfl dX5_cancel_66 ?_
      refine z_aln (pc := 69) hC 0 rfl dX5_cancel_69 ?_
      refine z_get (pc := 70) hC fX5_10 0 rfl rfl dX5_cancel_70 ?_
      refine z_gv (pc := 73) (rest := []) hC vX1_save lX5_53 dX5_cancel_73 (c_save hG.ring hX.2.2.2.2.1 hX.2.2.2.1) (xKs g.2 x u c a h Q P T) xKs_ctx rfl 17 1 rfl rfl rfl rfl rfl (by decide) (Nat.le_of_ble_eq_true rfl) ⟨Nat.zero_le _, Nat.zero_le _⟩ ?_
      refine z_w (ws' := xW g.2 x u c a h e Q P T R (nI (pushN s)) (nI ((p + 1) % 6)) (upK K p R)) (by rw [pushN_if hX.2.2.2.1]; rfl) ?_
      refine z_aln (pc := 76) hC 0 rfl dX5_cancel_76 ?_
      refine z_get (pc := 77) hC fX5_10 0 rfl rfl dX5_cancel_77 ?_
      refine z_iln (pc := 80) hC 1 rfl dX5_cancel_80 ?_
      refine z_is_ (y := nI (ix y)) hx ?_
      refine z_iconst (pc := 81) (v := 3) hC dX5_cancel_81 (by decide) ?_
      by_cases hs1 : R 10 (ix y) = 1
      · obtain ⟨r, hr, h12⟩ := (hG.1.2.2.1 _ hjn).1 hs1
        refine z_gv (pc := 82) (rest := []) hC vX4_endJob lX5_82 dX5_cancel_82 (c_endJob hj hr h12) (xKr g.2 x u c a h e Q P T (nI (pushN s)) (nI ((p + 1) % 6)) (upK K p R)) xKr_ctx rfl 0 4 rfl rfl rfl rfl rfl (by decide) (Nat.le_of_ble_eq_true rfl) ⟨Nat.zero_le _, Nat.zero_le _⟩ ?_
        refine z_w (ws' := xW g.2 x u c a h e Q P T (rCan R (ix y)) (nI (pushN s)) (nI ((p + 1) % 6)) (upK K p R)) (by rw [rCan_1' hs1 (rl_eq h12 hr)]; rfl) ?_
        refine z_aln (pc := 85) hC 0 rfl dX5_cancel_85 ?_
        refine z_get (pc := 86) hC fX5_10 0 rfl rfl dX5_cancel_86 ?_
        refine z_get (pc := 89) hC fX5_57 20 rfl rfl dX5_cancel_89 ?_
        refine z_get (pc := 92) hC fX5_86 22 rfl rfl dX5_cancel_92 ?_
        refine z_iln (pc := 95) hC 1 rfl dX5_cancel_95 ?_
        refine z_is_ (y := nI (ix y)) hx ?_
        refine z_iald (pc := 96) hC 34 rfl dX5_cancel_96 (ix y) rfl (by omega) (by decide) ?_
        refine z_is_ (y := R 11 (ix y)) rCan_11 ?_
        exact hE _ _ _ (Q, P, T, ((p + 1) % 6), upK K p R) _ _ _ dX5_cancel_97 rfl ⟨(by simp [cCan, h1, hle]), rfl, xR_save hX⟩ rfl (Nat.zero_le _) (Nat.zero_le _)
      · refine z_gv (pc := 82) (rest := []) hC vX4_endJob lX5_82 dX5_cancel_82 (c_endJob0 hj ((hG.1.2.2.1 _ hjn).2.1 hs1)) (xKr g.2 x u c a h e Q P T (nI (pushN s)) (nI ((p + 1) % 6)) (upK K p R)) xKr_ctx rfl 0 4 rfl rfl rfl rfl rfl (by decide) (Nat.le_of_ble_eq_true rfl) ⟨Nat.zero_le _, Nat.zero_le _⟩ ?_
        refine z_w (ws' := xW g.2 x u c a h e Q P T (rCan R (ix y)) (nI (pushN s)) (nI ((p + 1) % 6)) (upK K p R)) (by rw [rCan_0 hs1]; rfl) ?_
        refine z_aln (pc := 85) hC 0 rfl dX5_cancel_85 ?_
        refine z_get (pc := 86) hC fX5_10 0 rfl rfl dX5_cancel_86 ?_
        refine z_get (pc := 89) hC fX5_57 20 rfl rfl dX5_cancel_89 ?_
        refine z_get (pc := 92) hC fX5_86 22 rfl rfl dX5_cancel_92 ?_
        refine z_iln (pc := 95) hC 1 rfl dX5_cancel_95 ?_
        refine z_is_ (y := nI (ix y)) hx ?_
        refine z_iald (pc := 96) hC 34 rfl dX5_cancel_96 (ix y) rfl (by omega) (by decide) ?_
        refine z_is_ (y := R 11 (ix y)) rCan_11 ?_
        exact hE _ _ _ (Q, P, T, ((p + 1) % 6), upK K p R) _ _ _ dX5_cancel_97 rfl ⟨(by simp [cCan, h1, hle]), rfl, xR_save hX⟩ rfl (Nat.zero_le _) (Nat.zero_le _)
    · refine z_aln (pc := 39) hC 0 rfl dX5_cancel_39 ?_
      refine z_get (pc := 40) hC fX5_10 0 rfl rfl dX5_cancel_40 ?_
      refine z_get (pc := 43) hC fX5_57 20 rfl rfl dX5_cancel_43 ?_
      refine z_get (pc := 46) hC fX5_76 22 rfl rfl dX5_cancel_46 ?_
      refine z_iln (pc := 49) hC 1 rfl dX5_cancel_49 ?_
      refine z_is_ (y := nI (ix y)) hx ?_
      refine z_iald (pc := 50) hC 33 rfl dX5_cancel_50 (ix y) rfl (by omega) (by decide) ?_
      refine z_iconst (pc := 51) (v := 1) hC dX5_cancel_51 (by decide) ?_
      refine z_iceq (pc := 52) hC 65 (by decide) dX5_cancel_52 (fun c52 => ?_) (fun c52 => ?_)
      · have hle : ¬ 1 < R 10 (ix y) := by rw [c52]; decide
        refine z_aln (pc := 65) hC 0 rfl dX5_cancel_65 ?_
        refine z_get (pc := 66) hC fX5_22 0 rfl rfl dX5_cancel_66 ?_
        refine z_aln (pc := 69) hC 0 rfl dX5_cancel_69 ?_
        refine z_get (pc := 70) hC fX5_10 0 rfl rfl dX5_cancel_70 ?_
        refine z_gv (pc := 73) (rest := []) hC vX1_save lX5_53 dX5_cancel_73 (c_save hG.ring hX.2.2.2.2.1 hX.2.2.2.1) (xKs g.2 x u c a h Q P T) xKs_ctx rfl 17 1 rfl rfl rfl rfl rfl (by decide) (Nat.le_of_ble_eq_true rfl) ⟨Nat.zero_le _, Nat.zero_le _⟩ ?_
        refine z_w (ws' := xW g.2 x u c a h e Q P T R (nI (pushN s)) (nI ((p + 1) % 6)) (upK K p R)) (by rw [pushN_if hX.2.2.2.1]; rfl) ?_
        refine z_aln (pc := 76) hC 0 rfl dX5_cancel_76 ?_
        refine z_get (pc := 77) hC fX5_10 0 rfl rfl dX5_cancel_77 ?_
        refine z_iln (pc := 80) hC 1 rfl dX5_cancel_80 ?_
        refine z_is_ (y := nI (ix y)) hx ?_
        refine z_iconst (pc := 81) (v := 3) hC dX5_cancel_81 (by decide) ?_
        by_cases hs1 : R 10 (ix y) = 1
        · obtain ⟨r, hr, h12⟩ := (hG.1.2.2.1 _ hjn).1 hs1
          refine z_gv (pc := 82) (rest := []) hC vX4_endJob lX5_82 dX5_cancel_82 (c_endJob hj hr h12) (xKr g.2 x u c a h e Q P T (nI (pushN s)) (nI ((p + 1) % 6)) (upK K p R)) xKr_ctx rfl 0 4 rfl rfl rfl rfl rfl (by decide) (Nat.le_of_ble_eq_true rfl) ⟨Nat.zero_le _, Nat.zero_le _⟩ ?_
          refine z_w (ws' := xW g.2 x u c a h e Q P T (rCan R (ix y)) (nI (pushN s)) (nI ((p + 1) % 6)) (upK K p R)) (by rw [rCan_1' hs1 (rl_eq h12 hr)]; rfl) ?_
          refine z_aln (pc := 85) hC 0 rfl dX5_cancel_85 ?_
          refine z_get (pc := 86) hC fX5_10 0 rfl rfl dX5_cancel_86 ?_
          refine z_get (pc := 89) hC fX5_57 20 rfl rfl dX5_cancel_89 ?_
          refine z_get (pc := 92) hC fX5_86 22 rfl rfl dX5_cancel_92 ?_
          refine z_iln (pc := 95) hC 1 rfl dX5_cancel_95 ?_
          refine z_is_ (y := nI (ix y)) hx ?_
          refine z_iald (pc := 96) hC 34 rfl dX5_cancel_96 (ix y) rfl (by omega) (by decide) ?_
          refine z_is_ (y := R 11 (ix y)) rCan_11 ?_
          exact hE _ _ _ (Q, P, T, ((p + 1) % 6), upK K p R) _ _ _ dX5_cancel_97 rfl ⟨(by simp [cCan, h1, hle]), rfl, xR_save hX⟩ rfl (Nat.zero_le _) (Nat.zero_le _)
        · refine z_gv (pc := 82) (rest := []) hC vX4_endJob lX5_82 dX5_cancel_82 (c_endJob0 hj ((hG.1.2.2.1 _ hjn).2.1 hs1)) (xKr g.2 x u c a h e Q P T (nI (pushN s)) (nI ((p + 1) % 6)) (upK K p R)) xKr_ctx rfl 0 4 rfl rfl rfl rfl rfl (by decide) (Nat.le_of_ble_eq_true rfl) ⟨Nat.zero_le _, Nat.zero_le _⟩ ?_
          refine z_w (ws' := xW g.2 x u c a h e Q P T (rCan R (ix y)) (nI (pushN s)) (nI ((p + 1) % 6)) (upK K p R)) (by rw [rCan_0 hs1]; rfl) ?_
          refine z_aln (pc := 85) hC 0 rfl dX5_cancel_85 ?_
          refine z_get (pc := 86) hC fX5_10 0 rfl rfl dX5_cancel_86 ?_
          refine z_get (pc := 89) hC fX5_57 20 rfl rfl dX5_cancel_89 ?_
          refine z_get (pc := 92) hC fX5_86 22 rfl rfl dX5_cancel_92 ?_
          refine z_iln (pc := 95) hC 1 rfl dX5_cancel_95 ?_
          refine z_is_ (y := nI (ix y)) hx ?_
          refine z_iald (pc := 96) hC 34 rfl dX5_cancel_96 (ix y) rfl (by omega) (by decide) ?_
          refine z_is_ (y := R 11 (ix y)) rCan_11 ?_
          exact hE _ _ _ (Q, P, T, ((p + 1) % 6), upK K p R) _ _ _ dX5_cancel_97 rfl ⟨(by simp [cCan, h1, hle]), rfl, xR_save hX⟩ rfl (Nat.zero_le _) (Nat.zero_le _)
      · have hgt : 1 < R 10 (ix y) := run_gt (hG.1.2.2.1 _ hjn).2.2.2.2 c36 c52
        exact hT 55 _ _ _ _ "the job neither waits nor runs" _ _ xISE dX5_cancel_55 dX5_cancel_58 dX5_cancel_59 dX5_cancel_61 dX5_cancel_64 (by decide) (Q, P, T, p, K) ⟨(Or.inr ⟨(by simp [cCan, h1, hgt]), rfl⟩), hX⟩ rfl
  · have h1 : isJob R y = false := bI_0.mp c11
    exact hT 14 _ _ _ _ "no such job" _ _ xIOE dX5_cancel_14 dX5_cancel_17 dX5_cancel_18 dX5_cancel_20 dX5_cancel_23 (by decide) (Q, P, T, p, K) ⟨(Or.inl ⟨(if_pos h1), rfl⟩), hX⟩ rfl

set_option maxRecDepth 100000 in
set_option maxHeartbeats 4000000 in
theorem k_setSticker {g : zG} {x : Nat} {u c a h : Nat → Nat} {e : Nat → Nat → Nat} {Q P : Nat → Int32} {T R : St} {s p : Nat} {K : Nat → St} {H : Nat → St} {t : Nat → Nat} {L : Nat} (hG : GR R) (hX : xR H s t L (Q, P, T, p, K)) {y z : Int32} (h0 : cSti y z = 0) : FI (S := XS) g yX5_setSticker cX5_setSticker 4 .int 8 0 0 [.ref x, .int y, .int z] (xW g.2 x u c a h e Q P T R (nI s) (nI p) K) (fun r S => (cSti y z) = 0 ∧ r = R 1 (ix y) ∧ xR (pushH H s R) (pushN s) t L S) (fun S => xW g.2 x u c a h e S.1 S.2.1 S.2.2.1 (setS R 1 (ix y) z) (nI (pushN s)) (nI S.2.2.2.1) S.2.2.2.2) := by
  refine fg_entry (px := (fun E S => (((cSti y z) = 1 ∧ E = "java/lang/IndexOutOfBoundsException") ∨ ((cSti y z) = 2 ∧ E = "java/lang/IllegalArgumentException")) ∧ xR H s t L S)) (wx := (fun S => xW g.2 x u c a h e S.1 S.2.1 S.2.2.1 R (nI s) (nI S.2.2.2.1) S.2.2.2.2)) (fun E S hp => by simp [h0] at hp) (by decide) (Nat.le_of_ble_eq_true rfl) (fun C hC hm hE hT hTW => ?_)
  refine z_iln (pc := 0) hC 1 rfl dX5_setSticker_0 ?_
  refine z_gs (pc := 1) (rest := []) hC sX5_isReel lX5_89 dX5_setSticker_1 c_isReel rfl rfl (by decide) (Nat.le_of_ble_eq_true rfl) ⟨Nat.zero_le _, Nat.zero_le _⟩ ?_
  refine z_ifne (pc := 4) hC 17 (by decide) dX5_setSticker_4 (fun c4 => ?_) (fun c4 => ?_)
  · have h1 : isReel y = true := bI_n.mp c4
    obtain ⟨hr, hx⟩ := reel_ix h1
    refine z_iln (pc := 17) hC 2 rfl dX5_setSticker_17 ?_
    refine z_iconst (pc := 18) (v := 0) hC dX5_setSticker_18 (by decide) ?_
    refine z_bipush (pc := 19) (v := 99) hC dX5_setSticker_19 (by decide) ?_
    refine z_gs (pc := 21) (rest := []) hC sX5_isWithin lX5_33 dX5_setSticker_21 c_within rfl rfl (by decide) (Nat.le_of_ble_eq_true rfl) ⟨Nat.zero_le _, Nat.zero_le _⟩ ?_
    refine z_ifne (pc := 24) hC 37 (by decide) dX5_setSticker_24 (fun c24 => ?_) (fun c24 => ?_)
    · have h2 : inB z 0 99 = true := bI_n.mp c24
      refine z_aln (pc := 37) hC 0 rfl dX5_setSticker_37 ?_
      refine z_get (pc := 38) hC fX5_22 0 rfl rfl dX5_setSticker_38 ?_
      refine z_aln (pc := 41) hC 0 rfl dX5_setSticker_41 ?_
      refine z_get (pc := 42) hC fX5_10 0 rfl rfl dX5_setSticker_42 ?_
      refine z_gv (pc := 45) (rest := []) hC vX1_save lX5_53 dX5_setSticker_45 (c_save hG.ring hX.2.2.2.2.1 hX.2.2.2.1) (xKs g.2 x u c a h Q P T) xKs_ctx rfl 17 1 rfl rfl rfl rfl rfl (by decide) (Nat.le_of_ble_eq_true rfl) ⟨Nat.zero_le _, Nat.zero_le _⟩ ?_
      refine z_w (ws' := xW g.2 x u c a h e Q P T R (nI (pushN s)) (nI ((p + 1) % 6)) (upK K p R)) (by rw [pushN_if hX.2.2.2.1]; rfl) ?_
      refine z_aln (pc := 48) hC 0 rfl dX5_setSticker_48 ?_
      refine z_get (pc := 49) hC fX5_10 0 rfl rfl dX5_setSticker_49 ?_
      refine z_get (pc := 52) hC fX5_96 20 rfl rfl dX5_setSticker_52 ?_
      refine z_get (pc := 55) hC fX5_100 21 rfl rfl dX5_setSticker_55 ?_
      refine z_iln (pc := 58) hC 1 rfl dX5_setSticker_58 ?_
      refine z_is_ (y := nI (ix y)) hx ?_
      refine z_iald (pc := 59) hC 24 rfl dX5_setSticker_59 (ix y) rfl (by omega) (by decide) ?_
      refine z_isn (pc := 60) (lv' := [(3, .int (R 1 (ix y))), (0, .ref x), (1, .int y), (2, .int z)]) hC hm (by decide) rfl dX5_setSticker_60 ?_
      refine z_aln (pc := 61) hC 1 rfl dX5_setSticker_61 ?_
      refine z_get (pc := 62) hC fX5_10 0 rfl rfl dX5_setSticker_62 ?_
      refine z_get (pc := 65) hC fX5_96 20 rfl rfl dX5_setSticker_65 ?_
      refine z_get (pc := 68) hC fX5_100 21 rfl rfl dX5_setSticker_68 ?_
      refine z_iln (pc := 71) hC 2 rfl dX5_setSticker_71 ?_
      refine z_is_ (y := nI (ix y)) hx ?_
      refine z_iln (pc := 72) hC 3 rfl dX5_setSticker_72 ?_
      refine z_iast (pc := 73) (ws' := xW g.2 x u c a h e Q P T (setS R 1 (ix y) z) (nI (pushN s)) (nI ((p + 1) % 6)) (upK K p R)) hC 24 rfl dX5_setSticker_73 (ix y) rfl (by omega) (by decide) rfl ?_
      refine z_iln (pc := 74) hC 0 rfl dX5_setSticker_74 ?_
      exact hE _ _ _ (Q, P, T, ((p + 1) % 6), upK K p R) _ _ _ dX5_setSticker_75 rfl ⟨(by simp [cSti, h1, h2]), rfl, xR_save hX⟩ rfl (Nat.zero_le _) (Nat.zero_le _)
    · have h2 : inB z 0 99 = false := bI_0.mp c24
      exact hT 27 _ _ _ _ "the volume is out of range" _ _ xIAE dX5_setSticker_27 dX5_setSticker_30 dX5_setSticker_31 dX5_setSticker_33 dX5_setSticker_36 (by decide) (Q, P, T, p, K) ⟨(Or.inr ⟨(by simp [cSti, h1, h2]), rfl⟩), hX⟩ rfl
  · have h1 : isReel y = false := bI_0.mp c4
    exact hT 7 _ _ _ _ "no such reel" _ _ xIOE dX5_setSticker_7 dX5_setSticker_10 dX5_setSticker_11 dX5_setSticker_13 dX5_setSticker_16 (by decide) (Q, P, T, p, K) ⟨(Or.inl ⟨(if_pos h1), rfl⟩), hX⟩ rfl

set_option maxRecDepth 100000 in
set_option maxHeartbeats 4000000 in
theorem k_setRing {g : zG} {x : Nat} {u c a h : Nat → Nat} {e : Nat → Nat → Nat} {Q P : Nat → Int32} {T R : St} {s p : Nat} {K : Nat → St} {H : Nat → St} {t : Nat → Nat} {L : Nat} (hG : GR R) (hX : xR H s t L (Q, P, T, p, K)) {y z : Int32} (hz : z = 0 ∨ z = 1) (h0 : cRing R y = 0) : FI (S := XS) g yX5_setRing cX5_setRing 4 .boolean 8 0 0 [.ref x, .int y, .int z] (xW g.2 x u c a h e Q P T R (nI s) (nI p) K) (fun r S => (cRing R y) = 0 ∧ r = R 2 (ix y) ∧ xR (pushH H s R) (pushN s) t L S) (fun S => xW g.2 x u c a h e S.1 S.2.1 S.2.2.1 (setS R 2 (ix y) z) (nI (pushN s)) (nI S.2.2.2.1) S.2.2.2.2) := by
  refine fg_entry (px := (fun E S => (((cRing R y) = 1 ∧ E = "java/lang/IndexOutOfBoundsException") ∨ ((cRing R y) = 2 ∧ E = "java/lang/IllegalStateException")) ∧ xR H s t L S)) (wx := (fun S => xW g.2 x u c a h e S.1 S.2.1 S.2.2.1 R (nI s) (nI S.2.2.2.1) S.2.2.2.2)) (fun E S hp => by simp [h0] at hp) (by decide) (Nat.le_of_ble_eq_true rfl) (fun C hC hm hE hT hTW => ?_)
  refine z_iln (pc := 0) hC 1 rfl dX5_setRing_0 ?_
  refine z_gs (pc := 1) (rest := []) hC sX5_isReel lX5_89 dX5_setRing_1 c_isReel rfl rfl (by decide) (Nat.le_of_ble_eq_true rfl) ⟨Nat.zero_le _, Nat.zero_le _⟩ ?_
  refine z_ifne (pc := 4) hC 17 (by decide) dX5_setRing_4 (fun c4 => ?_) (fun c4 => ?_)
  · have h1 : isReel y = true := bI_n.mp c4
    obtain ⟨hr, hx⟩ := reel_ix h1
    refine z_aln (pc := 17) hC 0 rfl dX5_setRing_17 ?_
    refine z_get (pc := 18) hC fX5_10 0 rfl rfl dX5_setRing_18 ?_
    refine z_get (pc := 21) hC fX5_96 20 rfl rfl dX5_setRing_21 ?_
    refine z_get (pc := 24) hC fX5_105 21 rfl rfl dX5_setRing_24 ?_
    refine z_iln (pc := 27) hC 1 rfl dX5_setRing_27 ?_
    refine z_is_ (y := nI (ix y)) hx ?_
    refine z_iald (pc := 28) hC 28 rfl dX5_setRing_28 (ix y) rfl (by omega) (by decide) ?_
    refine z_iconst (pc := 29) (v := -1) hC dX5_setRing_29 (by decide) ?_
    refine z_iceq (pc := 30) hC 43 (by decide) dX5_setRing_30 (fun c30 => ?_) (fun c30 => ?_)
    · have h2 : onSh R (ix y) = true := by simp [onSh, c30]
      refine z_aln (pc := 43) hC 0 rfl dX5_setRing_43 ?_
      refine z_get (pc := 44) hC fX5_22 0 rfl rfl dX5_setRing_44 ?_
      refine z_aln (pc := 47) hC 0 rfl dX5_setRing_47 ?_
      refine z_get (pc := 48) hC fX5_10 0 rfl rfl dX5_setRing_48 ?_
      refine z_gv (pc := 51) (rest := []) hC vX1_save lX5_53 dX5_setRing_51 (c_save hG.ring hX.2.2.2.2.1 hX.2.2.2.1) (xKs g.2 x u c a h Q P T) xKs_ctx rfl 17 1 rfl rfl rfl rfl rfl (by decide) (Nat.le_of_ble_eq_true rfl) ⟨Nat.zero_le _, Nat.zero_le _⟩ ?_
      refine z_w (ws' := xW g.2 x u c a h e Q P T R (nI (pushN s)) (nI ((p + 1) % 6)) (upK K p R)) (by rw [pushN_if hX.2.2.2.1]; rfl) ?_
      refine z_aln (pc := 54) hC 0 rfl dX5_setRing_54 ?_
      refine z_get (pc := 55) hC fX5_10 0 rfl rfl dX5_setRing_55 ?_
      refine z_get (pc := 58) hC fX5_96 20 rfl rfl dX5_setRing_58 ?_
      refine z_get (pc := 61) hC fX5_110 21 rfl rfl dX5_setRing_61 ?_
      refine z_iln (pc := 64) hC 1 rfl dX5_setRing_64 ?_
      refine z_is_ (y := nI (ix y)) hx ?_
      refine z_zald (pc := 65) hC 25 rfl dX5_setRing_65 (ix y) rfl (by omega) (by decide) ?_
      refine z_isn (pc := 66) (lv' := [(3, .int (R 2 (ix y))), (0, .ref x), (1, .int y), (2, .int z)]) hC hm (by decide) rfl dX5_setRing_66 ?_
      refine z_aln (pc := 67) hC 1 rfl dX5_setRing_67 ?_
      refine z_get (pc := 68) hC fX5_10 0 rfl rfl dX5_setRing_68 ?_
      refine z_get (pc := 71) hC fX5_96 20 rfl rfl dX5_setRing_71 ?_
      refine z_get (pc := 74) hC fX5_110 21 rfl rfl dX5_setRing_74 ?_
      refine z_iln (pc := 77) hC 2 rfl dX5_setRing_77 ?_
      refine z_is_ (y := nI (ix y)) hx ?_
      refine z_iln (pc := 78) hC 3 rfl dX5_setRing_78 ?_
      refine z_zast (pc := 79) (ws' := xW g.2 x u c a h e Q P T (setS R 2 (ix y) z) (nI (pushN s)) (nI ((p + 1) % 6)) (upK K p R)) hC 25 rfl dX5_setRing_79 (ix y) rfl (by omega) (by decide) (by rcases hz with h | h <;> rw [h] <;> rfl) rfl ?_
      refine z_iln (pc := 80) hC 0 rfl dX5_setRing_80 ?_
      exact hE _ _ _ (Q, P, T, ((p + 1) % 6), upK K p R) _ _ _ dX5_setRing_81 (by rcases hG.ring _ hr with h | h <;> rw [h] <;> rfl) ⟨(by simp [cRing, h1, h2]), rfl, xR_save hX⟩ rfl (Nat.zero_le _) (Nat.zero_le _)
    · have h2 : onSh R (ix y) = false := by simp [onSh, c30]
      exact hT 33 _ _ _ _ "the reel is on a drive" _ _ xISE dX5_setRing_33 dX5_setRing_36 dX5_setRing_37 dX5_setRing_39 dX5_setRing_42 (by decide) (Q, P, T, p, K) ⟨(Or.inr ⟨(by simp [cRing, h1, h2]), rfl⟩), hX⟩ rfl
  · have h1 : isReel y = false := bI_0.mp c4
    exact hT 7 _ _ _ _ "no such reel" _ _ xIOE dX5_setRing_7 dX5_setRing_10 dX5_setRing_11 dX5_setRing_13 dX5_setRing_16 (by decide) (Q, P, T, p, K) ⟨(Or.inl ⟨(if_pos h1), rfl⟩), hX⟩ rfl

set_option maxRecDepth 100000 in
set_option maxHeartbeats 4000000 in
theorem k_pass {g : zG} {x : Nat} {u c a h : Nat → Nat} {e : Nat → Nat → Nat} {Q P : Nat → Int32} {T R : St} {s p : Nat} {K : Nat → St} {H : Nat → St} {t : Nat → Nat} {L : Nat} (hG : GR R) (hX : xR H s t L (Q, P, T, p, K)) {y : Int32} (h0 : cPass y = 0) : FI (S := XS) g yX5_pass cX5_pass 2 .int 8 0 0 [.ref x, .int y] (xW g.2 x u c a h e Q P T R (nI s) (nI p) K) (fun r S => (cPass y) = 0 ∧ r = (pas (nn R) (ix y) (R, 0)).2 ∧ xR (pushH H s R) (pushN s) t L S) (fun S => xW g.2 x u c a h e S.1 S.2.1 S.2.2.1 ((pas (nn R) (ix y) (R, 0)).1) (nI (pushN s)) (nI S.2.2.2.1) S.2.2.2.2) := by
  refine fg_entry (px := (fun E S => (((cPass y) = 1 ∧ E = "java/lang/IllegalArgumentException")) ∧ xR H s t L S)) (wx := (fun S => xW g.2 x u c a h e S.1 S.2.1 S.2.2.1 R (nI s) (nI S.2.2.2.1) S.2.2.2.2)) (fun E S hp => by simp [h0] at hp) (by decide) (Nat.le_of_ble_eq_true rfl) (fun C hC hm hE hT hTW => ?_)
  refine z_iln (pc := 0) hC 1 rfl dX5_pass_0 ?_
  refine z_iconst (pc := 1) (v := 1) hC dX5_pass_1 (by decide) ?_
  refine z_bipush (pc := 2) (v := 99) hC dX5_pass_2 (by decide) ?_
  refine z_gs (pc := 4) (rest := []) hC sX5_isWithin lX5_33 dX5_pass_4 c_within rfl rfl (by decide) (Nat.le_of_ble_eq_true rfl) ⟨Nat.zero_le _, Nat.zero_le _⟩ ?_
  refine z_ifne (pc := 7) hC 20 (by decide) dX5_pass_7 (fun c7 => ?_) (fun c7 => ?_)
  · have h1 : inB y 1 99 = true := bI_n.mp c7
    obtain ⟨hx1, hx⟩ := pass_ix h1
    refine z_aln (pc := 20) hC 0 rfl dX5_pass_20 ?_
    refine z_get (pc := 21) hC fX5_22 0 rfl rfl dX5_pass_21 ?_
    refine z_aln (pc := 24) hC 0 rfl dX5_pass_24 ?_
    refine z_get (pc := 25) hC fX5_10 0 rfl rfl dX5_pass_25 ?_
    refine z_gv (pc := 28) (rest := []) hC vX1_save lX5_53 dX5_pass_28 (c_save hG.ring hX.2.2.2.2.1 hX.2.2.2.1) (xKs g.2 x u c a h Q P T) xKs_ctx rfl 17 1 rfl rfl rfl rfl rfl (by decide) (Nat.le_of_ble_eq_true rfl) ⟨Nat.zero_le _, Nat.zero_le _⟩ ?_
    refine z_w (ws' := xW g.2 x u c a h e Q P T R (nI (pushN s)) (nI ((p + 1) % 6)) (upK K p R)) (by rw [pushN_if hX.2.2.2.1]; rfl) ?_
    refine z_aln (pc := 31) hC 0 rfl dX5_pass_31 ?_
    refine z_get (pc := 32) hC fX5_10 0 rfl rfl dX5_pass_32 ?_
    refine z_iln (pc := 35) hC 1 rfl dX5_pass_35 ?_
    refine z_is_ (y := nI (ix y)) hx ?_
    refine z_g (pc := 36) (rest := []) hC vX4_runMinutes lX5_116 dX5_pass_36 (c_runMinutes hG.1 hx1) (xKr g.2 x u c a h e Q P T (nI (pushN s)) (nI ((p + 1) % 6)) (upK K p R)) xKr_ctx rfl 0 4 rfl rfl rfl rfl rfl (by decide) (Nat.le_of_ble_eq_true rfl) ⟨Nat.zero_le _, Nat.zero_le _⟩ ?_
    exact hE _ _ _ (Q, P, T, ((p + 1) % 6), upK K p R) _ _ _ dX5_pass_39 rfl ⟨(by simp [cPass, h1]), rfl, xR_save hX⟩ rfl (Nat.zero_le _) (Nat.zero_le _)
  · have h1 : inB y 1 99 = false := bI_0.mp c7
    exact hT 10 _ _ _ _ "the number of minutes is out of range" _ _ xIAE dX5_pass_10 dX5_pass_13 dX5_pass_14 dX5_pass_16 dX5_pass_19 (by decide) (Q, P, T, p, K) ⟨⟨(if_pos h1), rfl⟩, hX⟩ rfl

set_option maxRecDepth 100000 in
set_option maxHeartbeats 4000000 in
theorem k_nextDay {g : zG} {x : Nat} {u c a h : Nat → Nat} {e : Nat → Nat → Nat} {Q P : Nat → Int32} {T R : St} {s p : Nat} {K : Nat → St} {H : Nat → St} {t : Nat → Nat} {L : Nat} (hG : GR R) (hX : xR H s t L (Q, P, T, p, K)) (h0 : cDay R = 0) : FI (S := XS) g yX5_nextDay cX5_nextDay 1 .int 8 0 0 [.ref x] (xW g.2 x u c a h e Q P T R (nI s) (nI p) K) (fun r S => (cDay R) = 0 ∧ r = R 14 0 + 1 ∧ xR (pushH H s R) (pushN s) t L S) (fun S => xW g.2 x u c a h e S.1 S.2.1 S.2.2.1 (setS R 14 0 (R 14 0 + 1)) (nI (pushN s)) (nI S.2.2.2.1) S.2.2.2.2) := by
  refine fg_entry (px := (fun E S => (((cDay R) = 1 ∧ E = "java/lang/IllegalStateException")) ∧ xR H s t L S)) (wx := (fun S => xW g.2 x u c a h e S.1 S.2.1 S.2.2.1 R (nI s) (nI S.2.2.2.1) S.2.2.2.2)) (fun E S hp => by simp [h0] at hp) (by decide) (Nat.le_of_ble_eq_true rfl) (fun C hC hm hE hT hTW => ?_)
  refine z_aln (pc := 0) hC 0 rfl dX5_nextDay_0 ?_
  refine z_get (pc := 1) hC fX5_10 0 rfl rfl dX5_nextDay_1 ?_
  refine z_g (pc := 4) (rest := []) hC vX4_hasNextDay lX5_120 dX5_nextDay_4 c_hasNextDay (xKr g.2 x u c a h e Q P T (nI s) (nI p) K) xKr_ctx rfl 0 4 rfl rfl rfl rfl rfl (by decide) (Nat.le_of_ble_eq_true rfl) ⟨Nat.zero_le _, Nat.zero_le _⟩ ?_
  refine z_ifne (pc := 7) hC 20 (by decide) dX5_nextDay_7 (fun c7 => ?_) (fun c7 => ?_)
  · have h1 : R 14 0 < 999 := by simpa using bI_n.mp c7
    have hne : ¬ R 14 0 = 999 := fun e => absurd h1 (by rw [e]; decide)
    refine z_aln (pc := 20) hC 0 rfl dX5_nextDay_20 ?_
    refine z_get (pc := 21) hC fX5_22 0 rfl rfl dX5_nextDay_21 ?_
    refine z_aln (pc := 24) hC 0 rfl dX5_nextDay_24 ?_
    refine z_get (pc := 25) hC fX5_10 0 rfl rfl dX5_nextDay_25 ?_
    refine z_gv (pc := 28) (rest := []) hC vX1_save lX5_53 dX5_nextDay_28 (c_save hG.ring hX.2.2.2.2.1 hX.2.2.2.1) (xKs g.2 x u c a h Q P T) xKs_ctx rfl 17 1 rfl rfl rfl rfl rfl (by decide) (Nat.le_of_ble_eq_true rfl) ⟨Nat.zero_le _, Nat.zero_le _⟩ ?_
    refine z_w (ws' := xW g.2 x u c a h e Q P T R (nI (pushN s)) (nI ((p + 1) % 6)) (upK K p R)) (by rw [pushN_if hX.2.2.2.1]; rfl) ?_
    refine z_aln (pc := 31) hC 0 rfl dX5_nextDay_31 ?_
    refine z_get (pc := 32) hC fX5_10 0 rfl rfl dX5_nextDay_32 ?_
    refine z_dup (pc := 35) hC rfl dX5_nextDay_35 ?_
    refine z_get (pc := 36) hC fX5_126 20 rfl rfl dX5_nextDay_36 ?_
    refine z_iconst (pc := 39) (v := 1) hC dX5_nextDay_39 (by decide) ?_
    refine z_iadd (pc := 40) (v := (R 14 0) + 1) hC rfl dX5_nextDay_40 ?_
    refine z_put (pc := 41) (ws' := xW g.2 x u c a h e Q P T (setS R 14 0 ((R 14 0) + 1)) (nI (pushN s)) (nI ((p + 1) % 6)) (upK K p R)) hC fX5_126 p4_2 20 rfl (Nat.le_of_ble_eq_true rfl) rfl dX5_nextDay_41 ?_
    refine z_aln (pc := 44) hC 0 rfl dX5_nextDay_44 ?_
    refine z_get (pc := 45) hC fX5_10 0 rfl rfl dX5_nextDay_45 ?_
    refine z_get (pc := 48) hC fX5_126 20 rfl rfl dX5_nextDay_48 ?_
    refine z_is_ (y := R 14 0 + 1) (setS_eq _ _ _ _) ?_
    exact hE _ _ _ (Q, P, T, ((p + 1) % 6), upK K p R) _ _ _ dX5_nextDay_51 rfl ⟨(if_neg hne), rfl, xR_save hX⟩ rfl (Nat.zero_le _) (Nat.zero_le _)
  · have h1 : ¬ R 14 0 < 999 := by simpa using bI_0.mp c7
    exact hT 10 _ _ _ _ "this is the last day" _ _ xISE dX5_nextDay_10 dX5_nextDay_13 dX5_nextDay_14 dX5_nextDay_16 dX5_nextDay_19 (by decide) (Q, P, T, p, K) ⟨⟨(if_pos (day_eq hG.2 h1)), rfl⟩, hX⟩ rfl

set_option maxRecDepth 100000 in
set_option maxHeartbeats 4000000 in
theorem k_set {g : zG} {x : Nat} {u c a h : Nat → Nat} {e : Nat → Nat → Nat} {Q P : Nat → Int32} {T R : St} {s p : Nat} {K : Nat → St} {H : Nat → St} {t : Nat → Nat} {L : Nat} (hG : GR R) (hX : xR H s t L (Q, P, T, p, K)) {y z : Int32} (h0 : cSet y z = 0) : FI (S := XS) g yX5_set cX5_set 4 .int 8 0 0 [.ref x, .int y, .int z] (xW g.2 x u c a h e Q P T R (nI s) (nI p) K) (fun r S => (cSet y z) = 0 ∧ r = R 14 (8 + ix y) ∧ xR (pushH H s R) (pushN s) t L S) (fun S => xW g.2 x u c a h e S.1 S.2.1 S.2.2.1 (setS R 14 (8 + ix y) z) (nI (pushN s)) (nI S.2.2.2.1) S.2.2.2.2) := by
  refine fg_entry (px := (fun E S => (((cSet y z) = 1 ∧ E = "java/lang/IndexOutOfBoundsException") ∨ ((cSet y z) = 2 ∧ E = "java/lang/IllegalArgumentException")) ∧ xR H s t L S)) (wx := (fun S => xW g.2 x u c a h e S.1 S.2.1 S.2.2.1 R (nI s) (nI S.2.2.2.1) S.2.2.2.2)) (fun E S hp => by simp [h0] at hp) (by decide) (Nat.le_of_ble_eq_true rfl) (fun C hC hm hE hT hTW => ?_)
  rcases set_cases y with hy | hy | hy
  · refine z_iln (pc := 0) hC 1 rfl dX5_set_0 ?_
    refine z_is_ (y := 0) hy ?_
    refine z_ifeq (pc := 1) hC 19 (by decide) dX5_set_1 (fun c1 => ?_) (fun c1 => absurd c1 (by decide))
    refine z_iln (pc := 19) hC 2 rfl dX5_set_19 ?_
    refine z_iconst (pc := 20) (v := 0) hC dX5_set_20 (by decide) ?_
    refine z_iln (pc := 21) hC 1 rfl dX5_set_21 ?_
    refine z_is_ (y := 0) hy ?_
    refine z_ifne (pc := 22) hC 30 (by decide) dX5_set_22 (fun c22 => absurd c22 (by decide)) (fun c22 => ?_)
    refine z_bipush (pc := 25) (v := 9) hC dX5_set_25 (by decide) ?_
    refine z_goto (pc := 27) hC 32 (by decide) dX5_set_27 ?_
    refine z_gs (pc := 32) (rest := []) hC sX5_isWithin lX5_33 dX5_set_32 c_within rfl rfl (by decide) (Nat.le_of_ble_eq_true rfl) ⟨Nat.zero_le _, Nat.zero_le _⟩ ?_
    refine z_ifne (pc := 35) hC 48 (by decide) dX5_set_35 (fun c35 => ?_) (fun c35 => ?_)
    · have h2 : inB z 0 9 = true := bI_n.mp c35
      refine z_aln (pc := 48) hC 0 rfl dX5_set_48 ?_
      refine z_get (pc := 49) hC fX5_22 0 rfl rfl dX5_set_49 ?_
      refine z_aln (pc := 52) hC 0 rfl dX5_set_52 ?_
      refine z_get (pc := 53) hC fX5_10 0 rfl rfl dX5_set_53 ?_
      refine z_gv (pc := 56) (rest := []) hC vX1_save lX5_53 dX5_set_56 (c_save hG.ring hX.2.2.2.2.1 hX.2.2.2.1) (xKs g.2 x u c a h Q P T) xKs_ctx rfl 17 1 rfl rfl rfl rfl rfl (by decide) (Nat.le_of_ble_eq_true rfl) ⟨Nat.zero_le _, Nat.zero_le _⟩ ?_
      refine z_w (ws' := xW g.2 x u c a h e Q P T R (nI (pushN s)) (nI ((p + 1) % 6)) (upK K p R)) (by rw [pushN_if hX.2.2.2.1]; rfl) ?_
      refine z_iln (pc := 59) hC 1 rfl dX5_set_59 ?_
      refine z_is_ (y := 0) hy ?_
      refine z_ifne (pc := 60) hC 82 (by decide) dX5_set_60 (fun c60 => absurd c60 (by decide)) (fun c60 => ?_)
      refine z_aln (pc := 63) hC 0 rfl dX5_set_63 ?_
      refine z_get (pc := 64) hC fX5_10 0 rfl rfl dX5_set_64 ?_
      refine z_get (pc := 67) hC fX5_134 20 rfl rfl dX5_set_67 ?_
      refine z_isn (pc := 70) (lv' := [(3, .int (R 14 8)), (0, .ref x), (1, .int y), (2, .int z)]) hC hm (by decide) rfl dX5_set_70 ?_
      refine z_aln (pc := 71) hC 1 rfl dX5_set_71 ?_
      refine z_get (pc := 72) hC fX5_10 0 rfl rfl dX5_set_72 ?_
      refine z_iln (pc := 75) hC 3 rfl dX5_set_75 ?_
      refine z_put (pc := 76) (ws' := xW g.2 x u c a h e Q P T (setS R 14 8 z) (nI (pushN s)) (nI ((p + 1) % 6)) (upK K p R)) hC fX5_134 p4_3 20 rfl (Nat.le_of_ble_eq_true rfl) rfl dX5_set_76 ?_
      refine z_goto (pc := 79) hC 98 (by decide) dX5_set_79 ?_
      refine z_iln (pc := 98) hC 0 rfl dX5_set_98 ?_
      exact hE _ _ _ (Q, P, T, ((p + 1) % 6), upK K p R) _ _ _ dX5_set_99 rfl ⟨(set_ix0 (z := 9) (if_pos hy).symm (show inB y 0 1 = true by rw [hy]; decide) h2), (by rw [hy]; rfl), xR_save hX⟩ (by rw [show 8 + ix y = 8 by rw [hy]; rfl]) (Nat.zero_le _) (Nat.zero_le _)
    · have h2 : inB z 0 9 = false := bI_0.mp c35
      exact hT 38 _ _ _ _ "the value is out of the range of the setting" _ _ xIAE dX5_set_38 dX5_set_41 dX5_set_42 dX5_set_44 dX5_set_47 (by decide) (Q, P, T, p, K) ⟨(Or.inr ⟨(set_ix (z := 9) (if_pos hy).symm (show inB y 0 1 = true by rw [hy]; decide) h2), rfl⟩), hX⟩ rfl
  · refine z_iln (pc := 0) hC 1 rfl dX5_set_0 ?_
    refine z_is_ (y := 1) hy ?_
    refine z_ifeq (pc := 1) hC 19 (by decide) dX5_set_1 (fun c1 => absurd c1 (by decide)) (fun c1 => ?_)
    refine z_iln (pc := 4) hC 1 rfl dX5_set_4 ?_
    refine z_is_ (y := 1) hy ?_
    refine z_iconst (pc := 5) (v := 1) hC dX5_set_5 (by decide) ?_
    refine z_iceq (pc := 6) hC 19 (by decide) dX5_set_6 (fun c6 => ?_) (fun c6 => absurd c6 (by decide))
    refine z_iln (pc := 19) hC 2 rfl dX5_set_19 ?_
    refine z_iconst (pc := 20) (v := 0) hC dX5_set_20 (by decide) ?_
    refine z_iln (pc := 21) hC 1 rfl dX5_set_21 ?_
    refine z_is_ (y := 1) hy ?_
    refine z_ifne (pc := 22) hC 30 (by decide) dX5_set_22 (fun c22 => ?_) (fun c22 => absurd c22 (by decide))
    refine z_bipush (pc := 30) (v := 99) hC dX5_set_30 (by decide) ?_
    refine z_gs (pc := 32) (rest := []) hC sX5_isWithin lX5_33 dX5_set_32 c_within rfl rfl (by decide) (Nat.le_of_ble_eq_true rfl) ⟨Nat.zero_le _, Nat.zero_le _⟩ ?_
    refine z_ifne (pc := 35) hC 48 (by decide) dX5_set_35 (fun c35 => ?_) (fun c35 => ?_)
    · have h2 : inB z 0 99 = true := bI_n.mp c35
      refine z_aln (pc := 48) hC 0 rfl dX5_set_48 ?_
      refine z_get (pc := 49) hC fX5_22 0 rfl rfl dX5_set_49 ?_
      refine z_aln (pc := 52) hC 0 rfl dX5_set_52 ?_
      refine z_get (pc := 53) hC fX5_10 0 rfl rfl dX5_set_53 ?_
      refine z_gv (pc := 56) (rest := []) hC vX1_save lX5_53 dX5_set_56 (c_save hG.ring hX.2.2.2.2.1 hX.2.2.2.1) (xKs g.2 x u c a h Q P T) xKs_ctx rfl 17 1 rfl rfl rfl rfl rfl (by decide) (Nat.le_of_ble_eq_true rfl) ⟨Nat.zero_le _, Nat.zero_le _⟩ ?_
      refine z_w (ws' := xW g.2 x u c a h e Q P T R (nI (pushN s)) (nI ((p + 1) % 6)) (upK K p R)) (by rw [pushN_if hX.2.2.2.1]; rfl) ?_
      refine z_iln (pc := 59) hC 1 rfl dX5_set_59 ?_
      refine z_is_ (y := 1) hy ?_
      refine z_ifne (pc := 60) hC 82 (by decide) dX5_set_60 (fun c60 => ?_) (fun c60 => absurd c60 (by decide))
      refine z_aln (pc := 82) hC 0 rfl dX5_set_82 ?_
      refine z_get (pc := 83) hC fX5_10 0 rfl rfl dX5_set_83 ?_
      refine z_get (pc := 86) hC fX5_137 20 rfl rfl dX5_set_86 ?_
      refine z_isn (pc := 89) (lv' := [(3, .int (R 14 9)), (0, .ref x), (1, .int y), (2, .int z)]) hC hm (by decide) rfl dX5_set_89 ?_
      refine z_aln (pc := 90) hC 1 rfl dX5_set_90 ?_
      refine z_get (pc := 91) hC fX5_10 0 rfl rfl dX5_set_91 ?_
      refine z_iln (pc := 94) hC 3 rfl dX5_set_94 ?_
      refine z_put (pc := 95) (ws' := xW g.2 x u c a h e Q P T (setS R 14 9 z) (nI (pushN s)) (nI ((p + 1) % 6)) (upK K p R)) hC fX5_137 p4_4 20 rfl (Nat.le_of_ble_eq_true rfl) rfl dX5_set_95 ?_
      refine z_iln (pc := 98) hC 0 rfl dX5_set_98 ?_
      exact hE _ _ _ (Q, P, T, ((p + 1) % 6), upK K p R) _ _ _ dX5_set_99 rfl ⟨(set_ix0 (z := 99) (if_neg (by rw [hy]; decide)).symm (show inB y 0 1 = true by rw [hy]; decide) h2), (by rw [hy]; rfl), xR_save hX⟩ (by rw [show 8 + ix y = 9 by rw [hy]; rfl]) (Nat.zero_le _) (Nat.zero_le _)
    · have h2 : inB z 0 99 = false := bI_0.mp c35
      exact hT 38 _ _ _ _ "the value is out of the range of the setting" _ _ xIAE dX5_set_38 dX5_set_41 dX5_set_42 dX5_set_44 dX5_set_47 (by decide) (Q, P, T, p, K) ⟨(Or.inr ⟨(set_ix (z := 99) (if_neg (by rw [hy]; decide)).symm (show inB y 0 1 = true by rw [hy]; decide) h2), rfl⟩), hX⟩ rfl
  · refine z_iln (pc := 0) hC 1 rfl dX5_set_0 ?_
    refine z_ifeq (pc := 1) hC 19 (by decide) dX5_set_1 (fun c1 => absurd c1 hy.1) (fun c1 => ?_)
    refine z_iln (pc := 4) hC 1 rfl dX5_set_4 ?_
    refine z_iconst (pc := 5) (v := 1) hC dX5_set_5 (by decide) ?_
    refine z_iceq (pc := 6) hC 19 (by decide) dX5_set_6 (fun c6 => absurd c6 hy.2) (fun c6 => ?_)
    exact hT 9 _ _ _ _ "no such setting" _ _ xIOE dX5_set_9 dX5_set_12 dX5_set_13 dX5_set_15 dX5_set_18 (by decide) (Q, P, T, p, K) ⟨(Or.inl ⟨(set_out hy), rfl⟩), hX⟩ rfl
