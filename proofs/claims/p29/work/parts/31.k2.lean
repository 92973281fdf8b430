theorem xR_clear {H : Nat → St} {s L p : Nat} {t : Nat → Nat} {Q P : Nat → Int32} {T : St} {K : Nat → St} (hX : xR H s t L (Q, P, T, p, K)) : xR H s t 0 (Q, upd P 0 0, T, p, K) :=
  ⟨fun q hq => absurd hq (by omega), show upd P 0 0 0 = nI 0 from upd_eq P 0 0, by omega, hX.2.2.2⟩
theorem xR_P {H : Nat → St} {s L p : Nat} {t : Nat → Nat} {Q P P' : Nat → Int32} {T T' : St} {K : Nat → St} (hX : xR H s t L (Q, P, T, p, K)) (h : P' 0 = nI L) : xR H s t L (Q, P', T', p, K) :=
  ⟨hX.1, h, hX.2.2⟩

theorem reel_cases (z : Int32) : z = 0 ∨ z = 1 ∨ z = 2 ∨ z = 3 ∨ z = 4 ∨ z = 5 ∨ z = 6 ∨ (z.toInt < 0 ∨ 6 < z.toInt) := by
  have key : ∀ k : Int32, z.toInt = k.toInt → z = k := fun k h => Int32.toInt_inj.mp h
  by_cases h : z.toInt < 0 ∨ 6 < z.toInt
  · simp [h]
  · have e : z.toInt = 0 ∨ z.toInt = 1 ∨ z.toInt = 2 ∨ z.toInt = 3 ∨ z.toInt = 4 ∨ z.toInt = 5 ∨ z.toInt = 6 := by omega
    rcases e with e | e | e | e | e | e | e
    · exact Or.inl (key 0 e)
    · exact Or.inr (Or.inl (key 1 e))
    · exact Or.inr (Or.inr (Or.inl (key 2 e)))
    · exact Or.inr (Or.inr (Or.inr (Or.inl (key 3 e))))
    · exact Or.inr (Or.inr (Or.inr (Or.inr (Or.inl (key 4 e)))))
    · exact Or.inr (Or.inr (Or.inr (Or.inr (Or.inr (Or.inl (key 5 e))))))
    · exact Or.inr (Or.inr (Or.inr (Or.inr (Or.inr (Or.inr (Or.inl (key 6 e)))))))
theorem job_cases (z : Int32) : z = 0 ∨ z = 1 ∨ z = 2 ∨ z = 3 ∨ z = 4 ∨ z = 5 ∨ z = 6 ∨ z = 7 ∨ (z.toInt < 0 ∨ 7 < z.toInt) := by
  rcases reel_cases z with e | e | e | e | e | e | e | e
  · simp [e]
  · simp [e]
  · simp [e]
  · simp [e]
  · simp [e]
  · simp [e]
  · simp [e]
  · by_cases h : z.toInt = 7
    · have : z = 7 := Int32.toInt_inj.mp h
      simp [this]
    · have : z.toInt < 0 ∨ 7 < z.toInt := by omega
      simp [this]
theorem cnt_cases (z : Int32) : z = 0 ∨ z = 1 ∨ z = 2 ∨ z = 3 ∨ z = 4 ∨ z = 5 ∨ z = 6 ∨ z = 7 ∨ z = 8 ∨ z = 9 ∨ z = 10 ∨ (z.toInt < 0 ∨ 10 < z.toInt) := by
  rcases job_cases z with e | e | e | e | e | e | e | e | e
  · simp [e]
  · simp [e]
  · simp [e]
  · simp [e]
  · simp [e]
  · simp [e]
  · simp [e]
  · simp [e]
  · have key : ∀ k : Int32, z.toInt = k.toInt → z = k := fun k h => Int32.toInt_inj.mp h
    by_cases h : z.toInt < 0 ∨ 10 < z.toInt
    · simp [h]
    · have e : z.toInt = 8 ∨ z.toInt = 9 ∨ z.toInt = 10 := by omega
      rcases e with e | e | e
      · simp [key 8 e]
      · simp [key 9 e]
      · simp [key 10 e]
theorem inB_out {z k : Int32} {n : Int} (hk : k.toInt = n) (h : z.toInt < 0 ∨ n < z.toInt) : inB z 0 k = false := by
  cases e : inB z 0 k with
  | false => rfl
  | true =>
    obtain ⟨h1, h2⟩ := inB_iff.mp e
    rw [Int32.le_iff_toInt_le] at h1 h2
    rw [hk] at h2
    have : (0 : Int32).toInt = 0 := by decide
    omega
theorem reel_out {y z : Int32} (h1 : isReel y = true) (h : z.toInt < 0 ∨ 6 < z.toInt) : cReel y z = 2 := by
  have h6 : ¬ z = 6 := fun e => by
    rw [e] at h
    have : (6 : Int32).toInt = 6 := by decide
    omega
  simp [cReel, h1, h6, inB_out (z := z) (k := 5) (n := 5) (by decide) (by omega)]

set_option maxRecDepth 100000 in
set_option maxHeartbeats 4000000 in
theorem k_reel {g : zG} {x : Nat} {u c a h : Nat → Nat} {e : Nat → Nat → Nat} {Q P : Nat → Int32} {T R : St} {s p : Nat} {K : Nat → St} {H : Nat → St} {t : Nat → Nat} {L : Nat} (hG : GR R) (hX : xR H s t L (Q, P, T, p, K)) {y z : Int32} (h0 : cReel y z = 0) : FI (S := XS) g yX5_reel cX5_reel 3 .int 8 0 0 [.ref x, .int y, .int z] (xW g.2 x u c a h e Q P T R (nI s) (nI p) K) (fun r S => (cReel y z) = 0 ∧ r = vReel R y z ∧ S = (Q, P, T, p, K)) (fun S => xW g.2 x u c a h e S.1 S.2.1 S.2.2.1 R (nI s) (nI S.2.2.2.1) S.2.2.2.2) := by
  refine fg_entry (px := (fun E S => (((cReel y z) = 1 ∧ E = "java/lang/IndexOutOfBoundsException") ∨ ((cReel y z) = 2 ∧ E = "java/lang/IllegalArgumentException")) ∧ xR H s t L S)) (wx := (fun S => xW g.2 x u c a h e S.1 S.2.1 S.2.2.1 R (nI s) (nI S.2.2.2.1) S.2.2.2.2)) (fun E S hp => by simp [h0] at hp) (by decide) (Nat.le_of_ble_eq_true rfl) (fun C hC hm hE hT hTW => ?_)
  refine z_iln (pc := 0) hC 1 rfl dX5_reel_0 ?_
  refine z_gs (pc := 1) (rest := []) hC sX5_isReel lX5_89 dX5_reel_1 c_isReel rfl rfl (by decide) (Nat.le_of_ble_eq_true rfl) ⟨Nat.zero_le _, Nat.zero_le _⟩ ?_
  refine z_ifne (pc := 4) hC 17 (by decide) dX5_reel_4 (fun c4 => ?_) (fun c4 => ?_)
  · have h1 : isReel y = true := bI_n.mp c4
    obtain ⟨hr, hx⟩ := reel_ix h1
    refine z_iln (pc := 17) hC 2 rfl dX5_reel_17 ?_
    rcases reel_cases z with hz | hz | hz | hz | hz | hz | hz | hz
    · refine z_tableIn (pc := 18) (off := 42) hC 60 dX5_reel_18 (by rw [hz]; decide) (by decide) ?_
      refine z_aln (pc := 60) hC 0 rfl dX5_reel_60 ?_
      refine z_get (pc := 61) hC fX5_10 0 rfl rfl dX5_reel_61 ?_
      refine z_get (pc := 64) hC fX5_96 20 rfl rfl dX5_reel_64 ?_
      refine z_get (pc := 67) hC fX5_193 21 rfl rfl dX5_reel_67 ?_
      refine z_iln (pc := 70) hC 1 rfl dX5_reel_70 ?_
      refine z_is_ (y := nI (ix y)) hx ?_
      refine z_iald (pc := 71) hC 23 rfl dX5_reel_71 (ix y) rfl (by omega) (by decide) ?_
      exact hE _ _ _ (Q, P, T, p, K) _ _ _ dX5_reel_72 rfl ⟨(by rw [cReel, h1, hz]; decide), (by rw [vReel, hz, if_neg (by decide)]; rfl), rfl⟩ rfl (Nat.zero_le _) (Nat.zero_le _)
    · refine z_tableIn (pc := 18) (off := 55) hC 73 dX5_reel_18 (by rw [hz]; decide) (by decide) ?_
      refine z_aln (pc := 73) hC 0 rfl dX5_reel_73 ?_
      refine z_get (pc := 74) hC fX5_10 0 rfl rfl dX5_reel_74 ?_
      refine z_get (pc := 77) hC fX5_96 20 rfl rfl dX5_reel_77 ?_
      refine z_get (pc := 80) hC fX5_100 21 rfl rfl dX5_reel_80 ?_
      refine z_iln (pc := 83) hC 1 rfl dX5_reel_83 ?_
      refine z_is_ (y := nI (ix y)) hx ?_
      refine z_iald (pc := 84) hC 24 rfl dX5_reel_84 (ix y) rfl (by omega) (by decide) ?_
      exact hE _ _ _ (Q, P, T, p, K) _ _ _ dX5_reel_85 rfl ⟨(by rw [cReel, h1, hz]; decide), (by rw [vReel, hz, if_neg (by decide)]; rfl), rfl⟩ rfl (Nat.zero_le _) (Nat.zero_le _)
    · refine z_tableIn (pc := 18) (off := 68) hC 86 dX5_reel_18 (by rw [hz]; decide) (by decide) ?_
      refine z_aln (pc := 86) hC 0 rfl dX5_reel_86 ?_
      refine z_get (pc := 87) hC fX5_10 0 rfl rfl dX5_reel_87 ?_
      refine z_get (pc := 90) hC fX5_96 20 rfl rfl dX5_reel_90 ?_
      refine z_get (pc := 93) hC fX5_110 21 rfl rfl dX5_reel_93 ?_
      refine z_iln (pc := 96) hC 1 rfl dX5_reel_96 ?_
      refine z_is_ (y := nI (ix y)) hx ?_
      refine z_zald (pc := 97) hC 25 rfl dX5_reel_97 (ix y) rfl (by omega) (by decide) ?_
      refine z_ifeq (pc := 98) hC 105 (by decide) dX5_reel_98 (fun c98 => ?_) (fun c98 => ?_)
      · refine z_iconst (pc := 105) (v := 0) hC dX5_reel_105 (by decide) ?_
        exact hE _ _ _ (Q, P, T, p, K) _ _ _ dX5_reel_106 rfl ⟨(by rw [cReel, h1, hz]; decide), (by rw [vReel, hz, if_neg (by decide)]; exact c98.symm), rfl⟩ rfl (Nat.zero_le _) (Nat.zero_le _)
      · refine z_iconst (pc := 101) (v := 1) hC dX5_reel_101 (by decide) ?_
        refine z_goto (pc := 102) hC 106 (by decide) dX5_reel_102 ?_
        exact hE _ _ _ (Q, P, T, p, K) _ _ _ dX5_reel_106 rfl ⟨(by rw [cReel, h1, hz]; decide), (by rw [vReel, hz, if_neg (by decide)]; exact ((hG.ring _ hr).resolve_left c98).symm), rfl⟩ rfl (Nat.zero_le _) (Nat.zero_le _)
    · refine z_tableIn (pc := 18) (off := 89) hC 107 dX5_reel_18 (by rw [hz]; decide) (by decide) ?_
      refine z_aln (pc := 107) hC 0 rfl dX5_reel_107 ?_
      refine z_get (pc := 108) hC fX5_10 0 rfl rfl dX5_reel_108 ?_
      refine z_get (pc := 111) hC fX5_96 20 rfl rfl dX5_reel_111 ?_
      refine z_get (pc := 114) hC fX5_196 21 rfl rfl dX5_reel_114 ?_
      refine z_iln (pc := 117) hC 1 rfl dX5_reel_117 ?_
      refine z_is_ (y := nI (ix y)) hx ?_
      refine z_iald (pc := 118) hC 26 rfl dX5_reel_118 (ix y) rfl (by omega) (by decide) ?_
      exact hE _ _ _ (Q, P, T, p, K) _ _ _ dX5_reel_119 rfl ⟨(by rw [cReel, h1, hz]; decide), (by rw [vReel, hz, if_neg (by decide)]; rfl), rfl⟩ rfl (Nat.zero_le _) (Nat.zero_le _)
    · refine z_tableIn (pc := 18) (off := 102) hC 120 dX5_reel_18 (by rw [hz]; decide) (by decide) ?_
      refine z_aln (pc := 120) hC 0 rfl dX5_reel_120 ?_
      refine z_get (pc := 121) hC fX5_10 0 rfl rfl dX5_reel_121 ?_
      refine z_get (pc := 124) hC fX5_96 20 rfl rfl dX5_reel_124 ?_
      refine z_get (pc := 127) hC fX5_199 21 rfl rfl dX5_reel_127 ?_
      refine z_iln (pc := 130) hC 1 rfl dX5_reel_130 ?_
      refine z_is_ (y := nI (ix y)) hx ?_
      refine z_iald (pc := 131) hC 27 rfl dX5_reel_131 (ix y) rfl (by omega) (by decide) ?_
      exact hE _ _ _ (Q, P, T, p, K) _ _ _ dX5_reel_132 rfl ⟨(by rw [cReel, h1, hz]; decide), (by rw [vReel, hz, if_neg (by decide)]; rfl), rfl⟩ rfl (Nat.zero_le _) (Nat.zero_le _)
    · refine z_tableIn (pc := 18) (off := 115) hC 133 dX5_reel_18 (by rw [hz]; decide) (by decide) ?_
      refine z_aln (pc := 133) hC 0 rfl dX5_reel_133 ?_
      refine z_get (pc := 134) hC fX5_10 0 rfl rfl dX5_reel_134 ?_
      refine z_get (pc := 137) hC fX5_96 20 rfl rfl dX5_reel_137 ?_
      refine z_get (pc := 140) hC fX5_105 21 rfl rfl dX5_reel_140 ?_
      refine z_iln (pc := 143) hC 1 rfl dX5_reel_143 ?_
      refine z_is_ (y := nI (ix y)) hx ?_
      refine z_iald (pc := 144) hC 28 rfl dX5_reel_144 (ix y) rfl (by omega) (by decide) ?_
      exact hE _ _ _ (Q, P, T, p, K) _ _ _ dX5_reel_145 rfl ⟨(by rw [cReel, h1, hz]; decide), (by rw [vReel, hz, if_neg (by decide)]; rfl), rfl⟩ rfl (Nat.zero_le _) (Nat.zero_le _)
    · refine z_tableIn (pc := 18) (off := 128) hC 146 dX5_reel_18 (by rw [hz]; decide) (by decide) ?_
      refine z_aln (pc := 146) hC 0 rfl dX5_reel_146 ?_
      refine z_get (pc := 147) hC fX5_10 0 rfl rfl dX5_reel_147 ?_
      refine z_get (pc := 150) hC fX5_96 20 rfl rfl dX5_reel_150 ?_
      refine z_iln (pc := 153) hC 1 rfl dX5_reel_153 ?_
      refine z_is_ (y := nI (ix y)) hx ?_
      refine z_aln (pc := 154) hC 0 rfl dX5_reel_154 ?_
      refine z_get (pc := 155) hC fX5_10 0 rfl rfl dX5_reel_155 ?_
      refine z_get (pc := 158) hC fX5_126 20 rfl rfl dX5_reel_158 ?_
      refine z_g (pc := 161) (rest := []) hC vX3_isScratch lX5_200 dX5_reel_161 (c_isScratch hr rfl) (xKr g.2 x u c a h e Q P T (nI s) (nI p) K) xKr_ctx rfl 1 3 rfl rfl rfl rfl rfl (by decide) (Nat.le_of_ble_eq_true rfl) ⟨Nat.zero_le _, Nat.zero_le _⟩ ?_
      refine z_ifeq (pc := 164) hC 171 (by decide) dX5_reel_164 (fun c164 => ?_) (fun c164 => ?_)
      · refine z_iconst (pc := 171) (v := 0) hC dX5_reel_171 (by decide) ?_
        exact hE _ _ _ (Q, P, T, p, K) _ _ _ dX5_reel_172 rfl ⟨(by rw [cReel, h1, hz]; decide), (by rw [vReel, hz, if_pos rfl, bI_0.mp c164]; rfl), rfl⟩ rfl (Nat.zero_le _) (Nat.zero_le _)
      · refine z_iconst (pc := 167) (v := 1) hC dX5_reel_167 (by decide) ?_
        refine z_goto (pc := 168) hC 172 (by decide) dX5_reel_168 ?_
        exact hE _ _ _ (Q, P, T, p, K) _ _ _ dX5_reel_172 rfl ⟨(by rw [cReel, h1, hz]; decide), (by rw [vReel, hz, if_pos rfl, bI_n.mp c164]; rfl), rfl⟩ rfl (Nat.zero_le _) (Nat.zero_le _)
    · refine z_tableOut (pc := 18) hC 173 dX5_reel_18 hz (by decide) ?_
      exact hT 173 _ _ _ _ "no such part of a reel" _ _ xIAE dX5_reel_173 dX5_reel_176 dX5_reel_177 dX5_reel_179 dX5_reel_182 (by decide) (Q, P, T, p, K) ⟨(Or.inr ⟨(reel_out h1 hz), rfl⟩), hX⟩ rfl
  · have h1 : isReel y = false := bI_0.mp c4
    exact hT 7 _ _ _ _ "no such reel" _ _ xIOE dX5_reel_7 dX5_reel_10 dX5_reel_11 dX5_reel_13 dX5_reel_16 (by decide) (Q, P, T, p, K) ⟨(Or.inl ⟨(if_pos h1), rfl⟩), hX⟩ rfl

theorem on_lst {R : St} {y : Int32} (h : DI R) (hy : ¬ y = -1) : fst_ (fun r => decide (R 5 r = y)) 0 12 = onDr R y := by
  unfold onDr
  rcases fst_spec (fun r => decide (R 5 r = y)) 12 0 with ⟨e1, h1⟩ | ⟨r, -, hr, e1, hp, h1⟩
  · rcases lst_spec (fun r => decide (R 5 r = y)) 12 with ⟨e2, -⟩ | ⟨q, hq, e2, hq2, -⟩
    · rw [e1, e2]
    · rw [h1 q (Nat.zero_le _) (by omega)] at hq2; cases hq2
  · rcases lst_spec (fun r => decide (R 5 r = y)) 12 with ⟨-, h2⟩ | ⟨q, hq, e2, hq2, -⟩
    · rw [h2 r (by omega)] at hp; cases hp
    · rw [e1, e2]
      have a1 : R 5 r = y := by simpa using hp
      have a2 : R 5 q = y := by simpa using hq2
      rw [h r q (by omega) hq (a1.trans a2.symm) (by rw [a1]; exact hy)]

set_option maxRecDepth 100000 in
set_option maxHeartbeats 4000000 in
theorem k_reelOn {g : zG} {x : Nat} {u c a h : Nat → Nat} {e : Nat → Nat → Nat} {Q P : Nat → Int32} {T R : St} {s p : Nat} {K : Nat → St} {H : Nat → St} {t : Nat → Nat} {L : Nat} (hG : GR R) (hX : xR H s t L (Q, P, T, p, K)) {y : Int32} (h0 : cOn y = 0) : FI (S := XS) g yX5_reelOn cX5_reelOn 2 .int 8 0 0 [.ref x, .int y] (xW g.2 x u c a h e Q P T R (nI s) (nI p) K) (fun r S => (cOn y) = 0 ∧ r = onDr R y ∧ S = (Q, P, T, p, K)) (fun S => xW g.2 x u c a h e S.1 S.2.1 S.2.2.1 R (nI s) (nI S.2.2.2.1) S.2.2.2.2) := by
  refine fg_entry (px := (fun E S => (((cOn y) = 1 ∧ E = "java/lang/IndexOutOfBoundsException")) ∧ xR H s t L S)) (wx := (fun S => xW g.2 x u c a h e S.1 S.2.1 S.2.2.1 R (nI s) (nI S.2.2.2.1) S.2.2.2.2)) (fun E S hp => by simp [h0] at hp) (by decide) (Nat.le_of_ble_eq_true rfl) (fun C hC hm hE hT hTW => ?_)
  refine z_iln (pc := 0) hC 1 rfl dX5_reelOn_0 ?_
  refine z_iconst (pc := 1) (v := 0) hC dX5_reelOn_1 (by decide) ?_
  refine z_iconst (pc := 2) (v := 2) hC dX5_reelOn_2 (by decide) ?_
  refine z_gs (pc := 3) (rest := []) hC sX5_isWithin lX5_33 dX5_reelOn_3 c_within rfl rfl (by decide) (Nat.le_of_ble_eq_true rfl) ⟨Nat.zero_le _, Nat.zero_le _⟩ ?_
  refine z_ifne (pc := 6) hC 19 (by decide) dX5_reelOn_6 (fun c6 => ?_) (fun c6 => ?_)
  · have h1 : inB y 0 2 = true := bI_n.mp c6
    have hne : ¬ y = -1 := fun e => by rw [e] at h1; exact absurd h1 (by decide)
    refine z_aln (pc := 19) hC 0 rfl dX5_reelOn_19 ?_
    refine z_get (pc := 20) hC fX5_10 0 rfl rfl dX5_reelOn_20 ?_
    refine z_get (pc := 23) hC fX5_96 20 rfl rfl dX5_reelOn_23 ?_
    refine z_iln (pc := 26) hC 1 rfl dX5_reelOn_26 ?_
    refine z_g (pc := 27) (rest := []) hC vX3_findOn lX5_207 dX5_reelOn_27 c_findOn (xKr g.2 x u c a h e Q P T (nI s) (nI p) K) xKr_ctx rfl 1 3 rfl rfl rfl rfl rfl (by decide) (Nat.le_of_ble_eq_true rfl) ⟨Nat.zero_le _, Nat.zero_le _⟩ ?_
    exact hE _ _ _ (Q, P, T, p, K) _ _ _ dX5_reelOn_30 rfl ⟨(by simp [cOn, h1]), (on_lst hG.1.2.2.2.2 hne), rfl⟩ rfl (Nat.zero_le _) (Nat.zero_le _)
  · have h1 : inB y 0 2 = false := bI_0.mp c6
    exact hT 9 _ _ _ _ "no such drive" _ _ xIOE dX5_reelOn_9 dX5_reelOn_12 dX5_reelOn_13 dX5_reelOn_15 dX5_reelOn_18 (by decide) (Q, P, T, p, K) ⟨⟨(if_pos h1), rfl⟩, hX⟩ rfl

set_option maxRecDepth 100000 in
set_option maxHeartbeats 4000000 in
theorem k_jobs {g : zG} {x : Nat} {u c a h : Nat → Nat} {e : Nat → Nat → Nat} {Q P : Nat → Int32} {T R : St} {s p : Nat} {K : Nat → St} {H : Nat → St} {t : Nat → Nat} {L : Nat} (hG : GR R) (hX : xR H s t L (Q, P, T, p, K)) : Gi g yX5_jobs cX5_jobs 1 .int 0 [.ref x] (xW g.2 x u c a h e Q P T R (nI s) (nI p) K) (R 14 10) (xW g.2 x u c a h e Q P T R (nI s) (nI p) K) := by
  refine fi_entry (by decide) (Nat.le_of_ble_eq_true rfl) (fun C hC hm hE => ?_)
  refine z_aln (pc := 0) hC 0 rfl dX5_jobs_0 ?_
  refine z_get (pc := 1) hC fX5_10 0 rfl rfl dX5_jobs_1 ?_
  refine z_get (pc := 4) hC fX5_57 20 rfl rfl dX5_jobs_4 ?_
  refine z_get (pc := 7) hC fX5_210 22 rfl rfl dX5_jobs_7 ?_
  exact hE _ _ _ () _ _ _ dX5_jobs_10 rfl rfl rfl (Nat.zero_le _) (Nat.zero_le _)

set_option maxRecDepth 100000 in
set_option maxHeartbeats 4000000 in
theorem k_nextJob {g : zG} {x : Nat} {u c a h : Nat → Nat} {e : Nat → Nat → Nat} {Q P : Nat → Int32} {T R : St} {s p : Nat} {K : Nat → St} {H : Nat → St} {t : Nat → Nat} {L : Nat} (hG : GR R) (hX : xR H s t L (Q, P, T, p, K)) : Gi g yX5_nextJob cX5_nextJob 1 .int 3 [.ref x] (xW g.2 x u c a h e Q P T R (nI s) (nI p) K) (nxt R (nn R)) (xW g.2 x u c a h e Q P T R (nI s) (nI p) K) := by
  refine fi_entry (by decide) (Nat.le_of_ble_eq_true rfl) (fun C hC hm hE => ?_)
  refine z_aln (pc := 0) hC 0 rfl dX5_nextJob_0 ?_
  refine z_get (pc := 1) hC fX5_10 0 rfl rfl dX5_nextJob_1 ?_
  refine z_g (pc := 4) (rest := []) hC vX4_findNextJob lX5_241 dX5_nextJob_4 (c_findNextJob hG.num hG.n12 hG.pri) (xKr g.2 x u c a h e Q P T (nI s) (nI p) K) xKr_ctx rfl 0 4 rfl rfl rfl rfl rfl (by decide) (Nat.le_of_ble_eq_true rfl) ⟨Nat.zero_le _, Nat.zero_le _⟩ ?_
  exact hE _ _ _ () _ _ _ dX5_nextJob_7 rfl rfl rfl (Nat.zero_le _) (Nat.zero_le _)

set_option maxRecDepth 100000 in
set_option maxHeartbeats 4000000 in
theorem k_nextReel {g : zG} {x : Nat} {u c a h : Nat → Nat} {e : Nat → Nat → Nat} {Q P : Nat → Int32} {T R : St} {s p : Nat} {K : Nat → St} {H : Nat → St} {t : Nat → Nat} {L : Nat} (hG : GR R) (hX : xR H s t L (Q, P, T, p, K)) : Gi g yX5_nextReel cX5_nextReel 2 .int 3 [.ref x] (xW g.2 x u c a h e Q P T R (nI s) (nI p) K) (vNextR R) (xW g.2 x u c a h e Q P T R (nI s) (nI p) K) := by
  refine fi_entry (by decide) (Nat.le_of_ble_eq_true rfl) (fun C hC hm hE => ?_)
  refine z_aln (pc := 0) hC 0 rfl dX5_nextReel_0 ?_
  refine z_get (pc := 1) hC fX5_10 0 rfl rfl dX5_nextReel_1 ?_
  refine z_g (pc := 4) (rest := []) hC vX4_findNextJob lX5_241 dX5_nextReel_4 (c_findNextJob hG.num hG.n12 hG.pri) (xKr g.2 x u c a h e Q P T (nI s) (nI p) K) xKr_ctx rfl 0 4 rfl rfl rfl rfl rfl (by decide) (Nat.le_of_ble_eq_true rfl) ⟨Nat.zero_le _, Nat.zero_le _⟩ ?_
  refine z_isn (pc := 7) (lv' := [(1, .int (nxt R (nn R))), (0, .ref x)]) hC hm (by decide) rfl dX5_nextReel_7 ?_
  refine z_iln (pc := 8) hC 0 rfl dX5_nextReel_8 ?_
  refine z_iconst (pc := 9) (v := -1) hC dX5_nextReel_9 (by decide) ?_
  refine z_icne (pc := 10) hC 17 (by decide) dX5_nextReel_10 (fun c10 => ?_) (fun c10 => ?_)
  · obtain ⟨hj, hx⟩ := nxt_ix hG c10
    have hfn : ¬ fnd R (ix (nxt R (nn R))) = -1 := by
      obtain ⟨q, hq, e, -, hf⟩ := nxt_ok c10
      rw [e, ix_nI (by have := hG.n12; omega)]; exact hf
    refine z_aln (pc := 17) hC 1 rfl dX5_nextReel_17 ?_
    refine z_get (pc := 18) hC fX5_10 0 rfl rfl dX5_nextReel_18 ?_
    refine z_iln (pc := 21) hC 0 rfl dX5_nextReel_21 ?_
    refine z_is_ (y := nI (ix (nxt R (nn R)))) hx ?_
    refine z_aln (pc := 22) hC 1 rfl dX5_nextReel_22 ?_
    refine z_get (pc := 23) hC fX5_10 0 rfl rfl dX5_nextReel_23 ?_
    refine z_aln (pc := 26) hC 1 rfl dX5_nextReel_26 ?_
    refine z_get (pc := 27) hC fX5_10 0 rfl rfl dX5_nextReel_27 ?_
    refine z_get (pc := 30) hC fX5_244 20 rfl rfl dX5_nextReel_30 ?_
    refine z_iconst (pc := 33) (v := 1) hC dX5_nextReel_33 (by decide) ?_
    refine z_iadd (pc := 34) (v := (R 14 2) + 1) hC rfl dX5_nextReel_34 ?_
    refine z_g (pc := 35) (rest := [.int (nI (ix (nxt R (nn R)))), .ref (a 0)]) hC vX4_isSlip lX5_247 dX5_nextReel_35 c_isSlip (xKr g.2 x u c a h e Q P T (nI s) (nI p) K) xKr_ctx rfl 0 4 rfl rfl rfl rfl rfl (by decide) (Nat.le_of_ble_eq_true rfl) ⟨Nat.zero_le _, Nat.zero_le _⟩ ?_
    refine z_g (pc := 38) (rest := []) hC vX4_chooseReel lX5_250 dX5_nextReel_38 (c_chooseReel hj) (xKr g.2 x u c a h e Q P T (nI s) (nI p) K) xKr_ctx rfl 0 4 rfl rfl rfl rfl rfl (by decide) (Nat.le_of_ble_eq_true rfl) ⟨Nat.zero_le _, Nat.zero_le _⟩ ?_
    exact hE _ _ _ () _ _ _ dX5_nextReel_41 rfl (by simp [vNextR, c10, chs, hfn]) rfl (Nat.zero_le _) (Nat.zero_le _)
  · refine z_iconst (pc := 13) (v := -1) hC dX5_nextReel_13 (by decide) ?_
    refine z_goto (pc := 14) hC 41 (by decide) dX5_nextReel_14 ?_
    exact hE _ _ _ () _ _ _ dX5_nextReel_41 rfl (by simp [vNextR, c10]) rfl (Nat.zero_le _) (Nat.zero_le _)

theorem job_out {R : St} {y z : Int32} (h1 : isJob R y = true) (h : z.toInt < 0 ∨ 7 < z.toInt) : cJob R y z = 2 := by
  simp [cJob, h1, inB_out (k := 7) (n := 7) (by decide) h]
theorem cnt_out {z : Int32} (h : z.toInt < 0 ∨ 10 < z.toInt) : cCnt z = 1 := by
  simp [cCnt, inB_out (k := 10) (n := 10) (by decide) h]

set_option maxRecDepth 100000 in
set_option maxHeartbeats 4000000 in
theorem k_job {g : zG} {x : Nat} {u c a h : Nat → Nat} {e : Nat → Nat → Nat} {Q P : Nat → Int32} {T R : St} {s p : Nat} {K : Nat → St} {H : Nat → St} {t : Nat → Nat} {L : Nat} (hG : GR R) (hX : xR H s t L (Q, P, T, p, K)) {y z : Int32} (h0 : cJob R y z = 0) : FI (S := XS) g yX5_job cX5_job 3 .int 8 0 0 [.ref x, .int y, .int z] (xW g.2 x u c a h e Q P T R (nI s) (nI p) K) (fun r S => (cJob R y z) = 0 ∧ r = vJob R y z ∧ S = (Q, P, T, p, K)) (fun S => xW g.2 x u c a h e S.1 S.2.1 S.2.2.1 R (nI s) (nI S.2.2.2.1) S.2.2.2.2) := by
  refine fg_entry (px := (fun E S => (((cJob R y z) = 1 ∧ E = "java/lang/IndexOutOfBoundsException") ∨ ((cJob R y z) = 2 ∧ E = "java/lang/IllegalArgumentException")) ∧ xR H s t L S)) (wx := (fun S => xW g.2 x u c a h e S.1 S.2.1 S.2.2.1 R (nI s) (nI S.2.2.2.1) S.2.2.2.2)) (fun E S hp => by simp [h0] at hp) (by decide) (Nat.le_of_ble_eq_true rfl) (fun C hC hm hE hT hTW => ?_)
  refine z_aln (pc := 0) hC 0 rfl dX5_job_0 ?_
  refine z_get (pc := 1) hC fX5_10 0 rfl rfl dX5_job_1 ?_
  refine z_get (pc := 4) hC fX5_57 20 rfl rfl dX5_job_4 ?_
  refine z_iln (pc := 7) hC 1 rfl dX5_job_7 ?_
  refine z_g (pc := 8) (rest := []) hC vX2_has lX5_67 dX5_job_8 c_has (xKr g.2 x u c a h e Q P T (nI s) (nI p) K) xKr_ctx rfl 2 2 rfl rfl rfl rfl rfl (by decide) (Nat.le_of_ble_eq_true rfl) ⟨Nat.zero_le _, Nat.zero_le _⟩ ?_
  refine z_ifne (pc := 11) hC 24 (by decide) dX5_job_11 (fun c11 => ?_) (fun c11 => ?_)
  · have h1 : isJob R y = true := bI_n.mp c11
    obtain ⟨hjn, hj, hx⟩ := job_ix hG h1
    refine z_iln (pc := 24) hC 2 rfl dX5_job_24 ?_
    rcases job_cases z with hz | hz | hz | hz | hz | hz | hz | hz | hz
    · refine z_tableIn (pc := 25) (off := 47) hC 72 dX5_job_25 (by rw [hz]; decide) (by decide) ?_
      refine z_aln (pc := 72) hC 0 rfl dX5_job_72 ?_
      refine z_get (pc := 73) hC fX5_10 0 rfl rfl dX5_job_73 ?_
      refine z_get (pc := 76) hC fX5_57 20 rfl rfl dX5_job_76 ?_
      refine z_get (pc := 79) hC fX5_213 22 rfl rfl dX5_job_79 ?_
      refine z_iln (pc := 82) hC 1 rfl dX5_job_82 ?_
      refine z_is_ (y := nI (ix y)) hx ?_
      refine z_iald (pc := 83) hC 29 rfl dX5_job_83 (ix y) rfl (by omega) (by decide) ?_
      exact hE _ _ _ (Q, P, T, p, K) _ _ _ dX5_job_84 rfl ⟨(by rw [cJob, h1, hz]; decide), (by rw [vJob, hz]; rfl), rfl⟩ rfl (Nat.zero_le _) (Nat.zero_le _)
    · refine z_tableIn (pc := 25) (off := 60) hC 85 dX5_job_25 (by rw [hz]; decide) (by decide) ?_
      refine z_aln (pc := 85) hC 0 rfl dX5_job_85 ?_
      refine z_get (pc := 86) hC fX5_10 0 rfl rfl dX5_job_86 ?_
      refine z_get (pc := 89) hC fX5_57 20 rfl rfl dX5_job_89 ?_
      refine z_get (pc := 92) hC fX5_216 22 rfl rfl dX5_job_92 ?_
      refine z_iln (pc := 95) hC 1 rfl dX5_job_95 ?_
      refine z_is_ (y := nI (ix y)) hx ?_
      refine z_iald (pc := 96) hC 30 rfl dX5_job_96 (ix y) rfl (by omega) (by decide) ?_
      exact hE _ _ _ (Q, P, T, p, K) _ _ _ dX5_job_97 rfl ⟨(by rw [cJob, h1, hz]; decide), (by rw [vJob, hz]; rfl), rfl⟩ rfl (Nat.zero_le _) (Nat.zero_le _)
    · refine z_tableIn (pc := 25) (off := 73) hC 98 dX5_job_25 (by rw [hz]; decide) (by decide) ?_
      refine z_aln (pc := 98) hC 0 rfl dX5_job_98 ?_
      refine z_get (pc := 99) hC fX5_10 0 rfl rfl dX5_job_99 ?_
      refine z_get (pc := 102) hC fX5_57 20 rfl rfl dX5_job_102 ?_
      refine z_get (pc := 105) hC fX5_219 22 rfl rfl dX5_job_105 ?_
      refine z_iln (pc := 108) hC 1 rfl dX5_job_108 ?_
      refine z_is_ (y := nI (ix y)) hx ?_
      refine z_iald (pc := 109) hC 31 rfl dX5_job_109 (ix y) rfl (by omega) (by decide) ?_
      exact hE _ _ _ (Q, P, T, p, K) _ _ _ dX5_job_110 rfl ⟨(by rw [cJob, h1, hz]; decide), (by rw [vJob, hz]; rfl), rfl⟩ rfl (Nat.zero_le _) (Nat.zero_le _)
    · refine z_tableIn (pc := 25) (off := 86) hC 111 dX5_job_25 (by rw [hz]; decide) (by decide) ?_
      refine z_aln (pc := 111) hC 0 rfl dX5_job_111 ?_
      refine z_get (pc := 112) hC fX5_10 0 rfl rfl dX5_job_112 ?_
      refine z_get (pc := 115) hC fX5_57 20 rfl rfl dX5_job_115 ?_
      refine z_get (pc := 118) hC fX5_221 22 rfl rfl dX5_job_118 ?_
      refine z_iln (pc := 121) hC 1 rfl dX5_job_121 ?_
      refine z_is_ (y := nI (ix y)) hx ?_
      refine z_iald (pc := 122) hC 32 rfl dX5_job_122 (ix y) rfl (by omega) (by decide) ?_
      exact hE _ _ _ (Q, P, T, p, K) _ _ _ dX5_job_123 rfl ⟨(by rw [cJob, h1, hz]; decide), (by rw [vJob, hz]; rfl), rfl⟩ rfl (Nat.zero_le _) (Nat.zero_le _)
    · refine z_tableIn (pc := 25) (off := 99) hC 124 dX5_job_25 (by rw [hz]; decide) (by decide) ?_
      refine z_aln (pc := 124) hC 0 rfl dX5_job_124 ?_
      refine z_get (pc := 125) hC fX5_10 0 rfl rfl dX5_job_125 ?_
      refine z_get (pc := 128) hC fX5_57 20 rfl rfl dX5_job_128 ?_
      refine z_get (pc := 131) hC fX5_76 22 rfl rfl dX5_job_131 ?_
      refine z_iln (pc := 134) hC 1 rfl dX5_job_134 ?_
      refine z_is_ (y := nI (ix y)) hx ?_
      refine z_iald (pc := 135) hC 33 rfl dX5_job_135 (ix y) rfl (by omega) (by decide) ?_
      exact hE _ _ _ (Q, P, T, p, K) _ _ _ dX5_job_136 rfl ⟨(by rw [cJob, h1, hz]; decide), (by rw [vJob, hz]; rfl), rfl⟩ rfl (Nat.zero_le _) (Nat.zero_le _)
    · refine z_tableIn (pc := 25) (off := 112) hC 137 dX5_job_25 (by rw [hz]; decide) (by decide) ?_
      refine z_aln (pc := 137) hC 0 rfl dX5_job_137 ?_
      refine z_get (pc := 138) hC fX5_10 0 rfl rfl dX5_job_138 ?_
      refine z_get (pc := 141) hC fX5_57 20 rfl rfl dX5_job_141 ?_
      refine z_get (pc := 144) hC fX5_86 22 rfl rfl dX5_job_144 ?_
      refine z_iln (pc := 147) hC 1 rfl dX5_job_147 ?_
      refine z_is_ (y := nI (ix y)) hx ?_
      refine z_iald (pc := 148) hC 34 rfl dX5_job_148 (ix y) rfl (by omega) (by decide) ?_
      exact hE _ _ _ (Q, P, T, p, K) _ _ _ dX5_job_149 rfl ⟨(by rw [cJob, h1, hz]; decide), (by rw [vJob, hz]; rfl), rfl⟩ rfl (Nat.zero_le _) (Nat.zero_le _)
    · refine z_tableIn (pc := 25) (off := 125) hC 150 dX5_job_25 (by rw [hz]; decide) (by decide) ?_
      refine z_aln (pc := 150) hC 0 rfl dX5_job_150 ?_
      refine z_get (pc := 151) hC fX5_10 0 rfl rfl dX5_job_151 ?_
      refine z_get (pc := 154) hC fX5_57 20 rfl rfl dX5_job_154 ?_
      refine z_get (pc := 157) hC fX5_224 22 rfl rfl dX5_job_157 ?_
      refine z_iln (pc := 160) hC 1 rfl dX5_job_160 ?_
      refine z_is_ (y := nI (ix y)) hx ?_
      refine z_iald (pc := 161) hC 35 rfl dX5_job_161 (ix y) rfl (by omega) (by decide) ?_
      exact hE _ _ _ (Q, P, T, p, K) _ _ _ dX5_job_162 rfl ⟨(by rw [cJob, h1, hz]; decide), (by rw [vJob, hz]; rfl), rfl⟩ rfl (Nat.zero_le _) (Nat.zero_le _)
    · refine z_tableIn (pc := 25) (off := 138) hC 163 dX5_job_25 (by rw [hz]; decide) (by decide) ?_
      refine z_aln (pc := 163) hC 0 rfl dX5_job_163 ?_
      refine z_get (pc := 164) hC fX5_10 0 rfl rfl dX5_job_164 ?_
      refine z_get (pc := 167) hC fX5_57 20 rfl rfl dX5_job_167 ?_
      refine z_get (pc := 170) hC fX5_227 22 rfl rfl dX5_job_170 ?_
      refine z_iln (pc := 173) hC 1 rfl dX5_job_173 ?_
      refine z_is_ (y := nI (ix y)) hx ?_
      refine z_iald (pc := 174) hC 36 rfl dX5_job_174 (ix y) rfl (by omega) (by decide) ?_
      exact hE _ _ _ (Q, P, T, p, K) _ _ _ dX5_job_175 rfl ⟨(by rw [cJob, h1, hz]; decide), (by rw [vJob, hz]; rfl), rfl⟩ rfl (Nat.zero_le _) (Nat.zero_le _)
    · refine z_tableOut (pc := 25) hC 176 dX5_job_25 hz (by decide) ?_
      exact hT 176 _ _ _ _ "no such part of a job" _ _ xIAE dX5_job_176 dX5_job_179 dX5_job_180 dX5_job_182 dX5_job_185 (by decide) (Q, P, T, p, K) ⟨(Or.inr ⟨(job_out h1 hz), rfl⟩), hX⟩ rfl
  · have h1 : isJob R y = false := bI_0.mp c11
    exact hT 14 _ _ _ _ "no such job" _ _ xIOE dX5_job_14 dX5_job_17 dX5_job_18 dX5_job_20 dX5_job_23 (by decide) (Q, P, T, p, K) ⟨(Or.inl ⟨(if_pos h1), rfl⟩), hX⟩ rfl

set_option maxRecDepth 100000 in
set_option maxHeartbeats 4000000 in
theorem k_isStuck {g : zG} {x : Nat} {u c a h : Nat → Nat} {e : Nat → Nat → Nat} {Q P : Nat → Int32} {T R : St} {s p : Nat} {K : Nat → St} {H : Nat → St} {t : Nat → Nat} {L : Nat} (hG : GR R) (hX : xR H s t L (Q, P, T, p, K)) {y : Int32} (h0 : cIs R y = 0) : FI (S := XS) g yX5_isStuck cX5_isStuck 2 .boolean 8 0 0 [.ref x, .int y] (xW g.2 x u c a h e Q P T R (nI s) (nI p) K) (fun r S => (cIs R y) = 0 ∧ r = vStuck R y ∧ S = (Q, P, T, p, K)) (fun S => xW g.2 x u c a h e S.1 S.2.1 S.2.2.1 R (nI s) (nI S.2.2.2.1) S.2.2.2.2) := by
  refine fg_entry (px := (fun E S => (((cIs R y) = 1 ∧ E = "java/lang/IndexOutOfBoundsException")) ∧ xR H s t L S)) (wx := (fun S => xW g.2 x u c a h e S.1 S.2.1 S.2.2.1 R (nI s) (nI S.2.2.2.1) S.2.2.2.2)) (fun E S hp => by simp [h0] at hp) (by decide) (Nat.le_of_ble_eq_true rfl) (fun C hC hm hE hT hTW => ?_)
  refine z_aln (pc := 0) hC 0 rfl dX5_isStuck_0 ?_
  refine z_get (pc := 1) hC fX5_10 0 rfl rfl dX5_isStuck_1 ?_
  refine z_get (pc := 4) hC fX5_57 20 rfl rfl dX5_isStuck_4 ?_
  refine z_iln (pc := 7) hC 1 rfl dX5_isStuck_7 ?_
  refine z_g (pc := 8) (rest := []) hC vX2_has lX5_67 dX5_isStuck_8 c_has (xKr g.2 x u c a h e Q P T (nI s) (nI p) K) xKr_ctx rfl 2 2 rfl rfl rfl rfl rfl (by decide) (Nat.le_of_ble_eq_true rfl) ⟨Nat.zero_le _, Nat.zero_le _⟩ ?_
  refine z_ifne (pc := 11) hC 24 (by decide) dX5_isStuck_11 (fun c11 => ?_) (fun c11 => ?_)
  · have h1 : isJob R y = true := bI_n.mp c11
    obtain ⟨hjn, hj, hx⟩ := job_ix hG h1
    refine z_aln (pc := 24) hC 0 rfl dX5_isStuck_24 ?_
    refine z_get (pc := 25) hC fX5_10 0 rfl rfl dX5_isStuck_25 ?_
    refine z_get (pc := 28) hC fX5_57 20 rfl rfl dX5_isStuck_28 ?_
    refine z_get (pc := 31) hC fX5_76 22 rfl rfl dX5_isStuck_31 ?_
    refine z_iln (pc := 34) hC 1 rfl dX5_isStuck_34 ?_
    refine z_is_ (y := nI (ix y)) hx ?_
    refine z_iald (pc := 35) hC 33 rfl dX5_isStuck_35 (ix y) rfl (by omega) (by decide) ?_
    refine z_ifne (pc := 36) hC 54 (by decide) dX5_isStuck_36 (fun c36 => ?_) (fun c36 => ?_)
    · have h3 : vStuck R y = 0 := by simp [vStuck, bI, c36]
      refine z_iconst (pc := 54) (v := 0) hC dX5_isStuck_54 (by decide) ?_
      exact hE _ _ _ (Q, P, T, p, K) _ _ _ dX5_isStuck_55 rfl ⟨(by simp [cIs, h1]), h3.symm, rfl⟩ rfl (Nat.zero_le _) (Nat.zero_le _)
    · refine z_aln (pc := 39) hC 0 rfl dX5_isStuck_39 ?_
      refine z_get (pc := 40) hC fX5_10 0 rfl rfl dX5_isStuck_40 ?_
      refine z_iln (pc := 43) hC 1 rfl dX5_isStuck_43 ?_
      refine z_is_ (y := nI (ix y)) hx ?_
      refine z_g (pc := 44) (rest := []) hC vX4_lacksReel lX5_232 dX5_isStuck_44 (c_lacksReel hj) (xKr g.2 x u c a h e Q P T (nI s) (nI p) K) xKr_ctx rfl 0 4 rfl rfl rfl rfl rfl (by decide) (Nat.le_of_ble_eq_true rfl) ⟨Nat.zero_le _, Nat.zero_le _⟩ ?_
      refine z_ifeq (pc := 47) hC 54 (by decide) dX5_isStuck_47 (fun c47 => ?_) (fun c47 => ?_)
      · have h3 : vStuck R y = 0 := by simp [vStuck, bI, show ¬ fnd R (ix y) = -1 by simpa using bI_0.mp c47]
        refine z_iconst (pc := 54) (v := 0) hC dX5_isStuck_54 (by decide) ?_
        exact hE _ _ _ (Q, P, T, p, K) _ _ _ dX5_isStuck_55 rfl ⟨(by simp [cIs, h1]), h3.symm, rfl⟩ rfl (Nat.zero_le _) (Nat.zero_le _)
      · have h3 : vStuck R y = 1 := by simp [vStuck, bI, c36, show fnd R (ix y) = -1 by simpa using bI_n.mp c47]
        refine z_iconst (pc := 50) (v := 1) hC dX5_isStuck_50 (by decide) ?_
        refine z_goto (pc := 51) hC 55 (by decide) dX5_isStuck_51 ?_
        exact hE _ _ _ (Q, P, T, p, K) _ _ _ dX5_isStuck_55 rfl ⟨(by simp [cIs, h1]), h3.symm, rfl⟩ rfl (Nat.zero_le _) (Nat.zero_le _)
  · have h1 : isJob R y = false := bI_0.mp c11
    exact hT 14 _ _ _ _ "no such job" _ _ xIOE dX5_isStuck_14 dX5_isStuck_17 dX5_isStuck_18 dX5_isStuck_20 dX5_isStuck_23 (by decide) (Q, P, T, p, K) ⟨⟨(if_pos h1), rfl⟩, hX⟩ rfl

set_option maxRecDepth 100000 in
set_option maxHeartbeats 4000000 in
theorem k_verdict {g : zG} {x : Nat} {u c a h : Nat → Nat} {e : Nat → Nat → Nat} {Q P : Nat → Int32} {T R : St} {s p : Nat} {K : Nat → St} {H : Nat → St} {t : Nat → Nat} {L : Nat} (hG : GR R) (hX : xR H s t L (Q, P, T, p, K)) {y z : Int32} (h0 : cVer R y z = 0) : FI (S := XS) g yX5_verdict cX5_verdict 3 .int 8 0 0 [.ref x, .int y, .int z] (xW g.2 x u c a h e Q P T R (nI s) (nI p) K) (fun r S => (cVer R y z) = 0 ∧ r = chk R (ix y) (ix z) ∧ S = (Q, P, T, p, K)) (fun S => xW g.2 x u c a h e S.1 S.2.1 S.2.2.1 R (nI s) (nI S.2.2.2.1) S.2.2.2.2) := by
  refine fg_entry (px := (fun E S => (((cVer R y z) = 1 ∧ E = "java/lang/IndexOutOfBoundsException")) ∧ xR H s t L S)) (wx := (fun S => xW g.2 x u c a h e S.1 S.2.1 S.2.2.1 R (nI s) (nI S.2.2.2.1) S.2.2.2.2)) (fun E S hp => by simp [h0] at hp) (by decide) (Nat.le_of_ble_eq_true rfl) (fun C hC hm hE hT hTW => ?_)
  refine z_aln (pc := 0) hC 0 rfl dX5_verdict_0 ?_
  refine z_get (pc := 1) hC fX5_10 0 rfl rfl dX5_verdict_1 ?_
  refine z_get (pc := 4) hC fX5_57 20 rfl rfl dX5_verdict_4 ?_
  refine z_iln (pc := 7) hC 1 rfl dX5_verdict_7 ?_
  refine z_g (pc := 8) (rest := []) hC vX2_has lX5_67 dX5_verdict_8 c_has (xKr g.2 x u c a h e Q P T (nI s) (nI p) K) xKr_ctx rfl 2 2 rfl rfl rfl rfl rfl (by decide) (Nat.le_of_ble_eq_true rfl) ⟨Nat.zero_le _, Nat.zero_le _⟩ ?_
  refine z_ifeq (pc := 11) hC 21 (by decide) dX5_verdict_11 (fun c11 => ?_) (fun c11 => ?_)
  · have h3 : cVer R y z = 1 := if_pos (bI_0.mp c11)
    exact hT 21 _ _ _ _ "no such job or reel" _ _ xIOE dX5_verdict_21 dX5_verdict_24 dX5_verdict_25 dX5_verdict_27 dX5_verdict_30 (by decide) (Q, P, T, p, K) ⟨⟨h3, rfl⟩, hX⟩ rfl
  · have h1 : isJob R y = true := bI_n.mp c11
    obtain ⟨hjn, hj, hx⟩ := job_ix hG h1
    refine z_iln (pc := 14) hC 2 rfl dX5_verdict_14 ?_
    refine z_gs (pc := 15) (rest := []) hC sX5_isReel lX5_89 dX5_verdict_15 c_isReel rfl rfl (by decide) (Nat.le_of_ble_eq_true rfl) ⟨Nat.zero_le _, Nat.zero_le _⟩ ?_
    refine z_ifne (pc := 18) hC 31 (by decide) dX5_verdict_18 (fun c18 => ?_) (fun c18 => ?_)
    · have h2 : isReel z = true := bI_n.mp c18
      obtain ⟨hr, hz⟩ := reel_ix h2
      refine z_aln (pc := 31) hC 0 rfl dX5_verdict_31 ?_
      refine z_get (pc := 32) hC fX5_10 0 rfl rfl dX5_verdict_32 ?_
      refine z_iln (pc := 35) hC 1 rfl dX5_verdict_35 ?_
      refine z_is_ (y := nI (ix y)) hx ?_
      refine z_iln (pc := 36) hC 2 rfl dX5_verdict_36 ?_
      refine z_is_ (y := nI (ix z)) hz ?_
      refine z_g (pc := 37) (rest := []) hC vX4_check lX5_237 dX5_verdict_37 (c_check hj hr (hG.ring _ hr)) (xKr g.2 x u c a h e Q P T (nI s) (nI p) K) xKr_ctx rfl 0 4 rfl rfl rfl rfl rfl (by decide) (Nat.le_of_ble_eq_true rfl) ⟨Nat.zero_le _, Nat.zero_le _⟩ ?_
      exact hE _ _ _ (Q, P, T, p, K) _ _ _ dX5_verdict_40 rfl ⟨(by simp [cVer, h1, h2]), rfl, rfl⟩ rfl (Nat.zero_le _) (Nat.zero_le _)
    · have h3 : cVer R y z = 1 := by simp [cVer, h1, bI_0.mp c18]
      exact hT 21 _ _ _ _ "no such job or reel" _ _ xIOE dX5_verdict_21 dX5_verdict_24 dX5_verdict_25 dX5_verdict_27 dX5_verdict_30 (by decide) (Q, P, T, p, K) ⟨⟨h3, rfl⟩, hX⟩ rfl

set_option maxRecDepth 100000 in
set_option maxHeartbeats 4000000 in
theorem k_count {g : zG} {x : Nat} {u c a h : Nat → Nat} {e : Nat → Nat → Nat} {Q P : Nat → Int32} {T R : St} {s p : Nat} {K : Nat → St} {H : Nat → St} {t : Nat → Nat} {L : Nat} (hG : GR R) (hX : xR H s t L (Q, P, T, p, K)) {y : Int32} (h0 : cCnt y = 0) : FI (S := XS) g yX5_count cX5_count 2 .int 8 0 0 [.ref x, .int y] (xW g.2 x u c a h e Q P T R (nI s) (nI p) K) (fun r S => (cCnt y) = 0 ∧ r = vCnt R y ∧ S = (Q, P, T, p, K)) (fun S => xW g.2 x u c a h e S.1 S.2.1 S.2.2.1 R (nI s) (nI S.2.2.2.1) S.2.2.2.2) := by
  refine fg_entry (px := (fun E S => (((cCnt y) = 1 ∧ E = "java/lang/IllegalArgumentException")) ∧ xR H s t L S)) (wx := (fun S => xW g.2 x u c a h e S.1 S.2.1 S.2.2.1 R (nI s) (nI S.2.2.2.1) S.2.2.2.2)) (fun E S hp => by simp [h0] at hp) (by decide) (Nat.le_of_ble_eq_true rfl) (fun C hC hm hE hT hTW => ?_)
  refine z_iln (pc := 0) hC 1 rfl dX5_count_0 ?_
  rcases cnt_cases y with hz | hz | hz | hz | hz | hz | hz | hz | hz | hz | hz | hz
  · refine z_tableIn (pc := 1) (off := 59) hC 60 dX5_count_1 (by rw [hz]; decide) (by decide) ?_
    refine z_aln (pc := 60) hC 0 rfl dX5_count_60 ?_
    refine z_get (pc := 61) hC fX5_10 0 rfl rfl dX5_count_61 ?_
    refine z_get (pc := 64) hC fX5_126 20 rfl rfl dX5_count_64 ?_
    exact hE _ _ _ (Q, P, T, p, K) _ _ _ dX5_count_67 rfl ⟨(by rw [cCnt, hz]; decide), (by rw [vCnt, hz, if_pos (by decide)]; rfl), rfl⟩ rfl (Nat.zero_le _) (Nat.zero_le _)
  · refine z_tableIn (pc := 1) (off := 67) hC 68 dX5_count_1 (by rw [hz]; decide) (by decide) ?_
    refine z_aln (pc := 68) hC 0 rfl dX5_count_68 ?_
    refine z_get (pc := 69) hC fX5_10 0 rfl rfl dX5_count_69 ?_
    refine z_get (pc := 72) hC fX5_260 20 rfl rfl dX5_count_72 ?_
    exact hE _ _ _ (Q, P, T, p, K) _ _ _ dX5_count_75 rfl ⟨(by rw [cCnt, hz]; decide), (by rw [vCnt, hz, if_pos (by decide)]; rfl), rfl⟩ rfl (Nat.zero_le _) (Nat.zero_le _)
  · refine z_tableIn (pc := 1) (off := 75) hC 76 dX5_count_1 (by rw [hz]; decide) (by decide) ?_
    refine z_aln (pc := 76) hC 0 rfl dX5_count_76 ?_
    refine z_get (pc := 77) hC fX5_10 0 rfl rfl dX5_count_77 ?_
    refine z_get (pc := 80) hC fX5_244 20 rfl rfl dX5_count_80 ?_
    exact hE _ _ _ (Q, P, T, p, K) _ _ _ dX5_count_83 rfl ⟨(by rw [cCnt, hz]; decide), (by rw [vCnt, hz, if_pos (by decide)]; rfl), rfl⟩ rfl (Nat.zero_le _) (Nat.zero_le _)
  · refine z_tableIn (pc := 1) (off := 83) hC 84 dX5_count_1 (by rw [hz]; decide) (by decide) ?_
    refine z_aln (pc := 84) hC 0 rfl dX5_count_84 ?_
    refine z_get (pc := 85) hC fX5_10 0 rfl rfl dX5_count_85 ?_
    refine z_get (pc := 88) hC fX5_261 20 rfl rfl dX5_count_88 ?_
    exact hE _ _ _ (Q, P, T, p, K) _ _ _ dX5_count_91 rfl ⟨(by rw [cCnt, hz]; decide), (by rw [vCnt, hz, if_pos (by decide)]; rfl), rfl⟩ rfl (Nat.zero_le _) (Nat.zero_le _)
  · refine z_tableIn (pc := 1) (off := 91) hC 92 dX5_count_1 (by rw [hz]; decide) (by decide) ?_
    refine z_aln (pc := 92) hC 0 rfl dX5_count_92 ?_
    refine z_get (pc := 93) hC fX5_10 0 rfl rfl dX5_count_93 ?_
    refine z_get (pc := 96) hC fX5_264 20 rfl rfl dX5_count_96 ?_
    exact hE _ _ _ (Q, P, T, p, K) _ _ _ dX5_count_99 rfl ⟨(by rw [cCnt, hz]; decide), (by rw [vCnt, hz, if_pos (by decide)]; rfl), rfl⟩ rfl (Nat.zero_le _) (Nat.zero_le _)
  · refine z_tableIn (pc := 1) (off := 99) hC 100 dX5_count_1 (by rw [hz]; decide) (by decide) ?_
    refine z_aln (pc := 100) hC 0 rfl dX5_count_100 ?_
    refine z_get (pc := 101) hC fX5_10 0 rfl rfl dX5_count_101 ?_
    refine z_get (pc := 104) hC fX5_266 20 rfl rfl dX5_count_104 ?_
    exact hE _ _ _ (Q, P, T, p, K) _ _ _ dX5_count_107 rfl ⟨(by rw [cCnt, hz]; decide), (by rw [vCnt, hz, if_pos (by decide)]; rfl), rfl⟩ rfl (Nat.zero_le _) (Nat.zero_le _)
  · refine z_tableIn (pc := 1) (off := 107) hC 108 dX5_count_1 (by rw [hz]; decide) (by decide) ?_
    refine z_aln (pc := 108) hC 0 rfl dX5_count_108 ?_
    refine z_get (pc := 109) hC fX5_10 0 rfl rfl dX5_count_109 ?_
    refine z_get (pc := 112) hC fX5_269 20 rfl rfl dX5_count_112 ?_
    exact hE _ _ _ (Q, P, T, p, K) _ _ _ dX5_count_115 rfl ⟨(by rw [cCnt, hz]; decide), (by rw [vCnt, hz, if_pos (by decide)]; rfl), rfl⟩ rfl (Nat.zero_le _) (Nat.zero_le _)
  · refine z_tableIn (pc := 1) (off := 115) hC 116 dX5_count_1 (by rw [hz]; decide) (by decide) ?_
    refine z_aln (pc := 116) hC 0 rfl dX5_count_116 ?_
    refine z_get (pc := 117) hC fX5_10 0 rfl rfl dX5_count_117 ?_
    refine z_get (pc := 120) hC fX5_272 20 rfl rfl dX5_count_120 ?_
    exact hE _ _ _ (Q, P, T, p, K) _ _ _ dX5_count_123 rfl ⟨(by rw [cCnt, hz]; decide), (by rw [vCnt, hz, if_pos (by decide)]; rfl), rfl⟩ rfl (Nat.zero_le _) (Nat.zero_le _)
  · refine z_tableIn (pc := 1) (off := 123) hC 124 dX5_count_1 (by rw [hz]; decide) (by decide) ?_
    refine z_aln (pc := 124) hC 0 rfl dX5_count_124 ?_
    refine z_get (pc := 125) hC fX5_10 0 rfl rfl dX5_count_125 ?_
    refine z_get (pc := 128) hC fX5_57 20 rfl rfl dX5_count_128 ?_
    refine z_iconst (pc := 131) (v := 0) hC dX5_count_131 (by decide) ?_
    refine z_g (pc := 132) (rest := []) hC vX2_countIn lX5_275 dX5_count_132 (c_countIn hG.num hG.n12) (xKr g.2 x u c a h e Q P T (nI s) (nI p) K) xKr_ctx rfl 2 2 rfl rfl rfl rfl rfl (by decide) (Nat.le_of_ble_eq_true rfl) ⟨Nat.zero_le _, Nat.zero_le _⟩ ?_
    exact hE _ _ _ (Q, P, T, p, K) _ _ _ dX5_count_135 rfl ⟨(by rw [cCnt, hz]; decide), (by rw [vCnt, hz, if_neg (by decide)]; rfl), rfl⟩ rfl (Nat.zero_le _) (Nat.zero_le _)
  · refine z_tableIn (pc := 1) (off := 135) hC 136 dX5_count_1 (by rw [hz]; decide) (by decide) ?_
    refine z_aln (pc := 136) hC 0 rfl dX5_count_136 ?_
    refine z_get (pc := 137) hC fX5_10 0 rfl rfl dX5_count_137 ?_
    refine z_get (pc := 140) hC fX5_57 20 rfl rfl dX5_count_140 ?_
    refine z_iconst (pc := 143) (v := 1) hC dX5_count_143 (by decide) ?_
    refine z_g (pc := 144) (rest := []) hC vX2_countIn lX5_275 dX5_count_144 (c_countIn hG.num hG.n12) (xKr g.2 x u c a h e Q P T (nI s) (nI p) K) xKr_ctx rfl 2 2 rfl rfl rfl rfl rfl (by decide) (Nat.le_of_ble_eq_true rfl) ⟨Nat.zero_le _, Nat.zero_le _⟩ ?_
    exact hE _ _ _ (Q, P, T, p, K) _ _ _ dX5_count_147 rfl ⟨(by rw [cCnt, hz]; decide), (by rw [vCnt, hz, if_neg (by decide)]; rfl), rfl⟩ rfl (Nat.zero_le _) (Nat.zero_le _)
  · refine z_tableIn (pc := 1) (off := 147) hC 148 dX5_count_1 (by rw [hz]; decide) (by decide) ?_
    refine z_aln (pc := 148) hC 0 rfl dX5_count_148 ?_
    refine z_get (pc := 149) hC fX5_10 0 rfl rfl dX5_count_149 ?_
    refine z_get (pc := 152) hC fX5_57 20 rfl rfl dX5_count_152 ?_
    refine z_iconst (pc := 155) (v := 2) hC dX5_count_155 (by decide) ?_
    refine z_g (pc := 156) (rest := []) hC vX2_countIn lX5_275 dX5_count_156 (c_countIn hG.num hG.n12) (xKr g.2 x u c a h e Q P T (nI s) (nI p) K) xKr_ctx rfl 2 2 rfl rfl rfl rfl rfl (by decide) (Nat.le_of_ble_eq_true rfl) ⟨Nat.zero_le _, Nat.zero_le _⟩ ?_
    exact hE _ _ _ (Q, P, T, p, K) _ _ _ dX5_count_159 rfl ⟨(by rw [cCnt, hz]; decide), (by rw [vCnt, hz, if_neg (by decide)]; rfl), rfl⟩ rfl (Nat.zero_le _) (Nat.zero_le _)
  · refine z_tableOut (pc := 1) hC 160 dX5_count_1 hz (by decide) ?_
    exact hTW 160 _ _ _ _ "no such count" _ _ xIAE dX5_count_160 dX5_count_163 dX5_count_164 dX5_count_167 dX5_count_170 (by decide) (Q, P, T, p, K) ⟨⟨(cnt_out hz), rfl⟩, hX⟩ rfl

set_option maxRecDepth 100000 in
set_option maxHeartbeats 4000000 in
theorem k_scratchReels {g : zG} {x : Nat} {u c a h : Nat → Nat} {e : Nat → Nat → Nat} {Q P : Nat → Int32} {T R : St} {s p : Nat} {K : Nat → St} {H : Nat → St} {t : Nat → Nat} {L : Nat} (hG : GR R) (hX : xR H s t L (Q, P, T, p, K)) : Gi g yX5_scratchReels cX5_scratchReels 3 .int 1 [.ref x] (xW g.2 x u c a h e Q P T R (nI s) (nI p) K) (cntR R 0 12 0) (xW g.2 x u c a h e Q P T R (nI s) (nI p) K) := by
  refine fi_entry (by decide) (Nat.le_of_ble_eq_true rfl) (fun C hC hm hE => ?_)
  have loop : ∀ (k m : Nat) (y : Int32), m + k = 12 → cntR R m k y = cntR R 0 12 0 → Z g C 0 0 (xW g.2 x u c a h e Q P T R (nI s) (nI p) K) [(2, .int (nI m)), (1, .int y), (0, .ref x)] 4 [] := by
    intro k
    induction k with
    | zero =>
      intro m y hm2 hp
      refine z_iln (pc := 4) hC 0 rfl dX5_scratchReels_4 ?_
      refine z_bipush (pc := 5) (v := nI 12) hC dX5_scratchReels_5 (by decide) ?_
      refine z_icge (pc := 7) hC 40 (by decide) dX5_scratchReels_7 (fun c7 => ?_) (fun c7 => absurd (nI_le (by omega) (by omega)) c7)
      refine z_iln (pc := 40) hC 1 rfl dX5_scratchReels_40 ?_
      exact hE _ _ _ () _ _ _ dX5_scratchReels_41 rfl hp rfl (Nat.zero_le _) (Nat.zero_le _)
    | succ k ih =>
      intro m y hm2 hp
      refine z_iln (pc := 4) hC 0 rfl dX5_scratchReels_4 ?_
      refine z_bipush (pc := 5) (v := nI 12) hC dX5_scratchReels_5 (by decide) ?_
      refine z_icge (pc := 7) hC 40 (by decide) dX5_scratchReels_7 (fun c7 => absurd c7 (nI_ge (by omega) (by omega))) (fun c7 => ?_)
      refine z_aln (pc := 10) hC 2 rfl dX5_scratchReels_10 ?_
      refine z_get (pc := 11) hC fX5_10 0 rfl rfl dX5_scratchReels_11 ?_
      refine z_get (pc := 14) hC fX5_96 20 rfl rfl dX5_scratchReels_14 ?_
      refine z_iln (pc := 17) hC 0 rfl dX5_scratchReels_17 ?_
      refine z_aln (pc := 18) hC 2 rfl dX5_scratchReels_18 ?_
      refine z_get (pc := 19) hC fX5_10 0 rfl rfl dX5_scratchReels_19 ?_
      refine z_get (pc := 22) hC fX5_126 20 rfl rfl dX5_scratchReels_22 ?_
      refine z_g (pc := 25) (rest := []) hC vX3_isScratch lX5_200 dX5_scratchReels_25 (c_isScratch (by omega) rfl) (xKr g.2 x u c a h e Q P T (nI s) (nI p) K) xKr_ctx rfl 1 3 rfl rfl rfl rfl rfl (by decide) (Nat.le_of_ble_eq_true rfl) ⟨Nat.zero_le _, Nat.zero_le _⟩ ?_
      refine z_ifeq (pc := 28) hC 34 (by decide) dX5_scratchReels_28 (fun c28 => ?_) (fun c28 => ?_)
      · have hs : scr R m = false := bI_0.mp c28
        refine z_iinc (pc := 34) (v := nI (m + 1)) (j := 0) (lv' := [(2, .int (nI (m + 1))), (1, .int y), (0, .ref x)]) hC hm (by decide) rfl (up_step m) rfl dX5_scratchReels_34 ?_
        refine z_goto (pc := 37) hC 4 (by decide) dX5_scratchReels_37 ?_
        refine z_lv [0, 1, 2] rfl ?_
        exact ih (m + 1) _ (by omega) (by rw [← hp]; simp [cntR, hs])
      · have hs : scr R m = true := bI_n.mp c28
        refine z_iinc (pc := 31) (v := y + 1) (j := 1) (lv' := [(1, .int (y + 1)), (2, .int (nI m)), (0, .ref x)]) hC hm (by decide) rfl rfl rfl dX5_scratchReels_31 ?_
        refine z_iinc (pc := 34) (v := nI (m + 1)) (j := 1) (lv' := [(2, .int (nI (m + 1))), (1, .int (y + 1)), (0, .ref x)]) hC hm (by decide) rfl (up_step m) rfl dX5_scratchReels_34 ?_
        refine z_goto (pc := 37) hC 4 (by decide) dX5_scratchReels_37 ?_
        refine z_lv [0, 1, 2] rfl ?_
        exact ih (m + 1) _ (by omega) (by rw [← hp]; simp [cntR, hs])
  refine z_iconst (pc := 0) (v := 0) hC dX5_scratchReels_0 (by decide) ?_
  refine z_isn (pc := 1) (lv' := [(1, .int 0), (0, .ref x)]) hC hm (by decide) rfl dX5_scratchReels_1 ?_
  refine z_iconst (pc := 2) (v := nI 0) hC dX5_scratchReels_2 (by decide) ?_
  refine z_isn (pc := 3) (lv' := [(2, .int (nI 0)), (1, .int 0), (0, .ref x)]) hC hm (by decide) rfl dX5_scratchReels_3 ?_
  refine z_lv [0, 1, 2] rfl ?_
  exact loop 12 0 0 (by omega) rfl
