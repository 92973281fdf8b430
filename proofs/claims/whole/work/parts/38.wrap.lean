set_option maxRecDepth 100000 in
set_option maxHeartbeats 4000000 in
theorem w_submit {g : zG} {x : Nat} {u c a h : Nat → Nat} {e : Nat → Nat → Nat} {Q P : Nat → Int32} {T R : St} {s p : Nat} {K : Nat → St} {H : Nat → St} {t : Nat → Nat} {L : Nat} (hG : GR R) (hX : xR H s t L (Q, P, T, p, K)) {o : Nat} {f : Nat → Int64} {y z v w : Int32} : FW (S := XS × (Nat → Int64)) g yL_submit cL_submit 7 [(0, 14, 17, 13), (0, 14, 21, 15)] 9 [.ref x, .int y, .int z, .int v, .int w, .ref o] (xW g.2 x u c a h e Q P T R (nI s) (nI p) K ++ [(o, .inl (g.2 3, 1, .inr (.inl f)))]) (fun r S => r = nI (cSub R y z v w) ∧ ((cSub R y z v w) = 0 → xR (pushH H s R) (pushN s) t L S.1 ∧ S.2 0 = (nI (nn R)).toInt64) ∧ ((cSub R y z v w) ≠ 0 → xR H s t L S.1)) (fun S => xW g.2 x u c a h e S.1.1 S.1.2.1 S.1.2.2.1 (if (cSub R y z v w) = 0 then (subm R (nn R) y z v w) else R) (nI (if (cSub R y z v w) = 0 then pushN s else s)) (nI S.1.2.2.2.1) S.1.2.2.2.2 ++ [(o, .inl (g.2 3, 1, .inr (.inl S.2)))]) := by
  refine fw_entry (by decide) (Nat.le_of_ble_eq_true rfl) (fun C hC hm htb h0 hZX hNc hE => ?_)
  refine z_al (pc := 0) hC 5 rfl dL_submit_0 ?_
  refine z_iconst (pc := 2) (v := 0) hC dL_submit_2 (by decide) ?_
  refine z_aln (pc := 3) hC 0 rfl dL_submit_3 ?_
  refine z_iln (pc := 4) hC 1 rfl dL_submit_4 ?_
  refine z_iln (pc := 5) hC 2 rfl dL_submit_5 ?_
  refine z_iln (pc := 6) hC 3 rfl dL_submit_6 ?_
  refine z_il (pc := 7) hC 4 rfl dL_submit_7 ?_
  refine z_vx (pc := 9) (rest := [.int 0, .ref o]) hC h0 hZX vX5_submit lL_7 dL_submit_9 (k_submit hG hX) [] [(o, .inl (g.2 3, 1, .inr (.inl f)))] rfl 0 5 rfl rfl rfl rfl rfl (by decide) (Nat.le_of_ble_eq_true rfl) ⟨Nat.le_of_ble_eq_true rfl, Nat.le_of_ble_eq_true rfl⟩ (fun E S1 hp => ?_) (fun r S1 hp => ?_)
  · obtain ⟨hp, hXu⟩ := hp
    rcases hp with ⟨hc, rfl⟩ | ⟨hc, rfl⟩
    · refine ⟨[], ⟨0, 14, 17, 13⟩, [⟨0, 14, 21, 15⟩], xA_, htb, (fun z hz => by simp at hz), rfl, by decide, in_aw 387 (by decide +kernel) (by decide +kernel), by decide +kernel, fun q9 => ?_⟩
      refine z_as (pc := 17) (lv' := [(6, .ref q9), (0, .ref x), (1, .int y), (2, .int z), (3, .int v), (4, .int w), (5, .ref o)]) hC hm (by decide) rfl dL_submit_17 ?_
      refine z_iconst (pc := 19) (v := 1) hC dL_submit_19 (by decide) ?_
      exact hE _ _ _ (S1, f) _ _ _ dL_submit_20 rfl ⟨by rw [hc]; rfl, fun z => absurd (hc.symm.trans z) (by decide), fun _ => hXu⟩ (by rw [if_neg (by rw [hc]; decide), if_neg (by rw [hc]; decide)]; try rfl) (Nat.le_of_ble_eq_true rfl) (Nat.le_of_ble_eq_true rfl)
    · refine ⟨[⟨0, 14, 17, 13⟩], ⟨0, 14, 21, 15⟩, [], xS_, htb, (fun z hz => Or.inr (by simp at hz; subst hz; exact ⟨by decide, xA_, in_aw 387 (by decide +kernel) (by decide +kernel), hNc.2.2⟩)), rfl, by decide, in_aw 388 (by decide +kernel) (by decide +kernel), by decide +kernel, fun q9 => ?_⟩
      refine z_as (pc := 21) (lv' := [(6, .ref q9), (0, .ref x), (1, .int y), (2, .int z), (3, .int v), (4, .int w), (5, .ref o)]) hC hm (by decide) rfl dL_submit_21 ?_
      refine z_iconst (pc := 23) (v := 2) hC dL_submit_23 (by decide) ?_
      exact hE _ _ _ (S1, f) _ _ _ dL_submit_24 rfl ⟨by rw [hc]; rfl, fun z => absurd (hc.symm.trans z) (by decide), fun _ => hXu⟩ (by rw [if_neg (by rw [hc]; decide), if_neg (by rw [hc]; decide)]; try rfl) (Nat.le_of_ble_eq_true rfl) (Nat.le_of_ble_eq_true rfl)
  · obtain ⟨hc, hv, hXn⟩ := hp
    refine z_i2l (pc := 12) (v := (r).toInt64) hC rfl dL_submit_12 ?_
    refine z_last (pc := 13) (ws' := xW g.2 x u c a h e S1.1 S1.2.1 S1.2.2.1 (subm R (nn R) y z v w) (nI (pushN s)) (nI S1.2.2.2.1) S1.2.2.2.2 ++ [(o, .inl (g.2 3, 1, .inr (.inl (vp_updL f 0 ((r).toInt64)))))]) hC 141 rfl dL_submit_13 0 rfl (by decide) (by decide) rfl ?_
    refine z_goto (pc := 14) hC 25 (by decide) dL_submit_14 ?_
    refine z_iconst (pc := 25) (v := 0) hC dL_submit_25 (by decide) ?_
    exact hE _ _ _ (S1, vp_updL f 0 ((r).toInt64)) _ _ _ dL_submit_26 rfl ⟨by rw [hc]; rfl, fun _ => ⟨hXn, show r.toInt64 = _ by rw [hv]⟩, fun z => absurd hc z⟩ (by rw [if_pos hc, if_pos hc]; try rfl) (Nat.le_of_ble_eq_true rfl) (Nat.le_of_ble_eq_true rfl)

set_option maxRecDepth 100000 in
set_option maxHeartbeats 4000000 in
theorem w_cancel {g : zG} {x : Nat} {u c a h : Nat → Nat} {e : Nat → Nat → Nat} {Q P : Nat → Int32} {T R : St} {s p : Nat} {K : Nat → St} {H : Nat → St} {t : Nat → Nat} {L : Nat} (hG : GR R) (hX : xR H s t L (Q, P, T, p, K)) {o : Nat} {f : Nat → Int64} {y : Int32} : FW (S := XS × (Nat → Int64)) g yL_cancel cL_cancel 4 [(0, 9, 12, 21), (0, 9, 15, 15)] 9 [.ref x, .int y, .ref o] (xW g.2 x u c a h e Q P T R (nI s) (nI p) K ++ [(o, .inl (g.2 3, 1, .inr (.inl f)))]) (fun r S => r = nI (cCan R y) ∧ ((cCan R y) = 0 → xR (pushH H s R) (pushN s) t L S.1 ∧ S.2 0 = (R 11 (ix y)).toInt64) ∧ ((cCan R y) ≠ 0 → xR H s t L S.1)) (fun S => xW g.2 x u c a h e S.1.1 S.1.2.1 S.1.2.2.1 (if (cCan R y) = 0 then (rCan R (ix y)) else R) (nI (if (cCan R y) = 0 then pushN s else s)) (nI S.1.2.2.2.1) S.1.2.2.2.2 ++ [(o, .inl (g.2 3, 1, .inr (.inl S.2)))]) := by
  refine fw_entry (by decide) (Nat.le_of_ble_eq_true rfl) (fun C hC hm htb h0 hZX hNc hE => ?_)
  refine z_aln (pc := 0) hC 2 rfl dL_cancel_0 ?_
  refine z_iconst (pc := 1) (v := 0) hC dL_cancel_1 (by decide) ?_
  refine z_aln (pc := 2) hC 0 rfl dL_cancel_2 ?_
  refine z_iln (pc := 3) hC 1 rfl dL_cancel_3 ?_
  refine z_vx (pc := 4) (rest := [.int 0, .ref o]) hC h0 hZX vX5_cancel lL_17 dL_cancel_4 (k_cancel hG hX) [] [(o, .inl (g.2 3, 1, .inr (.inl f)))] rfl 0 5 rfl rfl rfl rfl rfl (by decide) (Nat.le_of_ble_eq_true rfl) ⟨Nat.le_of_ble_eq_true rfl, Nat.le_of_ble_eq_true rfl⟩ (fun E S1 hp => ?_) (fun r S1 hp => ?_)
  · obtain ⟨hp, hXu⟩ := hp
    rcases hp with ⟨hc, rfl⟩ | ⟨hc, rfl⟩
    · refine ⟨[], ⟨0, 9, 12, 21⟩, [⟨0, 9, 15, 15⟩], xO_, htb, (fun z hz => by simp at hz), rfl, by decide, in_aw 526 (by decide +kernel) (by decide +kernel), by decide +kernel, fun q9 => ?_⟩
      refine z_asn (pc := 12) (lv' := [(3, .ref q9), (0, .ref x), (1, .int y), (2, .ref o)]) hC hm (by decide) rfl dL_cancel_12 ?_
      refine z_iconst (pc := 13) (v := 1) hC dL_cancel_13 (by decide) ?_
      exact hE _ _ _ (S1, f) _ _ _ dL_cancel_14 rfl ⟨by rw [hc]; rfl, fun z => absurd (hc.symm.trans z) (by decide), fun _ => hXu⟩ (by rw [if_neg (by rw [hc]; decide), if_neg (by rw [hc]; decide)]; try rfl) (Nat.le_of_ble_eq_true rfl) (Nat.le_of_ble_eq_true rfl)
    · refine ⟨[⟨0, 9, 12, 21⟩], ⟨0, 9, 15, 15⟩, [], xS_, htb, (fun z hz => Or.inr (by simp at hz; subst hz; exact ⟨by decide, xO_, in_aw 526 (by decide +kernel) (by decide +kernel), hNc.2.1⟩)), rfl, by decide, in_aw 388 (by decide +kernel) (by decide +kernel), by decide +kernel, fun q9 => ?_⟩
      refine z_asn (pc := 15) (lv' := [(3, .ref q9), (0, .ref x), (1, .int y), (2, .ref o)]) hC hm (by decide) rfl dL_cancel_15 ?_
      refine z_iconst (pc := 16) (v := 2) hC dL_cancel_16 (by decide) ?_
      exact hE _ _ _ (S1, f) _ _ _ dL_cancel_17 rfl ⟨by rw [hc]; rfl, fun z => absurd (hc.symm.trans z) (by decide), fun _ => hXu⟩ (by rw [if_neg (by rw [hc]; decide), if_neg (by rw [hc]; decide)]; try rfl) (Nat.le_of_ble_eq_true rfl) (Nat.le_of_ble_eq_true rfl)
  · obtain ⟨hc, hv, hXn⟩ := hp
    refine z_i2l (pc := 7) (v := (r).toInt64) hC rfl dL_cancel_7 ?_
    refine z_last (pc := 8) (ws' := xW g.2 x u c a h e S1.1 S1.2.1 S1.2.2.1 (rCan R (ix y)) (nI (pushN s)) (nI S1.2.2.2.1) S1.2.2.2.2 ++ [(o, .inl (g.2 3, 1, .inr (.inl (vp_updL f 0 ((r).toInt64)))))]) hC 141 rfl dL_cancel_8 0 rfl (by decide) (by decide) rfl ?_
    refine z_goto (pc := 9) hC 18 (by decide) dL_cancel_9 ?_
    refine z_iconst (pc := 18) (v := 0) hC dL_cancel_18 (by decide) ?_
    exact hE _ _ _ (S1, vp_updL f 0 ((r).toInt64)) _ _ _ dL_cancel_19 rfl ⟨by rw [hc]; rfl, fun _ => ⟨hXn, show r.toInt64 = _ by rw [hv]⟩, fun z => absurd hc z⟩ (by rw [if_pos hc, if_pos hc]; try rfl) (Nat.le_of_ble_eq_true rfl) (Nat.le_of_ble_eq_true rfl)

set_option maxRecDepth 100000 in
set_option maxHeartbeats 4000000 in
theorem w_setSticker {g : zG} {x : Nat} {u c a h : Nat → Nat} {e : Nat → Nat → Nat} {Q P : Nat → Int32} {T R : St} {s p : Nat} {K : Nat → St} {H : Nat → St} {t : Nat → Nat} {L : Nat} (hG : GR R) (hX : xR H s t L (Q, P, T, p, K)) {o : Nat} {f : Nat → Int64} {y z : Int32} : FW (S := XS × (Nat → Int64)) g yL_setSticker cL_setSticker 5 [(0, 10, 13, 21), (0, 10, 17, 13)] 9 [.ref x, .int y, .int z, .ref o] (xW g.2 x u c a h e Q P T R (nI s) (nI p) K ++ [(o, .inl (g.2 3, 1, .inr (.inl f)))]) (fun r S => r = nI (cSti y z) ∧ ((cSti y z) = 0 → xR (pushH H s R) (pushN s) t L S.1 ∧ S.2 0 = (R 1 (ix y)).toInt64) ∧ ((cSti y z) ≠ 0 → xR H s t L S.1)) (fun S => xW g.2 x u c a h e S.1.1 S.1.2.1 S.1.2.2.1 (if (cSti y z) = 0 then (setS R 1 (ix y) z) else R) (nI (if (cSti y z) = 0 then pushN s else s)) (nI S.1.2.2.2.1) S.1.2.2.2.2 ++ [(o, .inl (g.2 3, 1, .inr (.inl S.2)))]) := by
  refine fw_entry (by decide) (Nat.le_of_ble_eq_true rfl) (fun C hC hm htb h0 hZX hNc hE => ?_)
  refine z_aln (pc := 0) hC 3 rfl dL_setSticker_0 ?_
  refine z_iconst (pc := 1) (v := 0) hC dL_setSticker_1 (by decide) ?_
  refine z_aln (pc := 2) hC 0 rfl dL_setSticker_2 ?_
  refine z_iln (pc := 3) hC 1 rfl dL_setSticker_3 ?_
  refine z_iln (pc := 4) hC 2 rfl dL_setSticker_4 ?_
  refine z_vx (pc := 5) (rest := [.int 0, .ref o]) hC h0 hZX vX5_setSticker lL_23 dL_setSticker_5 (k_setSticker hG hX) [] [(o, .inl (g.2 3, 1, .inr (.inl f)))] rfl 0 5 rfl rfl rfl rfl rfl (by decide) (Nat.le_of_ble_eq_true rfl) ⟨Nat.le_of_ble_eq_true rfl, Nat.le_of_ble_eq_true rfl⟩ (fun E S1 hp => ?_) (fun r S1 hp => ?_)
  · obtain ⟨hp, hXu⟩ := hp
    rcases hp with ⟨hc, rfl⟩ | ⟨hc, rfl⟩
    · refine ⟨[], ⟨0, 10, 13, 21⟩, [⟨0, 10, 17, 13⟩], xO_, htb, (fun z hz => by simp at hz), rfl, by decide, in_aw 526 (by decide +kernel) (by decide +kernel), by decide +kernel, fun q9 => ?_⟩
      refine z_as (pc := 13) (lv' := [(4, .ref q9), (0, .ref x), (1, .int y), (2, .int z), (3, .ref o)]) hC hm (by decide) rfl dL_setSticker_13 ?_
      refine z_iconst (pc := 15) (v := 1) hC dL_setSticker_15 (by decide) ?_
      exact hE _ _ _ (S1, f) _ _ _ dL_setSticker_16 rfl ⟨by rw [hc]; rfl, fun z => absurd (hc.symm.trans z) (by decide), fun _ => hXu⟩ (by rw [if_neg (by rw [hc]; decide), if_neg (by rw [hc]; decide)]; try rfl) (Nat.le_of_ble_eq_true rfl) (Nat.le_of_ble_eq_true rfl)
    · refine ⟨[⟨0, 10, 13, 21⟩], ⟨0, 10, 17, 13⟩, [], xA_, htb, (fun z hz => Or.inr (by simp at hz; subst hz; exact ⟨by decide, xO_, in_aw 526 (by decide +kernel) (by decide +kernel), hNc.1⟩)), rfl, by decide, in_aw 387 (by decide +kernel) (by decide +kernel), by decide +kernel, fun q9 => ?_⟩
      refine z_as (pc := 17) (lv' := [(4, .ref q9), (0, .ref x), (1, .int y), (2, .int z), (3, .ref o)]) hC hm (by decide) rfl dL_setSticker_17 ?_
      refine z_iconst (pc := 19) (v := 2) hC dL_setSticker_19 (by decide) ?_
      exact hE _ _ _ (S1, f) _ _ _ dL_setSticker_20 rfl ⟨by rw [hc]; rfl, fun z => absurd (hc.symm.trans z) (by decide), fun _ => hXu⟩ (by rw [if_neg (by rw [hc]; decide), if_neg (by rw [hc]; decide)]; try rfl) (Nat.le_of_ble_eq_true rfl) (Nat.le_of_ble_eq_true rfl)
  · obtain ⟨hc, hv, hXn⟩ := hp
    refine z_i2l (pc := 8) (v := (r).toInt64) hC rfl dL_setSticker_8 ?_
    refine z_last (pc := 9) (ws' := xW g.2 x u c a h e S1.1 S1.2.1 S1.2.2.1 (setS R 1 (ix y) z) (nI (pushN s)) (nI S1.2.2.2.1) S1.2.2.2.2 ++ [(o, .inl (g.2 3, 1, .inr (.inl (vp_updL f 0 ((r).toInt64)))))]) hC 141 rfl dL_setSticker_9 0 rfl (by decide) (by decide) rfl ?_
    refine z_goto (pc := 10) hC 21 (by decide) dL_setSticker_10 ?_
    refine z_iconst (pc := 21) (v := 0) hC dL_setSticker_21 (by decide) ?_
    exact hE _ _ _ (S1, vp_updL f 0 ((r).toInt64)) _ _ _ dL_setSticker_22 rfl ⟨by rw [hc]; rfl, fun _ => ⟨hXn, show r.toInt64 = _ by rw [hv]⟩, fun z => absurd hc z⟩ (by rw [if_pos hc, if_pos hc]; try rfl) (Nat.le_of_ble_eq_true rfl) (Nat.le_of_ble_eq_true rfl)

set_option maxRecDepth 100000 in
set_option maxHeartbeats 4000000 in
theorem w_setRing {g : zG} {x : Nat} {u c a h : Nat → Nat} {e : Nat → Nat → Nat} {Q P : Nat → Int32} {T R : St} {s p : Nat} {K : Nat → St} {H : Nat → St} {t : Nat → Nat} {L : Nat} (hG : GR R) (hX : xR H s t L (Q, P, T, p, K)) {o : Nat} {f : Nat → Int64} {y z : Int32} (hz : z = 0 ∨ z = 1) : FW (S := XS × (Nat → Int64)) g yL_setRing cL_setRing 5 [(0, 17, 20, 21), (0, 17, 24, 15)] 9 [.ref x, .int y, .int z, .ref o] (xW g.2 x u c a h e Q P T R (nI s) (nI p) K ++ [(o, .inl (g.2 3, 1, .inr (.inl f)))]) (fun r S => r = nI (cRing R y) ∧ ((cRing R y) = 0 → xR (pushH H s R) (pushN s) t L S.1 ∧ S.2 0 = (R 2 (ix y)).toInt64) ∧ ((cRing R y) ≠ 0 → xR H s t L S.1)) (fun S => xW g.2 x u c a h e S.1.1 S.1.2.1 S.1.2.2.1 (if (cRing R y) = 0 then (setS R 2 (ix y) z) else R) (nI (if (cRing R y) = 0 then pushN s else s)) (nI S.1.2.2.2.1) S.1.2.2.2.2 ++ [(o, .inl (g.2 3, 1, .inr (.inl S.2)))]) := by
  refine fw_entry (by decide) (Nat.le_of_ble_eq_true rfl) (fun C hC hm htb h0 hZX hNc hE => ?_)
  refine z_aln (pc := 0) hC 3 rfl dL_setRing_0 ?_
  refine z_iconst (pc := 1) (v := 0) hC dL_setRing_1 (by decide) ?_
  refine z_aln (pc := 2) hC 0 rfl dL_setRing_2 ?_
  refine z_iln (pc := 3) hC 1 rfl dL_setRing_3 ?_
  refine z_iln (pc := 4) hC 2 rfl dL_setRing_4 ?_
  refine z_vx (pc := 5) (rest := [.int 0, .ref o]) hC h0 hZX vX5_setRing lL_27 dL_setRing_5 (k_setRing hG hX hz) [] [(o, .inl (g.2 3, 1, .inr (.inl f)))] rfl 0 5 rfl rfl rfl rfl rfl (by decide) (Nat.le_of_ble_eq_true rfl) ⟨Nat.le_of_ble_eq_true rfl, Nat.le_of_ble_eq_true rfl⟩ (fun E S1 hp => ?_) (fun r S1 hp => ?_)
  · obtain ⟨hp, hXu⟩ := hp
    rcases hp with ⟨hc, rfl⟩ | ⟨hc, rfl⟩
    · refine ⟨[], ⟨0, 17, 20, 21⟩, [⟨0, 17, 24, 15⟩], xO_, htb, (fun z hz => by simp at hz), rfl, by decide, in_aw 526 (by decide +kernel) (by decide +kernel), by decide +kernel, fun q9 => ?_⟩
      refine z_as (pc := 20) (lv' := [(4, .ref q9), (0, .ref x), (1, .int y), (2, .int z), (3, .ref o)]) hC hm (by decide) rfl dL_setRing_20 ?_
      refine z_iconst (pc := 22) (v := 1) hC dL_setRing_22 (by decide) ?_
      exact hE _ _ _ (S1, f) _ _ _ dL_setRing_23 rfl ⟨by rw [hc]; rfl, fun z => absurd (hc.symm.trans z) (by decide), fun _ => hXu⟩ (by rw [if_neg (by rw [hc]; decide), if_neg (by rw [hc]; decide)]; try rfl) (Nat.le_of_ble_eq_true rfl) (Nat.le_of_ble_eq_true rfl)
    · refine ⟨[⟨0, 17, 20, 21⟩], ⟨0, 17, 24, 15⟩, [], xS_, htb, (fun z hz => Or.inr (by simp at hz; subst hz; exact ⟨by decide, xO_, in_aw 526 (by decide +kernel) (by decide +kernel), hNc.2.1⟩)), rfl, by decide, in_aw 388 (by decide +kernel) (by decide +kernel), by decide +kernel, fun q9 => ?_⟩
      refine z_as (pc := 24) (lv' := [(4, .ref q9), (0, .ref x), (1, .int y), (2, .int z), (3, .ref o)]) hC hm (by decide) rfl dL_setRing_24 ?_
      refine z_iconst (pc := 26) (v := 2) hC dL_setRing_26 (by decide) ?_
      exact hE _ _ _ (S1, f) _ _ _ dL_setRing_27 rfl ⟨by rw [hc]; rfl, fun z => absurd (hc.symm.trans z) (by decide), fun _ => hXu⟩ (by rw [if_neg (by rw [hc]; decide), if_neg (by rw [hc]; decide)]; try rfl) (Nat.le_of_ble_eq_true rfl) (Nat.le_of_ble_eq_true rfl)
  · obtain ⟨hc, hv, hXn⟩ := hp
    refine z_ifeq (pc := 8) hC 15 (by decide) dL_setRing_8 (fun c8 => ?_) (fun c8 => ?_)
    · have hr0 : r = 0 := c8
      refine z_lconst (pc := 15) (v := 0) hC dL_setRing_15 rfl ?_
      refine z_last (pc := 16) (ws' := xW g.2 x u c a h e S1.1 S1.2.1 S1.2.2.1 (setS R 2 (ix y) z) (nI (pushN s)) (nI S1.2.2.2.1) S1.2.2.2.2 ++ [(o, .inl (g.2 3, 1, .inr (.inl (vp_updL f 0 0))))]) hC 141 rfl dL_setRing_16 0 rfl (by decide) (by decide) rfl ?_
      refine z_goto (pc := 17) hC 28 (by decide) dL_setRing_17 ?_
      refine z_iconst (pc := 28) (v := 0) hC dL_setRing_28 (by decide) ?_
      exact hE _ _ _ (S1, vp_updL f 0 0) _ _ _ dL_setRing_29 rfl ⟨by rw [hc]; rfl, fun _ => ⟨hXn, show (0 : Int64) = _ by rw [← hv, hr0]; rfl⟩, fun z => absurd hc z⟩ (by rw [if_pos hc, if_pos hc]; try rfl) (Nat.le_of_ble_eq_true rfl) (Nat.le_of_ble_eq_true rfl)
    · have hr1 : r = 1 := (by
        have h1 : isReel y = true := by
          cases hq : isReel y with
          | true => rfl
          | false => rw [cRing, if_pos hq] at hc; cases hc
        rcases hG.ring _ (reel_ix h1).1 with hq | hq
        · exact absurd (hv.trans hq) c8
        · exact hv.trans hq)
      refine z_lconst (pc := 11) (v := 1) hC dL_setRing_11 rfl ?_
      refine z_goto (pc := 12) hC 16 (by decide) dL_setRing_12 ?_
      refine z_last (pc := 16) (ws' := xW g.2 x u c a h e S1.1 S1.2.1 S1.2.2.1 (setS R 2 (ix y) z) (nI (pushN s)) (nI S1.2.2.2.1) S1.2.2.2.2 ++ [(o, .inl (g.2 3, 1, .inr (.inl (vp_updL f 0 1))))]) hC 141 rfl dL_setRing_16 0 rfl (by decide) (by decide) rfl ?_
      refine z_goto (pc := 17) hC 28 (by decide) dL_setRing_17 ?_
      refine z_iconst (pc := 28) (v := 0) hC dL_setRing_28 (by decide) ?_
      exact hE _ _ _ (S1, vp_updL f 0 1) _ _ _ dL_setRing_29 rfl ⟨by rw [hc]; rfl, fun _ => ⟨hXn, show (1 : Int64) = _ by rw [← hv, hr1]; rfl⟩, fun z => absurd hc z⟩ (by rw [if_pos hc, if_pos hc]; try rfl) (Nat.le_of_ble_eq_true rfl) (Nat.le_of_ble_eq_true rfl)

set_option maxRecDepth 100000 in
set_option maxHeartbeats 4000000 in
theorem w_pass {g : zG} {x : Nat} {u c a h : Nat → Nat} {e : Nat → Nat → Nat} {Q P : Nat → Int32} {T R : St} {s p : Nat} {K : Nat → St} {H : Nat → St} {t : Nat → Nat} {L : Nat} (hG : GR R) (hX : xR H s t L (Q, P, T, p, K)) {o : Nat} {f : Nat → Int64} {y : Int32} : FW (S := XS × (Nat → Int64)) g yL_pass cL_pass 4 [(0, 9, 12, 13)] 9 [.ref x, .int y, .ref o] (xW g.2 x u c a h e Q P T R (nI s) (nI p) K ++ [(o, .inl (g.2 3, 1, .inr (.inl f)))]) (fun r S => r = nI (cPass y) ∧ ((cPass y) = 0 → xR (pushH H s R) (pushN s) t L S.1 ∧ S.2 0 = ((pas (nn R) (ix y) (R, 0)).2).toInt64) ∧ ((cPass y) ≠ 0 → xR H s t L S.1)) (fun S => xW g.2 x u c a h e S.1.1 S.1.2.1 S.1.2.2.1 (if (cPass y) = 0 then ((pas (nn R) (ix y) (R, 0)).1) else R) (nI (if (cPass y) = 0 then pushN s else s)) (nI S.1.2.2.2.1) S.1.2.2.2.2 ++ [(o, .inl (g.2 3, 1, .inr (.inl S.2)))]) := by
  refine fw_entry (by decide) (Nat.le_of_ble_eq_true rfl) (fun C hC hm htb h0 hZX hNc hE => ?_)
  refine z_aln (pc := 0) hC 2 rfl dL_pass_0 ?_
  refine z_iconst (pc := 1) (v := 0) hC dL_pass_1 (by decide) ?_
  refine z_aln (pc := 2) hC 0 rfl dL_pass_2 ?_
  refine z_iln (pc := 3) hC 1 rfl dL_pass_3 ?_
  refine z_vx (pc := 4) (rest := [.int 0, .ref o]) hC h0 hZX vX5_pass lL_31 dL_pass_4 (k_pass hG hX) [] [(o, .inl (g.2 3, 1, .inr (.inl f)))] rfl 0 5 rfl rfl rfl rfl rfl (by decide) (Nat.le_of_ble_eq_true rfl) ⟨Nat.le_of_ble_eq_true rfl, Nat.le_of_ble_eq_true rfl⟩ (fun E S1 hp => ?_) (fun r S1 hp => ?_)
  · obtain ⟨hp, hXu⟩ := hp
    obtain ⟨hc, rfl⟩ := hp
    refine ⟨[], ⟨0, 9, 12, 13⟩, [], xA_, htb, (fun z hz => by simp at hz), rfl, by decide, in_aw 387 (by decide +kernel) (by decide +kernel), by decide +kernel, fun q9 => ?_⟩
    refine z_asn (pc := 12) (lv' := [(3, .ref q9), (0, .ref x), (1, .int y), (2, .ref o)]) hC hm (by decide) rfl dL_pass_12 ?_
    refine z_iconst (pc := 13) (v := 1) hC dL_pass_13 (by decide) ?_
    exact hE _ _ _ (S1, f) _ _ _ dL_pass_14 rfl ⟨by rw [hc]; rfl, fun z => absurd (hc.symm.trans z) (by decide), fun _ => hXu⟩ (by rw [if_neg (by rw [hc]; decide), if_neg (by rw [hc]; decide)]; try rfl) (Nat.le_of_ble_eq_true rfl) (Nat.le_of_ble_eq_true rfl)
  · obtain ⟨hc, hv, hXn⟩ := hp
    refine z_i2l (pc := 7) (v := (r).toInt64) hC rfl dL_pass_7 ?_
    refine z_last (pc := 8) (ws' := xW g.2 x u c a h e S1.1 S1.2.1 S1.2.2.1 ((pas (nn R) (ix y) (R, 0)).1) (nI (pushN s)) (nI S1.2.2.2.1) S1.2.2.2.2 ++ [(o, .inl (g.2 3, 1, .inr (.inl (vp_updL f 0 ((r).toInt64)))))]) hC 141 rfl dL_pass_8 0 rfl (by decide) (by decide) rfl ?_
    refine z_goto (pc := 9) hC 15 (by decide) dL_pass_9 ?_
    refine z_iconst (pc := 15) (v := 0) hC dL_pass_15 (by decide) ?_
    exact hE _ _ _ (S1, vp_updL f 0 ((r).toInt64)) _ _ _ dL_pass_16 rfl ⟨by rw [hc]; rfl, fun _ => ⟨hXn, show r.toInt64 = _ by rw [hv]⟩, fun z => absurd hc z⟩ (by rw [if_pos hc, if_pos hc]; try rfl) (Nat.le_of_ble_eq_true rfl) (Nat.le_of_ble_eq_true rfl)

set_option maxRecDepth 100000 in
set_option maxHeartbeats 4000000 in
theorem w_nextDay {g : zG} {x : Nat} {u c a h : Nat → Nat} {e : Nat → Nat → Nat} {Q P : Nat → Int32} {T R : St} {s p : Nat} {K : Nat → St} {H : Nat → St} {t : Nat → Nat} {L : Nat} (hG : GR R) (hX : xR H s t L (Q, P, T, p, K)) {o : Nat} {f : Nat → Int64} : FW (S := XS × (Nat → Int64)) g yL_nextDay cL_nextDay 3 [(0, 8, 11, 15)] 9 [.ref x, .ref o] (xW g.2 x u c a h e Q P T R (nI s) (nI p) K ++ [(o, .inl (g.2 3, 1, .inr (.inl f)))]) (fun r S => r = nI (cDay R) ∧ ((cDay R) = 0 → xR (pushH H s R) (pushN s) t L S.1 ∧ S.2 0 = (R 14 0 + 1).toInt64) ∧ ((cDay R) ≠ 0 → xR H s t L S.1)) (fun S => xW g.2 x u c a h e S.1.1 S.1.2.1 S.1.2.2.1 (if (cDay R) = 0 then (setS R 14 0 (R 14 0 + 1)) else R) (nI (if (cDay R) = 0 then pushN s else s)) (nI S.1.2.2.2.1) S.1.2.2.2.2 ++ [(o, .inl (g.2 3, 1, .inr (.inl S.2)))]) := by
  refine fw_entry (by decide) (Nat.le_of_ble_eq_true rfl) (fun C hC hm htb h0 hZX hNc hE => ?_)
  refine z_aln (pc := 0) hC 1 rfl dL_nextDay_0 ?_
  refine z_iconst (pc := 1) (v := 0) hC dL_nextDay_1 (by decide) ?_
  refine z_aln (pc := 2) hC 0 rfl dL_nextDay_2 ?_
  refine z_vx (pc := 3) (rest := [.int 0, .ref o]) hC h0 hZX vX5_nextDay lL_34 dL_nextDay_3 (k_nextDay hG hX) [] [(o, .inl (g.2 3, 1, .inr (.inl f)))] rfl 0 5 rfl rfl rfl rfl rfl (by decide) (Nat.le_of_ble_eq_true rfl) ⟨Nat.le_of_ble_eq_true rfl, Nat.le_of_ble_eq_true rfl⟩ (fun E S1 hp => ?_) (fun r S1 hp => ?_)
  · obtain ⟨hp, hXu⟩ := hp
    obtain ⟨hc, rfl⟩ := hp
    refine ⟨[], ⟨0, 8, 11, 15⟩, [], xS_, htb, (fun z hz => by simp at hz), rfl, by decide, in_aw 388 (by decide +kernel) (by decide +kernel), by decide +kernel, fun q9 => ?_⟩
    refine z_asn (pc := 11) (lv' := [(2, .ref q9), (0, .ref x), (1, .ref o)]) hC hm (by decide) rfl dL_nextDay_11 ?_
    refine z_iconst (pc := 12) (v := 1) hC dL_nextDay_12 (by decide) ?_
    exact hE _ _ _ (S1, f) _ _ _ dL_nextDay_13 rfl ⟨by rw [hc]; rfl, fun z => absurd (hc.symm.trans z) (by decide), fun _ => hXu⟩ (by rw [if_neg (by rw [hc]; decide), if_neg (by rw [hc]; decide)]; try rfl) (Nat.le_of_ble_eq_true rfl) (Nat.le_of_ble_eq_true rfl)
  · obtain ⟨hc, hv, hXn⟩ := hp
    refine z_i2l (pc := 6) (v := (r).toInt64) hC rfl dL_nextDay_6 ?_
    refine z_last (pc := 7) (ws' := xW g.2 x u c a h e S1.1 S1.2.1 S1.2.2.1 (setS R 14 0 (R 14 0 + 1)) (nI (pushN s)) (nI S1.2.2.2.1) S1.2.2.2.2 ++ [(o, .inl (g.2 3, 1, .inr (.inl (vp_updL f 0 ((r).toInt64)))))]) hC 141 rfl dL_nextDay_7 0 rfl (by decide) (by decide) rfl ?_
    refine z_goto (pc := 8) hC 14 (by decide) dL_nextDay_8 ?_
    refine z_iconst (pc := 14) (v := 0) hC dL_nextDay_14 (by decide) ?_
    exact hE _ _ _ (S1, vp_updL f 0 ((r).toInt64)) _ _ _ dL_nextDay_15 rfl ⟨by rw [hc]; rfl, fun _ => ⟨hXn, show r.toInt64 = _ by rw [hv]⟩, fun z => absurd hc z⟩ (by rw [if_pos hc, if_pos hc]; try rfl) (Nat.le_of_ble_eq_true rfl) (Nat.le_of_ble_eq_true rfl)

set_option maxRecDepth 100000 in
set_option maxHeartbeats 4000000 in
theorem w_set {g : zG} {x : Nat} {u c a h : Nat → Nat} {e : Nat → Nat → Nat} {Q P : Nat → Int32} {T R : St} {s p : Nat} {K : Nat → St} {H : Nat → St} {t : Nat → Nat} {L : Nat} (hG : GR R) (hX : xR H s t L (Q, P, T, p, K)) {o : Nat} {f : Nat → Int64} {y z : Int32} : FW (S := XS × (Nat → Int64)) g yL_set cL_set 5 [(0, 10, 13, 21), (0, 10, 17, 13)] 9 [.ref x, .int y, .int z, .ref o] (xW g.2 x u c a h e Q P T R (nI s) (nI p) K ++ [(o, .inl (g.2 3, 1, .inr (.inl f)))]) (fun r S => r = nI (cSet y z) ∧ ((cSet y z) = 0 → xR (pushH H s R) (pushN s) t L S.1 ∧ S.2 0 = (R 14 (8 + ix y)).toInt64) ∧ ((cSet y z) ≠ 0 → xR H s t L S.1)) (fun S => xW g.2 x u c a h e S.1.1 S.1.2.1 S.1.2.2.1 (if (cSet y z) = 0 then (setS R 14 (8 + ix y) z) else R) (nI (if (cSet y z) = 0 then pushN s else s)) (nI S.1.2.2.2.1) S.1.2.2.2.2 ++ [(o, .inl (g.2 3, 1, .inr (.inl S.2)))]) := by
  refine fw_entry (by decide) (Nat.le_of_ble_eq_true rfl) (fun C hC hm htb h0 hZX hNc hE => ?_)
  refine z_aln (pc := 0) hC 3 rfl dL_set_0 ?_
  refine z_iconst (pc := 1) (v := 0) hC dL_set_1 (by decide) ?_
  refine z_aln (pc := 2) hC 0 rfl dL_set_2 ?_
  refine z_iln (pc := 3) hC 1 rfl dL_set_3 ?_
  refine z_iln (pc := 4) hC 2 rfl dL_set_4 ?_
  refine z_vx (pc := 5) (rest := [.int 0, .ref o]) hC h0 hZX vX5_set lL_38 dL_set_5 (k_set hG hX) [] [(o, .inl (g.2 3, 1, .inr (.inl f)))] rfl 0 5 rfl rfl rfl rfl rfl (by decide) (Nat.le_of_ble_eq_true rfl) ⟨Nat.le_of_ble_eq_true rfl, Nat.le_of_ble_eq_true rfl⟩ (fun E S1 hp => ?_) (fun r S1 hp => ?_)
  · obtain ⟨hp, hXu⟩ := hp
    rcases hp with ⟨hc, rfl⟩ | ⟨hc, rfl⟩
    · refine ⟨[], ⟨0, 10, 13, 21⟩, [⟨0, 10, 17, 13⟩], xO_, htb, (fun z hz => by simp at hz), rfl, by decide, in_aw 526 (by decide +kernel) (by decide +kernel), by decide +kernel, fun q9 => ?_⟩
      refine z_as (pc := 13) (lv' := [(4, .ref q9), (0, .ref x), (1, .int y), (2, .int z), (3, .ref o)]) hC hm (by decide) rfl dL_set_13 ?_
      refine z_iconst (pc := 15) (v := 1) hC dL_set_15 (by decide) ?_
      exact hE _ _ _ (S1, f) _ _ _ dL_set_16 rfl ⟨by rw [hc]; rfl, fun z => absurd (hc.symm.trans z) (by decide), fun _ => hXu⟩ (by rw [if_neg (by rw [hc]; decide), if_neg (by rw [hc]; decide)]; try rfl) (Nat.le_of_ble_eq_true rfl) (Nat.le_of_ble_eq_true rfl)
    · refine ⟨[⟨0, 10, 13, 21⟩], ⟨0, 10, 17, 13⟩, [], xA_, htb, (fun z hz => Or.inr (by simp at hz; subst hz; exact ⟨by decide, xO_, in_aw 526 (by decide +kernel) (by decide +kernel), hNc.1⟩)), rfl, by decide, in_aw 387 (by decide +kernel) (by decide +kernel), by decide +kernel, fun q9 => ?_⟩
      refine z_as (pc := 17) (lv' := [(4, .ref q9), (0, .ref x), (1, .int y), (2, .int z), (3, .ref o)]) hC hm (by decide) rfl dL_set_17 ?_
      refine z_iconst (pc := 19) (v := 2) hC dL_set_19 (by decide) ?_
      exact hE _ _ _ (S1, f) _ _ _ dL_set_20 rfl ⟨by rw [hc]; rfl, fun z => absurd (hc.symm.trans z) (by decide), fun _ => hXu⟩ (by rw [if_neg (by rw [hc]; decide), if_neg (by rw [hc]; decide)]; try rfl) (Nat.le_of_ble_eq_true rfl) (Nat.le_of_ble_eq_true rfl)
  · obtain ⟨hc, hv, hXn⟩ := hp
    refine z_i2l (pc := 8) (v := (r).toInt64) hC rfl dL_set_8 ?_
    refine z_last (pc := 9) (ws' := xW g.2 x u c a h e S1.1 S1.2.1 S1.2.2.1 (setS R 14 (8 + ix y) z) (nI (pushN s)) (nI S1.2.2.2.1) S1.2.2.2.2 ++ [(o, .inl (g.2 3, 1, .inr (.inl (vp_updL f 0 ((r).toInt64)))))]) hC 141 rfl dL_set_9 0 rfl (by decide) (by decide) rfl ?_
    refine z_goto (pc := 10) hC 21 (by decide) dL_set_10 ?_
    refine z_iconst (pc := 21) (v := 0) hC dL_set_21 (by decide) ?_
    exact hE _ _ _ (S1, vp_updL f 0 ((r).toInt64)) _ _ _ dL_set_22 rfl ⟨by rw [hc]; rfl, fun _ => ⟨hXn, show r.toInt64 = _ by rw [hv]⟩, fun z => absurd hc z⟩ (by rw [if_pos hc, if_pos hc]; try rfl) (Nat.le_of_ble_eq_true rfl) (Nat.le_of_ble_eq_true rfl)

set_option maxRecDepth 100000 in
set_option maxHeartbeats 4000000 in
theorem w_appendText {g : zG} {x : Nat} {u c a h : Nat → Nat} {e : Nat → Nat → Nat} {Q P : Nat → Int32} {T R : St} {s p : Nat} {K : Nat → St} {H : Nat → St} {t : Nat → Nat} {L : Nat} (hG : GR R) (hX : xR H s t L (Q, P, T, p, K)) {o : Nat} {f : Nat → Int64} {y : Int32} : FW (S := XS × (Nat → Int64)) g yL_appendText cL_appendText 4 [(0, 9, 12, 13), (0, 9, 15, 15)] 9 [.ref x, .int y, .ref o] (xW g.2 x u c a h e Q P T R (nI s) (nI p) K ++ [(o, .inl (g.2 3, 1, .inr (.inl f)))]) (fun r S => r = nI (cApp L y) ∧ ((cApp L y) = 0 → xR H (s) (tApp t L y) (L + 1) S.1 ∧ S.2 0 = (nI (L + 1)).toInt64) ∧ ((cApp L y) ≠ 0 → xR H s t L S.1)) (fun S => xW g.2 x u c a h e S.1.1 S.1.2.1 S.1.2.2.1 (if (cApp L y) = 0 then R else R) (nI (if (cApp L y) = 0 then s else s)) (nI S.1.2.2.2.1) S.1.2.2.2.2 ++ [(o, .inl (g.2 3, 1, .inr (.inl S.2)))]) := by
  refine fw_entry (by decide) (Nat.le_of_ble_eq_true rfl) (fun C hC hm htb h0 hZX hNc hE => ?_)
  refine z_aln (pc := 0) hC 2 rfl dL_appendText_0 ?_
  refine z_iconst (pc := 1) (v := 0) hC dL_appendText_1 (by decide) ?_
  refine z_aln (pc := 2) hC 0 rfl dL_appendText_2 ?_
  refine z_iln (pc := 3) hC 1 rfl dL_appendText_3 ?_
  refine z_vx (pc := 4) (rest := [.int 0, .ref o]) hC h0 hZX vX5_appendText lL_41 dL_appendText_4 (k_appendText hG hX) [] [(o, .inl (g.2 3, 1, .inr (.inl f)))] rfl 0 5 rfl rfl rfl rfl rfl (by decide) (Nat.le_of_ble_eq_true rfl) ⟨Nat.le_of_ble_eq_true rfl, Nat.le_of_ble_eq_true rfl⟩ (fun E S1 hp => ?_) (fun r S1 hp => ?_)
  · obtain ⟨hp, hXu⟩ := hp
    rcases hp with ⟨hc, rfl⟩ | ⟨hc, rfl⟩
    · refine ⟨[], ⟨0, 9, 12, 13⟩, [⟨0, 9, 15, 15⟩], xA_, htb, (fun z hz => by simp at hz), rfl, by decide, in_aw 387 (by decide +kernel) (by decide +kernel), by decide +kernel, fun q9 => ?_⟩
      refine z_asn (pc := 12) (lv' := [(3, .ref q9), (0, .ref x), (1, .int y), (2, .ref o)]) hC hm (by decide) rfl dL_appendText_12 ?_
      refine z_iconst (pc := 13) (v := 1) hC dL_appendText_13 (by decide) ?_
      exact hE _ _ _ (S1, f) _ _ _ dL_appendText_14 rfl ⟨by rw [hc]; rfl, fun z => absurd (hc.symm.trans z) (by decide), fun _ => hXu⟩ (by rw [if_neg (by rw [hc]; decide), if_neg (by rw [hc]; decide)]; try rfl) (Nat.le_of_ble_eq_true rfl) (Nat.le_of_ble_eq_true rfl)
    · refine ⟨[⟨0, 9, 12, 13⟩], ⟨0, 9, 15, 15⟩, [], xS_, htb, (fun z hz => Or.inr (by simp at hz; subst hz; exact ⟨by decide, xA_, in_aw 387 (by decide +kernel) (by decide +kernel), hNc.2.2⟩)), rfl, by decide, in_aw 388 (by decide +kernel) (by decide +kernel), by decide +kernel, fun q9 => ?_⟩
      refine z_asn (pc := 15) (lv' := [(3, .ref q9), (0, .ref x), (1, .int y), (2, .ref o)]) hC hm (by decide) rfl dL_appendText_15 ?_
      refine z_iconst (pc := 16) (v := 2) hC dL_appendText_16 (by decide) ?_
      exact hE _ _ _ (S1, f) _ _ _ dL_appendText_17 rfl ⟨by rw [hc]; rfl, fun z => absurd (hc.symm.trans z) (by decide), fun _ => hXu⟩ (by rw [if_neg (by rw [hc]; decide), if_neg (by rw [hc]; decide)]; try rfl) (Nat.le_of_ble_eq_true rfl) (Nat.le_of_ble_eq_true rfl)
  · obtain ⟨hc, hv, hXn⟩ := hp
    refine z_i2l (pc := 7) (v := (r).toInt64) hC rfl dL_appendText_7 ?_
    refine z_last (pc := 8) (ws' := xW g.2 x u c a h e S1.1 S1.2.1 S1.2.2.1 R (nI s) (nI S1.2.2.2.1) S1.2.2.2.2 ++ [(o, .inl (g.2 3, 1, .inr (.inl (vp_updL f 0 ((r).toInt64)))))]) hC 141 rfl dL_appendText_8 0 rfl (by decide) (by decide) rfl ?_
    refine z_goto (pc := 9) hC 18 (by decide) dL_appendText_9 ?_
    refine z_iconst (pc := 18) (v := 0) hC dL_appendText_18 (by decide) ?_
    exact hE _ _ _ (S1, vp_updL f 0 ((r).toInt64)) _ _ _ dL_appendText_19 rfl ⟨by rw [hc]; rfl, fun _ => ⟨hXn, show r.toInt64 = _ by rw [hv]⟩, fun z => absurd hc z⟩ (by rw [if_pos hc, if_pos hc]; try rfl) (Nat.le_of_ble_eq_true rfl) (Nat.le_of_ble_eq_true rfl)

set_option maxRecDepth 100000 in
set_option maxHeartbeats 4000000 in
theorem w_runText {g : zG} {x : Nat} {u c a h : Nat → Nat} {e : Nat → Nat → Nat} {Q P : Nat → Int32} {T R : St} {s p : Nat} {K : Nat → St} {H : Nat → St} {t : Nat → Nat} {L : Nat} (hG : GR R) (hX : xR H s t L (Q, P, T, p, K)) {o : Nat} {f : Nat → Int64} : FW (S := XS × (Nat → Int64)) g yL_runText cL_runText 3 [(0, 8, 11, 15)] 9 [.ref x, .ref o] (xW g.2 x u c a h e Q P T R (nI s) (nI p) K ++ [(o, .inl (g.2 3, 1, .inr (.inl f)))]) (fun r S => r = nI (cRun t L) ∧ ((cRun t L) = 0 → xR (pushH H s R) (pushN s) t L S.1 ∧ S.2 0 = (nI (runC (prs t L 80 0).1 R 0).2).toInt64) ∧ ((cRun t L) ≠ 0 → xR H s t L S.1)) (fun S => xW g.2 x u c a h e S.1.1 S.1.2.1 S.1.2.2.1 (if (cRun t L) = 0 then ((runC (prs t L 80 0).1 R 0).1) else R) (nI (if (cRun t L) = 0 then pushN s else s)) (nI S.1.2.2.2.1) S.1.2.2.2.2 ++ [(o, .inl (g.2 3, 1, .inr (.inl S.2)))]) := by
  refine fw_entry (by decide) (Nat.le_of_ble_eq_true rfl) (fun C hC hm htb h0 hZX hNc hE => ?_)
  refine z_aln (pc := 0) hC 1 rfl dL_runText_0 ?_
  refine z_iconst (pc := 1) (v := 0) hC dL_runText_1 (by decide) ?_
  refine z_aln (pc := 2) hC 0 rfl dL_runText_2 ?_
  refine z_vx (pc := 3) (rest := [.int 0, .ref o]) hC h0 hZX vX5_runText lL_44 dL_runText_3 (k_runText hG hX) [] [(o, .inl (g.2 3, 1, .inr (.inl f)))] rfl 0 5 rfl rfl rfl rfl rfl (by decide) (Nat.le_of_ble_eq_true rfl) ⟨Nat.le_of_ble_eq_true rfl, Nat.le_of_ble_eq_true rfl⟩ (fun E S1 hp => ?_) (fun r S1 hp => ?_)
  · obtain ⟨hp, hXu⟩ := hp
    obtain ⟨hc, rfl⟩ := hp
    refine ⟨[], ⟨0, 8, 11, 15⟩, [], xS_, htb, (fun z hz => by simp at hz), rfl, by decide, in_aw 388 (by decide +kernel) (by decide +kernel), by decide +kernel, fun q9 => ?_⟩
    refine z_asn (pc := 11) (lv' := [(2, .ref q9), (0, .ref x), (1, .ref o)]) hC hm (by decide) rfl dL_runText_11 ?_
    refine z_iconst (pc := 12) (v := 1) hC dL_runText_12 (by decide) ?_
    exact hE _ _ _ (S1, f) _ _ _ dL_runText_13 rfl ⟨by rw [hc]; rfl, fun z => absurd (hc.symm.trans z) (by decide), fun _ => hXu⟩ (by rw [if_neg (by rw [hc]; decide), if_neg (by rw [hc]; decide)]; try rfl) (Nat.le_of_ble_eq_true rfl) (Nat.le_of_ble_eq_true rfl)
  · obtain ⟨hc, hv, hXn⟩ := hp
    refine z_i2l (pc := 6) (v := (r).toInt64) hC rfl dL_runText_6 ?_
    refine z_last (pc := 7) (ws' := xW g.2 x u c a h e S1.1 S1.2.1 S1.2.2.1 ((runC (prs t L 80 0).1 R 0).1) (nI (pushN s)) (nI S1.2.2.2.1) S1.2.2.2.2 ++ [(o, .inl (g.2 3, 1, .inr (.inl (vp_updL f 0 ((r).toInt64)))))]) hC 141 rfl dL_runText_7 0 rfl (by decide) (by decide) rfl ?_
    refine z_goto (pc := 8) hC 14 (by decide) dL_runText_8 ?_
    refine z_iconst (pc := 14) (v := 0) hC dL_runText_14 (by decide) ?_
    exact hE _ _ _ (S1, vp_updL f 0 ((r).toInt64)) _ _ _ dL_runText_15 rfl ⟨by rw [hc]; rfl, fun _ => ⟨hXn, show r.toInt64 = _ by rw [hv]⟩, fun z => absurd hc z⟩ (by rw [if_pos hc, if_pos hc]; try rfl) (Nat.le_of_ble_eq_true rfl) (Nat.le_of_ble_eq_true rfl)

set_option maxRecDepth 100000 in
set_option maxHeartbeats 4000000 in
theorem w_undo {g : zG} {x : Nat} {u c a h : Nat → Nat} {e : Nat → Nat → Nat} {Q P : Nat → Int32} {T R : St} {s p : Nat} {K : Nat → St} {H : Nat → St} {t : Nat → Nat} {L : Nat} (hG : GR R) (hX : xR H s t L (Q, P, T, p, K)) {o : Nat} {f : Nat → Int64} (hH : ∀ k, k < s → GR (H k)) : FW (S := XS × (Nat → Int64)) g yL_undo cL_undo 3 [(0, 8, 11, 15)] 9 [.ref x, .ref o] (xW g.2 x u c a h e Q P T R (nI s) (nI p) K ++ [(o, .inl (g.2 3, 1, .inr (.inl f)))]) (fun r S => r = nI (cUndo s) ∧ ((cUndo s) = 0 → xR H (s - 1) t L S.1 ∧ S.2 0 = (nI (s - 1)).toInt64) ∧ ((cUndo s) ≠ 0 → xR H s t L S.1)) (fun S => xW g.2 x u c a h e S.1.1 S.1.2.1 S.1.2.2.1 (if (cUndo s) = 0 then (H (s - 1)) else R) (nI (if (cUndo s) = 0 then s - 1 else s)) (nI S.1.2.2.2.1) S.1.2.2.2.2 ++ [(o, .inl (g.2 3, 1, .inr (.inl S.2)))]) := by
  refine fw_entry (by decide) (Nat.le_of_ble_eq_true rfl) (fun C hC hm htb h0 hZX hNc hE => ?_)
  refine z_aln (pc := 0) hC 1 rfl dL_undo_0 ?_
  refine z_iconst (pc := 1) (v := 0) hC dL_undo_1 (by decide) ?_
  refine z_aln (pc := 2) hC 0 rfl dL_undo_2 ?_
  refine z_vx (pc := 3) (rest := [.int 0, .ref o]) hC h0 hZX vX5_undo lL_47 dL_undo_3 (k_undo hG hX hH) [] [(o, .inl (g.2 3, 1, .inr (.inl f)))] rfl 0 5 rfl rfl rfl rfl rfl (by decide) (Nat.le_of_ble_eq_true rfl) ⟨Nat.le_of_ble_eq_true rfl, Nat.le_of_ble_eq_true rfl⟩ (fun E S1 hp => ?_) (fun r S1 hp => ?_)
  · obtain ⟨hp, hXu⟩ := hp
    obtain ⟨hc, rfl⟩ := hp
    refine ⟨[], ⟨0, 8, 11, 15⟩, [], xS_, htb, (fun z hz => by simp at hz), rfl, by decide, in_aw 388 (by decide +kernel) (by decide +kernel), by decide +kernel, fun q9 => ?_⟩
    refine z_asn (pc := 11) (lv' := [(2, .ref q9), (0, .ref x), (1, .ref o)]) hC hm (by decide) rfl dL_undo_11 ?_
    refine z_iconst (pc := 12) (v := 1) hC dL_undo_12 (by decide) ?_
    exact hE _ _ _ (S1, f) _ _ _ dL_undo_13 rfl ⟨by rw [hc]; rfl, fun z => absurd (hc.symm.trans z) (by decide), fun _ => hXu⟩ (by rw [if_neg (by rw [hc]; decide), if_neg (by rw [hc]; decide)]; try rfl) (Nat.le_of_ble_eq_true rfl) (Nat.le_of_ble_eq_true rfl)
  · obtain ⟨hc, hv, hXn⟩ := hp
    refine z_i2l (pc := 6) (v := (r).toInt64) hC rfl dL_undo_6 ?_
    refine z_last (pc := 7) (ws' := xW g.2 x u c a h e S1.1 S1.2.1 S1.2.2.1 (H (s - 1)) (nI (s - 1)) (nI S1.2.2.2.1) S1.2.2.2.2 ++ [(o, .inl (g.2 3, 1, .inr (.inl (vp_updL f 0 ((r).toInt64)))))]) hC 141 rfl dL_undo_7 0 rfl (by decide) (by decide) rfl ?_
    refine z_goto (pc := 8) hC 14 (by decide) dL_undo_8 ?_
    refine z_iconst (pc := 14) (v := 0) hC dL_undo_14 (by decide) ?_
    exact hE _ _ _ (S1, vp_updL f 0 ((r).toInt64)) _ _ _ dL_undo_15 rfl ⟨by rw [hc]; rfl, fun _ => ⟨hXn, show r.toInt64 = _ by rw [hv]⟩, fun z => absurd hc z⟩ (by rw [if_pos hc, if_pos hc]; try rfl) (Nat.le_of_ble_eq_true rfl) (Nat.le_of_ble_eq_true rfl)

set_option maxRecDepth 100000 in
set_option maxHeartbeats 4000000 in
theorem w_reel {g : zG} {x : Nat} {u c a h : Nat → Nat} {e : Nat → Nat → Nat} {Q P : Nat → Int32} {T R : St} {s p : Nat} {K : Nat → St} {H : Nat → St} {t : Nat → Nat} {L : Nat} (hG : GR R) (hX : xR H s t L (Q, P, T, p, K)) {o : Nat} {f : Nat → Int64} {y z : Int32} : FW (S := XS × (Nat → Int64)) g yL_reel cL_reel 5 [(0, 10, 13, 21), (0, 10, 17, 13)] 9 [.ref x, .int y, .int z, .ref o] (xW g.2 x u c a h e Q P T R (nI s) (nI p) K ++ [(o, .inl (g.2 3, 1, .inr (.inl f)))]) (fun r S => r = nI (cReel y z) ∧ ((cReel y z) = 0 → xR H (s) t L S.1 ∧ S.2 0 = (vReel R y z).toInt64) ∧ ((cReel y z) ≠ 0 → xR H s t L S.1)) (fun S => xW g.2 x u c a h e S.1.1 S.1.2.1 S.1.2.2.1 (if (cReel y z) = 0 then R else R) (nI (if (cReel y z) = 0 then s else s)) (nI S.1.2.2.2.1) S.1.2.2.2.2 ++ [(o, .inl (g.2 3, 1, .inr (.inl S.2)))]) := by
  refine fw_entry (by decide) (Nat.le_of_ble_eq_true rfl) (fun C hC hm htb h0 hZX hNc hE => ?_)
  refine z_aln (pc := 0) hC 3 rfl dL_reel_0 ?_
  refine z_iconst (pc := 1) (v := 0) hC dL_reel_1 (by decide) ?_
  refine z_aln (pc := 2) hC 0 rfl dL_reel_2 ?_
  refine z_iln (pc := 3) hC 1 rfl dL_reel_3 ?_
  refine z_iln (pc := 4) hC 2 rfl dL_reel_4 ?_
  refine z_vx (pc := 5) (rest := [.int 0, .ref o]) hC h0 hZX vX5_reel lL_50 dL_reel_5 (k_reel hG hX) [] [(o, .inl (g.2 3, 1, .inr (.inl f)))] rfl 0 5 rfl rfl rfl rfl rfl (by decide) (Nat.le_of_ble_eq_true rfl) ⟨Nat.le_of_ble_eq_true rfl, Nat.le_of_ble_eq_true rfl⟩ (fun E S1 hp => ?_) (fun r S1 hp => ?_)
  · obtain ⟨hp, hXu⟩ := hp
    rcases hp with ⟨hc, rfl⟩ | ⟨hc, rfl⟩
    · refine ⟨[], ⟨0, 10, 13, 21⟩, [⟨0, 10, 17, 13⟩], xO_, htb, (fun z hz => by simp at hz), rfl, by decide, in_aw 526 (by decide +kernel) (by decide +kernel), by decide +kernel, fun q9 => ?_⟩
      refine z_as (pc := 13) (lv' := [(4, .ref q9), (0, .ref x), (1, .int y), (2, .int z), (3, .ref o)]) hC hm (by decide) rfl dL_reel_13 ?_
      refine z_iconst (pc := 15) (v := 1) hC dL_reel_15 (by decide) ?_
      exact hE _ _ _ (S1, f) _ _ _ dL_reel_16 rfl ⟨by rw [hc]; rfl, fun z => absurd (hc.symm.trans z) (by decide), fun _ => hXu⟩ (by rw [if_neg (by rw [hc]; decide), if_neg (by rw [hc]; decide)]; try rfl) (Nat.le_of_ble_eq_true rfl) (Nat.le_of_ble_eq_true rfl)
    · refine ⟨[⟨0, 10, 13, 21⟩], ⟨0, 10, 17, 13⟩, [], xA_, htb, (fun z hz => Or.inr (by simp at hz; subst hz; exact ⟨by decide, xO_, in_aw 526 (by decide +kernel) (by decide +kernel), hNc.1⟩)), rfl, by decide, in_aw 387 (by decide +kernel) (by decide +kernel), by decide +kernel, fun q9 => ?_⟩
      refine z_as (pc := 17) (lv' := [(4, .ref q9), (0, .ref x), (1, .int y), (2, .int z), (3, .ref o)]) hC hm (by decide) rfl dL_reel_17 ?_
      refine z_iconst (pc := 19) (v := 2) hC dL_reel_19 (by decide) ?_
      exact hE _ _ _ (S1, f) _ _ _ dL_reel_20 rfl ⟨by rw [hc]; rfl, fun z => absurd (hc.symm.trans z) (by decide), fun _ => hXu⟩ (by rw [if_neg (by rw [hc]; decide), if_neg (by rw [hc]; decide)]; try rfl) (Nat.le_of_ble_eq_true rfl) (Nat.le_of_ble_eq_true rfl)
  · obtain ⟨hc, hv, hXn⟩ := hp
    refine z_i2l (pc := 8) (v := (r).toInt64) hC rfl dL_reel_8 ?_
    refine z_last (pc := 9) (ws' := xW g.2 x u c a h e S1.1 S1.2.1 S1.2.2.1 R (nI s) (nI S1.2.2.2.1) S1.2.2.2.2 ++ [(o, .inl (g.2 3, 1, .inr (.inl (vp_updL f 0 ((r).toInt64)))))]) hC 141 rfl dL_reel_9 0 rfl (by decide) (by decide) rfl ?_
    refine z_goto (pc := 10) hC 21 (by decide) dL_reel_10 ?_
    refine z_iconst (pc := 21) (v := 0) hC dL_reel_21 (by decide) ?_
    exact hE _ _ _ (S1, vp_updL f 0 ((r).toInt64)) _ _ _ dL_reel_22 rfl ⟨by rw [hc]; rfl, fun _ => ⟨hXn, show r.toInt64 = _ by rw [hv]⟩, fun z => absurd hc z⟩ (by rw [if_pos hc, if_pos hc]; try rfl) (Nat.le_of_ble_eq_true rfl) (Nat.le_of_ble_eq_true rfl)

set_option maxRecDepth 100000 in
set_option maxHeartbeats 4000000 in
theorem w_reelOn {g : zG} {x : Nat} {u c a h : Nat → Nat} {e : Nat → Nat → Nat} {Q P : Nat → Int32} {T R : St} {s p : Nat} {K : Nat → St} {H : Nat → St} {t : Nat → Nat} {L : Nat} (hG : GR R) (hX : xR H s t L (Q, P, T, p, K)) {o : Nat} {f : Nat → Int64} {y : Int32} : FW (S := XS × (Nat → Int64)) g yL_reelOn cL_reelOn 4 [(0, 9, 12, 21)] 9 [.ref x, .int y, .ref o] (xW g.2 x u c a h e Q P T R (nI s) (nI p) K ++ [(o, .inl (g.2 3, 1, .inr (.inl f)))]) (fun r S => r = nI (cOn y) ∧ ((cOn y) = 0 → xR H (s) t L S.1 ∧ S.2 0 = (onDr R y).toInt64) ∧ ((cOn y) ≠ 0 → xR H s t L S.1)) (fun S => xW g.2 x u c a h e S.1.1 S.1.2.1 S.1.2.2.1 (if (cOn y) = 0 then R else R) (nI (if (cOn y) = 0 then s else s)) (nI S.1.2.2.2.1) S.1.2.2.2.2 ++ [(o, .inl (g.2 3, 1, .inr (.inl S.2)))]) := by
  refine fw_entry (by decide) (Nat.le_of_ble_eq_true rfl) (fun C hC hm htb h0 hZX hNc hE => ?_)
  refine z_aln (pc := 0) hC 2 rfl dL_reelOn_0 ?_
  refine z_iconst (pc := 1) (v := 0) hC dL_reelOn_1 (by decide) ?_
  refine z_aln (pc := 2) hC 0 rfl dL_reelOn_2 ?_
  refine z_iln (pc := 3) hC 1 rfl dL_reelOn_3 ?_
  refine z_vx (pc := 4) (rest := [.int 0, .ref o]) hC h0 hZX vX5_reelOn lL_53 dL_reelOn_4 (k_reelOn hG hX) [] [(o, .inl (g.2 3, 1, .inr (.inl f)))] rfl 0 5 rfl rfl rfl rfl rfl (by decide) (Nat.le_of_ble_eq_true rfl) ⟨Nat.le_of_ble_eq_true rfl, Nat.le_of_ble_eq_true rfl⟩ (fun E S1 hp => ?_) (fun r S1 hp => ?_)
  · obtain ⟨hp, hXu⟩ := hp
    obtain ⟨hc, rfl⟩ := hp
    refine ⟨[], ⟨0, 9, 12, 21⟩, [], xO_, htb, (fun z hz => by simp at hz), rfl, by decide, in_aw 526 (by decide +kernel) (by decide +kernel), by decide +kernel, fun q9 => ?_⟩
    refine z_asn (pc := 12) (lv' := [(3, .ref q9), (0, .ref x), (1, .int y), (2, .ref o)]) hC hm (by decide) rfl dL_reelOn_12 ?_
    refine z_iconst (pc := 13) (v := 1) hC dL_reelOn_13 (by decide) ?_
    exact hE _ _ _ (S1, f) _ _ _ dL_reelOn_14 rfl ⟨by rw [hc]; rfl, fun z => absurd (hc.symm.trans z) (by decide), fun _ => hXu⟩ (by rw [if_neg (by rw [hc]; decide), if_neg (by rw [hc]; decide)]; try rfl) (Nat.le_of_ble_eq_true rfl) (Nat.le_of_ble_eq_true rfl)
  · obtain ⟨hc, hv, hXn⟩ := hp
    refine z_i2l (pc := 7) (v := (r).toInt64) hC rfl dL_reelOn_7 ?_
    refine z_last (pc := 8) (ws' := xW g.2 x u c a h e S1.1 S1.2.1 S1.2.2.1 R (nI s) (nI S1.2.2.2.1) S1.2.2.2.2 ++ [(o, .inl (g.2 3, 1, .inr (.inl (vp_updL f 0 ((r).toInt64)))))]) hC 141 rfl dL_reelOn_8 0 rfl (by decide) (by decide) rfl ?_
    refine z_goto (pc := 9) hC 15 (by decide) dL_reelOn_9 ?_
    refine z_iconst (pc := 15) (v := 0) hC dL_reelOn_15 (by decide) ?_
    exact hE _ _ _ (S1, vp_updL f 0 ((r).toInt64)) _ _ _ dL_reelOn_16 rfl ⟨by rw [hc]; rfl, fun _ => ⟨hXn, show r.toInt64 = _ by rw [hv]⟩, fun z => absurd hc z⟩ (by rw [if_pos hc, if_pos hc]; try rfl) (Nat.le_of_ble_eq_true rfl) (Nat.le_of_ble_eq_true rfl)

set_option maxRecDepth 100000 in
set_option maxHeartbeats 4000000 in
theorem w_job {g : zG} {x : Nat} {u c a h : Nat → Nat} {e : Nat → Nat → Nat} {Q P : Nat → Int32} {T R : St} {s p : Nat} {K : Nat → St} {H : Nat → St} {t : Nat → Nat} {L : Nat} (hG : GR R) (hX : xR H s t L (Q, P, T, p, K)) {o : Nat} {f : Nat → Int64} {y z : Int32} : FW (S := XS × (Nat → Int64)) g yL_job cL_job 5 [(0, 10, 13, 21), (0, 10, 17, 13)] 9 [.ref x, .int y, .int z, .ref o] (xW g.2 x u c a h e Q P T R (nI s) (nI p) K ++ [(o, .inl (g.2 3, 1, .inr (.inl f)))]) (fun r S => r = nI (cJob R y z) ∧ ((cJob R y z) = 0 → xR H (s) t L S.1 ∧ S.2 0 = (vJob R y z).toInt64) ∧ ((cJob R y z) ≠ 0 → xR H s t L S.1)) (fun S => xW g.2 x u c a h e S.1.1 S.1.2.1 S.1.2.2.1 (if (cJob R y z) = 0 then R else R) (nI (if (cJob R y z) = 0 then s else s)) (nI S.1.2.2.2.1) S.1.2.2.2.2 ++ [(o, .inl (g.2 3, 1, .inr (.inl S.2)))]) := by
  refine fw_entry (by decide) (Nat.le_of_ble_eq_true rfl) (fun C hC hm htb h0 hZX hNc hE => ?_)
  refine z_aln (pc := 0) hC 3 rfl dL_job_0 ?_
  refine z_iconst (pc := 1) (v := 0) hC dL_job_1 (by decide) ?_
  refine z_aln (pc := 2) hC 0 rfl dL_job_2 ?_
  refine z_iln (pc := 3) hC 1 rfl dL_job_3 ?_
  refine z_iln (pc := 4) hC 2 rfl dL_job_4 ?_
  refine z_vx (pc := 5) (rest := [.int 0, .ref o]) hC h0 hZX vX5_job lL_56 dL_job_5 (k_job hG hX) [] [(o, .inl (g.2 3, 1, .inr (.inl f)))] rfl 0 5 rfl rfl rfl rfl rfl (by decide) (Nat.le_of_ble_eq_true rfl) ⟨Nat.le_of_ble_eq_true rfl, Nat.le_of_ble_eq_true rfl⟩ (fun E S1 hp => ?_) (fun r S1 hp => ?_)
  · obtain ⟨hp, hXu⟩ := hp
    rcases hp with ⟨hc, rfl⟩ | ⟨hc, rfl⟩
    · refine ⟨[], ⟨0, 10, 13, 21⟩, [⟨0, 10, 17, 13⟩], xO_, htb, (fun z hz => by simp at hz), rfl, by decide, in_aw 526 (by decide +kernel) (by decide +kernel), by decide +kernel, fun q9 => ?_⟩
      refine z_as (pc := 13) (lv' := [(4, .ref q9), (0, .ref x), (1, .int y), (2, .int z), (3, .ref o)]) hC hm (by decide) rfl dL_job_13 ?_
      refine z_iconst (pc := 15) (v := 1) hC dL_job_15 (by decide) ?_
      exact hE _ _ _ (S1, f) _ _ _ dL_job_16 rfl ⟨by rw [hc]; rfl, fun z => absurd (hc.symm.trans z) (by decide), fun _ => hXu⟩ (by rw [if_neg (by rw [hc]; decide), if_neg (by rw [hc]; decide)]; try rfl) (Nat.le_of_ble_eq_true rfl) (Nat.le_of_ble_eq_true rfl)
    · refine ⟨[⟨0, 10, 13, 21⟩], ⟨0, 10, 17, 13⟩, [], xA_, htb, (fun z hz => Or.inr (by simp at hz; subst hz; exact ⟨by decide, xO_, in_aw 526 (by decide +kernel) (by decide +kernel), hNc.1⟩)), rfl, by decide, in_aw 387 (by decide +kernel) (by decide +kernel), by decide +kernel, fun q9 => ?_⟩
      refine z_as (pc := 17) (lv' := [(4, .ref q9), (0, .ref x), (1, .int y), (2, .int z), (3, .ref o)]) hC hm (by decide) rfl dL_job_17 ?_
      refine z_iconst (pc := 19) (v := 2) hC dL_job_19 (by decide) ?_
      exact hE _ _ _ (S1, f) _ _ _ dL_job_20 rfl ⟨by rw [hc]; rfl, fun z => absurd (hc.symm.trans z) (by decide), fun _ => hXu⟩ (by rw [if_neg (by rw [hc]; decide), if_neg (by rw [hc]; decide)]; try rfl) (Nat.le_of_ble_eq_true rfl) (Nat.le_of_ble_eq_true rfl)
  · obtain ⟨hc, hv, hXn⟩ := hp
    refine z_i2l (pc := 8) (v := (r).toInt64) hC rfl dL_job_8 ?_
    refine z_last (pc := 9) (ws' := xW g.2 x u c a h e S1.1 S1.2.1 S1.2.2.1 R (nI s) (nI S1.2.2.2.1) S1.2.2.2.2 ++ [(o, .inl (g.2 3, 1, .inr (.inl (vp_updL f 0 ((r).toInt64)))))]) hC 141 rfl dL_job_9 0 rfl (by decide) (by decide) rfl ?_
    refine z_goto (pc := 10) hC 21 (by decide) dL_job_10 ?_
    refine z_iconst (pc := 21) (v := 0) hC dL_job_21 (by decide) ?_
    exact hE _ _ _ (S1, vp_updL f 0 ((r).toInt64)) _ _ _ dL_job_22 rfl ⟨by rw [hc]; rfl, fun _ => ⟨hXn, show r.toInt64 = _ by rw [hv]⟩, fun z => absurd hc z⟩ (by rw [if_pos hc, if_pos hc]; try rfl) (Nat.le_of_ble_eq_true rfl) (Nat.le_of_ble_eq_true rfl)

set_option maxRecDepth 100000 in
set_option maxHeartbeats 4000000 in
theorem w_isStuck {g : zG} {x : Nat} {u c a h : Nat → Nat} {e : Nat → Nat → Nat} {Q P : Nat → Int32} {T R : St} {s p : Nat} {K : Nat → St} {H : Nat → St} {t : Nat → Nat} {L : Nat} (hG : GR R) (hX : xR H s t L (Q, P, T, p, K)) {o : Nat} {f : Nat → Int64} {y : Int32} : FW (S := XS × (Nat → Int64)) g yL_isStuck cL_isStuck 4 [(0, 16, 19, 21)] 9 [.ref x, .int y, .ref o] (xW g.2 x u c a h e Q P T R (nI s) (nI p) K ++ [(o, .inl (g.2 3, 1, .inr (.inl f)))]) (fun r S => r = nI (cIs R y) ∧ ((cIs R y) = 0 → xR H (s) t L S.1 ∧ S.2 0 = (vStuck R y).toInt64) ∧ ((cIs R y) ≠ 0 → xR H s t L S.1)) (fun S => xW g.2 x u c a h e S.1.1 S.1.2.1 S.1.2.2.1 (if (cIs R y) = 0 then R else R) (nI (if (cIs R y) = 0 then s else s)) (nI S.1.2.2.2.1) S.1.2.2.2.2 ++ [(o, .inl (g.2 3, 1, .inr (.inl S.2)))]) := by
  refine fw_entry (by decide) (Nat.le_of_ble_eq_true rfl) (fun C hC hm htb h0 hZX hNc hE => ?_)
  refine z_aln (pc := 0) hC 2 rfl dL_isStuck_0 ?_
  refine z_iconst (pc := 1) (v := 0) hC dL_isStuck_1 (by decide) ?_
  refine z_aln (pc := 2) hC 0 rfl dL_isStuck_2 ?_
  refine z_iln (pc := 3) hC 1 rfl dL_isStuck_3 ?_
  refine z_vx (pc := 4) (rest := [.int 0, .ref o]) hC h0 hZX vX5_isStuck lL_59 dL_isStuck_4 (k_isStuck hG hX) [] [(o, .inl (g.2 3, 1, .inr (.inl f)))] rfl 0 5 rfl rfl rfl rfl rfl (by decide) (Nat.le_of_ble_eq_true rfl) ⟨Nat.le_of_ble_eq_true rfl, Nat.le_of_ble_eq_true rfl⟩ (fun E S1 hp => ?_) (fun r S1 hp => ?_)
  · obtain ⟨hp, hXu⟩ := hp
    obtain ⟨hc, rfl⟩ := hp
    refine ⟨[], ⟨0, 16, 19, 21⟩, [], xO_, htb, (fun z hz => by simp at hz), rfl, by decide, in_aw 526 (by decide +kernel) (by decide +kernel), by decide +kernel, fun q9 => ?_⟩
    refine z_asn (pc := 19) (lv' := [(3, .ref q9), (0, .ref x), (1, .int y), (2, .ref o)]) hC hm (by decide) rfl dL_isStuck_19 ?_
    refine z_iconst (pc := 20) (v := 1) hC dL_isStuck_20 (by decide) ?_
    exact hE _ _ _ (S1, f) _ _ _ dL_isStuck_21 rfl ⟨by rw [hc]; rfl, fun z => absurd (hc.symm.trans z) (by decide), fun _ => hXu⟩ (by rw [if_neg (by rw [hc]; decide), if_neg (by rw [hc]; decide)]; try rfl) (Nat.le_of_ble_eq_true rfl) (Nat.le_of_ble_eq_true rfl)
  · obtain ⟨hc, hv, hXn⟩ := hp
    refine z_ifeq (pc := 7) hC 14 (by decide) dL_isStuck_7 (fun c7 => ?_) (fun c7 => ?_)
    · have hr0 : r = 0 := c7
      refine z_lconst (pc := 14) (v := 0) hC dL_isStuck_14 rfl ?_
      refine z_last (pc := 15) (ws' := xW g.2 x u c a h e S1.1 S1.2.1 S1.2.2.1 R (nI s) (nI S1.2.2.2.1) S1.2.2.2.2 ++ [(o, .inl (g.2 3, 1, .inr (.inl (vp_updL f 0 0))))]) hC 141 rfl dL_isStuck_15 0 rfl (by decide) (by decide) rfl ?_
      refine z_goto (pc := 16) hC 22 (by decide) dL_isStuck_16 ?_
      refine z_iconst (pc := 22) (v := 0) hC dL_isStuck_22 (by decide) ?_
      exact hE _ _ _ (S1, vp_updL f 0 0) _ _ _ dL_isStuck_23 rfl ⟨by rw [hc]; rfl, fun _ => ⟨hXn, show (0 : Int64) = _ by rw [← hv, hr0]; rfl⟩, fun z => absurd hc z⟩ (by rw [if_pos hc, if_pos hc]; try rfl) (Nat.le_of_ble_eq_true rfl) (Nat.le_of_ble_eq_true rfl)
    · have hr1 : r = 1 := (by
        rcases (show vStuck R y = 0 ∨ vStuck R y = 1 by unfold vStuck bI; split <;> simp) with hq | hq
        · exact absurd (hv.trans hq) c7
        · exact hv.trans hq)
      refine z_lconst (pc := 10) (v := 1) hC dL_isStuck_10 rfl ?_
      refine z_goto (pc := 11) hC 15 (by decide) dL_isStuck_11 ?_
      refine z_last (pc := 15) (ws' := xW g.2 x u c a h e S1.1 S1.2.1 S1.2.2.1 R (nI s) (nI S1.2.2.2.1) S1.2.2.2.2 ++ [(o, .inl (g.2 3, 1, .inr (.inl (vp_updL f 0 1))))]) hC 141 rfl dL_isStuck_15 0 rfl (by decide) (by decide) rfl ?_
      refine z_goto (pc := 16) hC 22 (by decide) dL_isStuck_16 ?_
      refine z_iconst (pc := 22) (v := 0) hC dL_isStuck_22 (by decide) ?_
      exact hE _ _ _ (S1, vp_updL f 0 1) _ _ _ dL_isStuck_23 rfl ⟨by rw [hc]; rfl, fun _ => ⟨hXn, show (1 : Int64) = _ by rw [← hv, hr1]; rfl⟩, fun z => absurd hc z⟩ (by rw [if_pos hc, if_pos hc]; try rfl) (Nat.le_of_ble_eq_true rfl) (Nat.le_of_ble_eq_true rfl)

set_option maxRecDepth 100000 in
set_option maxHeartbeats 4000000 in
theorem w_verdict {g : zG} {x : Nat} {u c a h : Nat → Nat} {e : Nat → Nat → Nat} {Q P : Nat → Int32} {T R : St} {s p : Nat} {K : Nat → St} {H : Nat → St} {t : Nat → Nat} {L : Nat} (hG : GR R) (hX : xR H s t L (Q, P, T, p, K)) {o : Nat} {f : Nat → Int64} {y z : Int32} : FW (S := XS × (Nat → Int64)) g yL_verdict cL_verdict 5 [(0, 10, 13, 21)] 9 [.ref x, .int y, .int z, .ref o] (xW g.2 x u c a h e Q P T R (nI s) (nI p) K ++ [(o, .inl (g.2 3, 1, .inr (.inl f)))]) (fun r S => r = nI (cVer R y z) ∧ ((cVer R y z) = 0 → xR H (s) t L S.1 ∧ S.2 0 = (chk R (ix y) (ix z)).toInt64) ∧ ((cVer R y z) ≠ 0 → xR H s t L S.1)) (fun S => xW g.2 x u c a h e S.1.1 S.1.2.1 S.1.2.2.1 (if (cVer R y z) = 0 then R else R) (nI (if (cVer R y z) = 0 then s else s)) (nI S.1.2.2.2.1) S.1.2.2.2.2 ++ [(o, .inl (g.2 3, 1, .inr (.inl S.2)))]) := by
  refine fw_entry (by decide) (Nat.le_of_ble_eq_true rfl) (fun C hC hm htb h0 hZX hNc hE => ?_)
  refine z_aln (pc := 0) hC 3 rfl dL_verdict_0 ?_
  refine z_iconst (pc := 1) (v := 0) hC dL_verdict_1 (by decide) ?_
  refine z_aln (pc := 2) hC 0 rfl dL_verdict_2 ?_
  refine z_iln (pc := 3) hC 1 rfl dL_verdict_3 ?_
  refine z_iln (pc := 4) hC 2 rfl dL_verdict_4 ?_
  refine z_vx (pc := 5) (rest := [.int 0, .ref o]) hC h0 hZX vX5_verdict lL_63 dL_verdict_5 (k_verdict hG hX) [] [(o, .inl (g.2 3, 1, .inr (.inl f)))] rfl 0 5 rfl rfl rfl rfl rfl (by decide) (Nat.le_of_ble_eq_true rfl) ⟨Nat.le_of_ble_eq_true rfl, Nat.le_of_ble_eq_true rfl⟩ (fun E S1 hp => ?_) (fun r S1 hp => ?_)
  · obtain ⟨hp, hXu⟩ := hp
    obtain ⟨hc, rfl⟩ := hp
    refine ⟨[], ⟨0, 10, 13, 21⟩, [], xO_, htb, (fun z hz => by simp at hz), rfl, by decide, in_aw 526 (by decide +kernel) (by decide +kernel), by decide +kernel, fun q9 => ?_⟩
    refine z_as (pc := 13) (lv' := [(4, .ref q9), (0, .ref x), (1, .int y), (2, .int z), (3, .ref o)]) hC hm (by decide) rfl dL_verdict_13 ?_
    refine z_iconst (pc := 15) (v := 1) hC dL_verdict_15 (by decide) ?_
    exact hE _ _ _ (S1, f) _ _ _ dL_verdict_16 rfl ⟨by rw [hc]; rfl, fun z => absurd (hc.symm.trans z) (by decide), fun _ => hXu⟩ (by rw [if_neg (by rw [hc]; decide), if_neg (by rw [hc]; decide)]; try rfl) (Nat.le_of_ble_eq_true rfl) (Nat.le_of_ble_eq_true rfl)
  · obtain ⟨hc, hv, hXn⟩ := hp
    refine z_i2l (pc := 8) (v := (r).toInt64) hC rfl dL_verdict_8 ?_
    refine z_last (pc := 9) (ws' := xW g.2 x u c a h e S1.1 S1.2.1 S1.2.2.1 R (nI s) (nI S1.2.2.2.1) S1.2.2.2.2 ++ [(o, .inl (g.2 3, 1, .inr (.inl (vp_updL f 0 ((r).toInt64)))))]) hC 141 rfl dL_verdict_9 0 rfl (by decide) (by decide) rfl ?_
    refine z_goto (pc := 10) hC 17 (by decide) dL_verdict_10 ?_
    refine z_iconst (pc := 17) (v := 0) hC dL_verdict_17 (by decide) ?_
    exact hE _ _ _ (S1, vp_updL f 0 ((r).toInt64)) _ _ _ dL_verdict_18 rfl ⟨by rw [hc]; rfl, fun _ => ⟨hXn, show r.toInt64 = _ by rw [hv]⟩, fun z => absurd hc z⟩ (by rw [if_pos hc, if_pos hc]; try rfl) (Nat.le_of_ble_eq_true rfl) (Nat.le_of_ble_eq_true rfl)

set_option maxRecDepth 100000 in
set_option maxHeartbeats 4000000 in
theorem w_minutesToDone {g : zG} {x : Nat} {u c a h : Nat → Nat} {e : Nat → Nat → Nat} {Q P : Nat → Int32} {T R : St} {s p : Nat} {K : Nat → St} {H : Nat → St} {t : Nat → Nat} {L : Nat} (hG : GR R) (hX : xR H s t L (Q, P, T, p, K)) {o : Nat} {f : Nat → Int64} {y : Int32} : FW (S := XS × (Nat → Int64)) g yL_minutesToDone cL_minutesToDone 4 [(0, 9, 12, 21)] 9 [.ref x, .int y, .ref o] (xW g.2 x u c a h e Q P T R (nI s) (nI p) K ++ [(o, .inl (g.2 3, 1, .inr (.inl f)))]) (fun r S => r = nI (cIs R y) ∧ ((cIs R y) = 0 → xR H (s) t L S.1 ∧ S.2 0 = (mtd (nn R) (ix y) 300 0 R).toInt64) ∧ ((cIs R y) ≠ 0 → xR H s t L S.1)) (fun S => xW g.2 x u c a h e S.1.1 S.1.2.1 S.1.2.2.1 (if (cIs R y) = 0 then R else R) (nI (if (cIs R y) = 0 then s else s)) (nI S.1.2.2.2.1) S.1.2.2.2.2 ++ [(o, .inl (g.2 3, 1, .inr (.inl S.2)))]) := by
  refine fw_entry (by decide) (Nat.le_of_ble_eq_true rfl) (fun C hC hm htb h0 hZX hNc hE => ?_)
  refine z_aln (pc := 0) hC 2 rfl dL_minutesToDone_0 ?_
  refine z_iconst (pc := 1) (v := 0) hC dL_minutesToDone_1 (by decide) ?_
  refine z_aln (pc := 2) hC 0 rfl dL_minutesToDone_2 ?_
  refine z_iln (pc := 3) hC 1 rfl dL_minutesToDone_3 ?_
  refine z_vx (pc := 4) (rest := [.int 0, .ref o]) hC h0 hZX vX5_minutesToDone lL_66 dL_minutesToDone_4 (k_minutesToDone hG hX) [] [(o, .inl (g.2 3, 1, .inr (.inl f)))] rfl 0 5 rfl rfl rfl rfl rfl (by decide) (Nat.le_of_ble_eq_true rfl) ⟨Nat.le_of_ble_eq_true rfl, Nat.le_of_ble_eq_true rfl⟩ (fun E S1 hp => ?_) (fun r S1 hp => ?_)
  · obtain ⟨hp, hXu⟩ := hp
    obtain ⟨hc, rfl⟩ := hp
    refine ⟨[], ⟨0, 9, 12, 21⟩, [], xO_, htb, (fun z hz => by simp at hz), rfl, by decide, in_aw 526 (by decide +kernel) (by decide +kernel), by decide +kernel, fun q9 => ?_⟩
    refine z_asn (pc := 12) (lv' := [(3, .ref q9), (0, .ref x), (1, .int y), (2, .ref o)]) hC hm (by decide) rfl dL_minutesToDone_12 ?_
    refine z_iconst (pc := 13) (v := 1) hC dL_minutesToDone_13 (by decide) ?_
    exact hE _ _ _ (S1, f) _ _ _ dL_minutesToDone_14 rfl ⟨by rw [hc]; rfl, fun z => absurd (hc.symm.trans z) (by decide), fun _ => hXu⟩ (by rw [if_neg (by rw [hc]; decide), if_neg (by rw [hc]; decide)]; try rfl) (Nat.le_of_ble_eq_true rfl) (Nat.le_of_ble_eq_true rfl)
  · obtain ⟨hc, hv, hXn⟩ := hp
    refine z_i2l (pc := 7) (v := (r).toInt64) hC rfl dL_minutesToDone_7 ?_
    refine z_last (pc := 8) (ws' := xW g.2 x u c a h e S1.1 S1.2.1 S1.2.2.1 R (nI s) (nI S1.2.2.2.1) S1.2.2.2.2 ++ [(o, .inl (g.2 3, 1, .inr (.inl (vp_updL f 0 ((r).toInt64)))))]) hC 141 rfl dL_minutesToDone_8 0 rfl (by decide) (by decide) rfl ?_
    refine z_goto (pc := 9) hC 15 (by decide) dL_minutesToDone_9 ?_
    refine z_iconst (pc := 15) (v := 0) hC dL_minutesToDone_15 (by decide) ?_
    exact hE _ _ _ (S1, vp_updL f 0 ((r).toInt64)) _ _ _ dL_minutesToDone_16 rfl ⟨by rw [hc]; rfl, fun _ => ⟨hXn, show r.toInt64 = _ by rw [hv]⟩, fun z => absurd hc z⟩ (by rw [if_pos hc, if_pos hc]; try rfl) (Nat.le_of_ble_eq_true rfl) (Nat.le_of_ble_eq_true rfl)

set_option maxRecDepth 100000 in
set_option maxHeartbeats 4000000 in
theorem w_count {g : zG} {x : Nat} {u c a h : Nat → Nat} {e : Nat → Nat → Nat} {Q P : Nat → Int32} {T R : St} {s p : Nat} {K : Nat → St} {H : Nat → St} {t : Nat → Nat} {L : Nat} (hG : GR R) (hX : xR H s t L (Q, P, T, p, K)) {o : Nat} {f : Nat → Int64} {y : Int32} : FW (S := XS × (Nat → Int64)) g yL_count cL_count 4 [(0, 9, 12, 13)] 9 [.ref x, .int y, .ref o] (xW g.2 x u c a h e Q P T R (nI s) (nI p) K ++ [(o, .inl (g.2 3, 1, .inr (.inl f)))]) (fun r S => r = nI (cCnt y) ∧ ((cCnt y) = 0 → xR H (s) t L S.1 ∧ S.2 0 = (vCnt R y).toInt64) ∧ ((cCnt y) ≠ 0 → xR H s t L S.1)) (fun S => xW g.2 x u c a h e S.1.1 S.1.2.1 S.1.2.2.1 (if (cCnt y) = 0 then R else R) (nI (if (cCnt y) = 0 then s else s)) (nI S.1.2.2.2.1) S.1.2.2.2.2 ++ [(o, .inl (g.2 3, 1, .inr (.inl S.2)))]) := by
  refine fw_entry (by decide) (Nat.le_of_ble_eq_true rfl) (fun C hC hm htb h0 hZX hNc hE => ?_)
  refine z_aln (pc := 0) hC 2 rfl dL_count_0 ?_
  refine z_iconst (pc := 1) (v := 0) hC dL_count_1 (by decide) ?_
  refine z_aln (pc := 2) hC 0 rfl dL_count_2 ?_
  refine z_iln (pc := 3) hC 1 rfl dL_count_3 ?_
  refine z_vx (pc := 4) (rest := [.int 0, .ref o]) hC h0 hZX vX5_count lL_69 dL_count_4 (k_count hG hX) [] [(o, .inl (g.2 3, 1, .inr (.inl f)))] rfl 0 5 rfl rfl rfl rfl rfl (by decide) (Nat.le_of_ble_eq_true rfl) ⟨Nat.le_of_ble_eq_true rfl, Nat.le_of_ble_eq_true rfl⟩ (fun E S1 hp => ?_) (fun r S1 hp => ?_)
  · obtain ⟨hp, hXu⟩ := hp
    obtain ⟨hc, rfl⟩ := hp
    refine ⟨[], ⟨0, 9, 12, 13⟩, [], xA_, htb, (fun z hz => by simp at hz), rfl, by decide, in_aw 387 (by decide +kernel) (by decide +kernel), by decide +kernel, fun q9 => ?_⟩
    refine z_asn (pc := 12) (lv' := [(3, .ref q9), (0, .ref x), (1, .int y), (2, .ref o)]) hC hm (by decide) rfl dL_count_12 ?_
    refine z_iconst (pc := 13) (v := 1) hC dL_count_13 (by decide) ?_
    exact hE _ _ _ (S1, f) _ _ _ dL_count_14 rfl ⟨by rw [hc]; rfl, fun z => absurd (hc.symm.trans z) (by decide), fun _ => hXu⟩ (by rw [if_neg (by rw [hc]; decide), if_neg (by rw [hc]; decide)]; try rfl) (Nat.le_of_ble_eq_true rfl) (Nat.le_of_ble_eq_true rfl)
  · obtain ⟨hc, hv, hXn⟩ := hp
    refine z_i2l (pc := 7) (v := (r).toInt64) hC rfl dL_count_7 ?_
    refine z_last (pc := 8) (ws' := xW g.2 x u c a h e S1.1 S1.2.1 S1.2.2.1 R (nI s) (nI S1.2.2.2.1) S1.2.2.2.2 ++ [(o, .inl (g.2 3, 1, .inr (.inl (vp_updL f 0 ((r).toInt64)))))]) hC 141 rfl dL_count_8 0 rfl (by decide) (by decide) rfl ?_
    refine z_goto (pc := 9) hC 15 (by decide) dL_count_9 ?_
    refine z_iconst (pc := 15) (v := 0) hC dL_count_15 (by decide) ?_
    exact hE _ _ _ (S1, vp_updL f 0 ((r).toInt64)) _ _ _ dL_count_16 rfl ⟨by rw [hc]; rfl, fun _ => ⟨hXn, show r.toInt64 = _ by rw [hv]⟩, fun z => absurd hc z⟩ (by rw [if_pos hc, if_pos hc]; try rfl) (Nat.le_of_ble_eq_true rfl) (Nat.le_of_ble_eq_true rfl)
