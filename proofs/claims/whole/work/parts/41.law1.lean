/-! THE LAW: the cases of its switch (by law1.py) -/
theorem ring_01 {R : St} {y : Int32} (hG : GR R) (hc : cRing R y = 0) : R 2 (ix y) = 0 ∨ R 2 (ix y) = 1 := by
  have h1 : isReel y = true := by
    cases hq : isReel y with
    | true => rfl
    | false => rw [cRing, if_pos hq] at hc; cases hc
  exact hG.ring _ (reel_ix h1).1
theorem wL_submit : wM yL_submit cL_submit 7 [(0, 14, 17, 13), (0, 14, 21, 15)] 6 := ⟨in_aw 385 (by decide +kernel) (by decide +kernel), in_aw 37 (by decide +kernel) (by decide +kernel), in_aw 386 (by decide +kernel) (by decide +kernel), ⟨by decide, by decide, by decide +kernel⟩, by decide⟩
set_option maxRecDepth 100000 in
set_option maxHeartbeats 4000000 in
theorem lc_submit {g : zG} {C : zC} {b L : Nat} {xs : Nat → Int32} {x : Nat} {u c a h : Nat → Nat} {e : Nat → Nat → Nat} {mb : Nat → Nat} {o : Nat} (hO : lOK g C b L xs) {i : Nat} (hi : i + 5 ≤ L) {k n : Nat} (hk : k + 1 ≤ 601024 ∧ n + 6 ≤ 7293034) {ws : va_W} (hI : lI g.2 x u c a h e mb o ws) (kk : ∀ ws', lI g.2 x u c a h e mb o ws' → Z g C (k + 1) (n + 6) ws' (lL b x (mb 0) o i) 1355 []) : Z g C k n ws (lL b x (mb 0) o i) 156 [] := by
  obtain ⟨Q, P, T, R, s, p, K, H, t, Lt, f, F, V, hG, hX, hM, hH, rfl⟩ := hI
  obtain ⟨hC, hm, hXs, hbl, hbA, h0, hZX, hNc, hL⟩ := id hO
  refine z_w (ws' := (xW g.2 x u c a h e Q P T R (nI s) (nI p) K ++ [(o, .inl (g.2 3, 1, .inr (.inl f)))]) ++ mW g.2 mb R F V) rfl ?_
  have hcd : cSub R (xs (i + 1)) (xs (i + 2)) (xs (i + 3)) (xs (i + 4)) ≤ 2 := by unfold cSub; (repeat' split) <;> omega
  refine z_aln (pc := 156) hC 2 rfl dL_law_156 ?_
  refine z_arg (pc := 157) hO 1 (by decide) (by omega) 0 1 rfl rfl dL_law_157 dL_law_158 dL_law_160 dL_law_161 dL_law_162 ?_
  refine z_arg (pc := 163) hO 2 (by decide) (by omega) 0 1 rfl rfl dL_law_163 dL_law_164 dL_law_166 dL_law_167 dL_law_168 ?_
  refine z_arg (pc := 169) hO 3 (by decide) (by omega) 0 1 rfl rfl dL_law_169 dL_law_170 dL_law_172 dL_law_173 dL_law_174 ?_
  refine z_arg (pc := 175) hO 4 (by decide) (by omega) 0 1 rfl rfl dL_law_175 dL_law_176 dL_law_178 dL_law_179 dL_law_180 ?_
  refine z_aln (pc := 181) hC 4 rfl dL_law_181 ?_
  refine z_sw (pc := 182) (rest := []) (As := [.ref x, .int (xs (i + 1)), .int (xs (i + 2)), .int (xs (i + 3)), .int (xs (i + 4)), .ref o]) hC h0 hZX hNc wL_submit lL_76 dL_law_182 (w_submit hG hX) [] (mW g.2 mb R F V) rfl rfl rfl (Nat.le_of_ble_eq_true rfl) (Nat.le_of_ble_eq_true rfl) hk (fun r S1 hp => ?_)
  obtain ⟨hr, hp0, hp1⟩ := hp
  subst hr
  refine z_w (ws' := (xW g.2 x u c a h e S1.1.1 S1.1.2.1 S1.1.2.2.1 ((if cSub R (xs (i + 1)) (xs (i + 2)) (xs (i + 3)) (xs (i + 4)) = 0 then subm R (nn R) (xs (i + 1)) (xs (i + 2)) (xs (i + 3)) (xs (i + 4)) else R)) (nI ((if cSub R (xs (i + 1)) (xs (i + 2)) (xs (i + 3)) (xs (i + 4)) = 0 then pushN s else s))) (nI S1.1.2.2.2.1) S1.1.2.2.2.2 ++ [(o, .inl (g.2 3, 1, .inr (.inl S1.2)))]) ++ mW g.2 mb R F V) rfl ?_
  refine z_is (pc := 185) (lv' := (5, .int (nI (cSub R (xs (i + 1)) (xs (i + 2)) (xs (i + 3)) (xs (i + 4))))) :: lL b x (mb 0) o i) hC hm (by decide) rfl dL_law_185 ?_
  refine z_aln (pc := 187) hC 4 rfl dL_law_187 ?_
  refine z_arg (pc := 188) hO 1 (by decide) (by omega) 1 2 rfl rfl dL_law_188 dL_law_189 dL_law_191 dL_law_192 dL_law_193 ?_
  refine z_arg (pc := 194) hO 2 (by decide) (by omega) 1 2 rfl rfl dL_law_194 dL_law_195 dL_law_197 dL_law_198 dL_law_199 ?_
  refine z_arg (pc := 200) hO 3 (by decide) (by omega) 1 2 rfl rfl dL_law_200 dL_law_201 dL_law_203 dL_law_204 dL_law_205 ?_
  refine z_arg (pc := 206) hO 4 (by decide) (by omega) 1 2 rfl rfl dL_law_206 dL_law_207 dL_law_209 dL_law_210 dL_law_211 ?_
  refine z_vi (pc := 212) (rest := []) (As := [.int (xs (i + 1)), .int (xs (i + 2)), .int (xs (i + 3)), .int (xs (i + 4))]) hC vX6_submit lL_81 dL_law_212 (m_submit hG hM) (xW g.2 x u c a h e S1.1.1 S1.1.2.1 S1.1.2.2.1 ((if cSub R (xs (i + 1)) (xs (i + 2)) (xs (i + 3)) (xs (i + 4)) = 0 then subm R (nn R) (xs (i + 1)) (xs (i + 2)) (xs (i + 3)) (xs (i + 4)) else R)) (nI ((if cSub R (xs (i + 1)) (xs (i + 2)) (xs (i + 3)) (xs (i + 4)) = 0 then pushN s else s))) (nI S1.1.2.2.2.1) S1.1.2.2.2.2 ++ [(o, .inl (g.2 3, 1, .inr (.inl S1.2)))]) [] (by rw [List.append_nil]) 0 6 rfl rfl rfl rfl rfl (Nat.le_of_ble_eq_true rfl) (Nat.le_of_ble_eq_true rfl) hk (fun r2 S2 hp2 => ?_)
  obtain ⟨e1, e2, e3⟩ := hp2
  refine z_w (ws' := (xW g.2 x u c a h e S1.1.1 S1.1.2.1 S1.1.2.2.1 ((if cSub R (xs (i + 1)) (xs (i + 2)) (xs (i + 3)) (xs (i + 4)) = 0 then subm R (nn R) (xs (i + 1)) (xs (i + 2)) (xs (i + 3)) (xs (i + 4)) else R)) (nI ((if cSub R (xs (i + 1)) (xs (i + 2)) (xs (i + 3)) (xs (i + 4)) = 0 then pushN s else s))) (nI S1.1.2.2.2.1) S1.1.2.2.2.2 ++ [(o, .inl (g.2 3, 1, .inr (.inl S1.2)))]) ++ mW g.2 mb ((if cSub R (xs (i + 1)) (xs (i + 2)) (xs (i + 3)) (xs (i + 4)) = 0 then subm R (nn R) (xs (i + 1)) (xs (i + 2)) (xs (i + 3)) (xs (i + 4)) else R)) S2.1 S2.2) (by rw [List.append_nil]) ?_
  refine z_is (pc := 215) (lv' := (6, .int r2) :: (5, .int (nI (cSub R (xs (i + 1)) (xs (i + 2)) (xs (i + 3)) (xs (i + 4))))) :: lL b x (mb 0) o i) hC hm (by decide) rfl dL_law_215 ?_
  refine z_aln (pc := 217) hC 5 rfl dL_law_217 ?_
  refine z_vi (pc := 218) (rest := []) (As := []) hC vX6_thrown lL_82 dL_law_218 (m_thrown (R := (if cSub R (xs (i + 1)) (xs (i + 2)) (xs (i + 3)) (xs (i + 4)) = 0 then subm R (nn R) (xs (i + 1)) (xs (i + 2)) (xs (i + 3)) (xs (i + 4)) else R)) (F := S2.1) (V := S2.2)) (xW g.2 x u c a h e S1.1.1 S1.1.2.1 S1.1.2.2.1 ((if cSub R (xs (i + 1)) (xs (i + 2)) (xs (i + 3)) (xs (i + 4)) = 0 then subm R (nn R) (xs (i + 1)) (xs (i + 2)) (xs (i + 3)) (xs (i + 4)) else R)) (nI ((if cSub R (xs (i + 1)) (xs (i + 2)) (xs (i + 3)) (xs (i + 4)) = 0 then pushN s else s))) (nI S1.1.2.2.2.1) S1.1.2.2.2.2 ++ [(o, .inl (g.2 3, 1, .inr (.inl S1.2)))]) [] (by rw [List.append_nil]) 0 6 rfl rfl rfl rfl rfl (Nat.le_of_ble_eq_true rfl) (Nat.le_of_ble_eq_true rfl) hk (fun r3 _ hp3 => ?_)
  refine z_w (ws' := (xW g.2 x u c a h e S1.1.1 S1.1.2.1 S1.1.2.2.1 ((if cSub R (xs (i + 1)) (xs (i + 2)) (xs (i + 3)) (xs (i + 4)) = 0 then subm R (nn R) (xs (i + 1)) (xs (i + 2)) (xs (i + 3)) (xs (i + 4)) else R)) (nI ((if cSub R (xs (i + 1)) (xs (i + 2)) (xs (i + 3)) (xs (i + 4)) = 0 then pushN s else s))) (nI S1.1.2.2.2.1) S1.1.2.2.2.2 ++ [(o, .inl (g.2 3, 1, .inr (.inl S1.2)))]) ++ mW g.2 mb ((if cSub R (xs (i + 1)) (xs (i + 2)) (xs (i + 3)) (xs (i + 4)) = 0 then subm R (nn R) (xs (i + 1)) (xs (i + 2)) (xs (i + 3)) (xs (i + 4)) else R)) S2.1 S2.2) (by rw [List.append_nil]) ?_
  have hr3 : r3 = nI (cSub R (xs (i + 1)) (xs (i + 2)) (xs (i + 3)) (xs (i + 4))) := hp3.trans e1
  subst hr3
  refine z_il (pc := 221) hC 1 rfl dL_law_221 ?_
  refine z_iceq (pc := 223) hC 228 (by decide) dL_law_223 (fun _ => ?_) (fun q => absurd rfl q)
  refine z_il (pc := 228) hC 1 rfl dL_law_228 ?_
  refine z_ifne (pc := 230) hC 245 (by decide) dL_law_230 (fun q => ?_) (fun q => ?_)
  · have hc : ¬ cSub R (xs (i + 1)) (xs (i + 2)) (xs (i + 3)) (xs (i + 4)) = 0 := fun z => q (by rw [z]; rfl)
    refine z_goto (pc := 245) hC 1355 (by decide) dL_law_245 ?_
    refine z_lv [2, 3, 4, 5, 6] rfl ?_
    exact kk _ ⟨S1.1.1, S1.1.2.1, S1.1.2.2.1, R, s, S1.1.2.2.2.1, S1.1.2.2.2.2, H, t, Lt, S1.2, S2.1, S2.2, hG, hp1 hc, e3 hc, hH, by simp only [if_neg hc]; try rfl⟩
  · have hc : cSub R (xs (i + 1)) (xs (i + 2)) (xs (i + 3)) (xs (i + 4)) = 0 := (nI_eq (by omega) (by omega)).mp (q.trans nI_0.symm)
    refine z_aln (pc := 233) hC 6 rfl dL_law_233 ?_
    refine z_iconst (pc := 234) (v := nI 0) hC dL_law_234 (by decide) ?_
    refine z_lald (pc := 235) hC 141 rfl dL_law_235 0 rfl (by decide) (by decide) ?_
    refine z_il (pc := 236) hC 0 rfl dL_law_236 ?_
    refine z_i2l (pc := 238) (v := r2.toInt64) hC rfl dL_law_238 ?_
    refine z_lcmp0 (pc := 239) hC ((hp0 hc).2.trans (by rw [(e2 hc).2])) dL_law_239 ?_
    refine z_ifeq (pc := 240) hC 245 (by decide) dL_law_240 (fun _ => ?_) (fun q => absurd rfl q)
    refine z_goto (pc := 245) hC 1355 (by decide) dL_law_245 ?_
    refine z_lv [2, 3, 4, 5, 6] rfl ?_
    exact kk _ ⟨S1.1.1, S1.1.2.1, S1.1.2.2.1, (subm R (nn R) (xs (i + 1)) (xs (i + 2)) (xs (i + 3)) (xs (i + 4))), (pushN s), S1.1.2.2.2.1, S1.1.2.2.2.2, (pushH H s R), t, Lt, S1.2, S2.1, S2.2, gs_sub hG hc, (hp0 hc).1, (e2 hc).1, gs_push hG hH hX.2.2.2.1, by simp only [if_pos hc]; try rfl⟩

theorem wL_cancel : wM yL_cancel cL_cancel 4 [(0, 9, 12, 21), (0, 9, 15, 15)] 3 := ⟨in_aw 524 (by decide +kernel) (by decide +kernel), in_aw 37 (by decide +kernel) (by decide +kernel), in_aw 525 (by decide +kernel) (by decide +kernel), ⟨by decide, by decide, by decide +kernel⟩, by decide⟩
set_option maxRecDepth 100000 in
set_option maxHeartbeats 4000000 in
theorem lc_cancel {g : zG} {C : zC} {b L : Nat} {xs : Nat → Int32} {x : Nat} {u c a h : Nat → Nat} {e : Nat → Nat → Nat} {mb : Nat → Nat} {o : Nat} (hO : lOK g C b L xs) {i : Nat} (hi : i + 5 ≤ L) {k n : Nat} (hk : k + 1 ≤ 601024 ∧ n + 6 ≤ 7293034) {ws : va_W} (hI : lI g.2 x u c a h e mb o ws) (kk : ∀ ws', lI g.2 x u c a h e mb o ws' → Z g C (k + 1) (n + 6) ws' (lL b x (mb 0) o i) 1355 []) : Z g C k n ws (lL b x (mb 0) o i) 248 [] := by
  obtain ⟨Q, P, T, R, s, p, K, H, t, Lt, f, F, V, hG, hX, hM, hH, rfl⟩ := hI
  obtain ⟨hC, hm, hXs, hbl, hbA, h0, hZX, hNc, hL⟩ := id hO
  refine z_w (ws' := (xW g.2 x u c a h e Q P T R (nI s) (nI p) K ++ [(o, .inl (g.2 3, 1, .inr (.inl f)))]) ++ mW g.2 mb R F V) rfl ?_
  have hcd : cCan R (xs (i + 1)) ≤ 2 := by unfold cCan; (repeat' split) <;> omega
  refine z_aln (pc := 248) hC 2 rfl dL_law_248 ?_
  refine z_arg (pc := 249) hO 1 (by decide) (by omega) 0 1 rfl rfl dL_law_249 dL_law_250 dL_law_252 dL_law_253 dL_law_254 ?_
  refine z_aln (pc := 255) hC 4 rfl dL_law_255 ?_
  refine z_sw (pc := 256) (rest := []) (As := [.ref x, .int (xs (i + 1)), .ref o]) hC h0 hZX hNc wL_cancel lL_85 dL_law_256 (w_cancel hG hX) [] (mW g.2 mb R F V) rfl rfl rfl (Nat.le_of_ble_eq_true rfl) (Nat.le_of_ble_eq_true rfl) hk (fun r S1 hp => ?_)
  obtain ⟨hr, hp0, hp1⟩ := hp
  subst hr
  refine z_w (ws' := (xW g.2 x u c a h e S1.1.1 S1.1.2.1 S1.1.2.2.1 ((if cCan R (xs (i + 1)) = 0 then rCan R (ix (xs (i + 1))) else R)) (nI ((if cCan R (xs (i + 1)) = 0 then pushN s else s))) (nI S1.1.2.2.2.1) S1.1.2.2.2.2 ++ [(o, .inl (g.2 3, 1, .inr (.inl S1.2)))]) ++ mW g.2 mb R F V) rfl ?_
  refine z_is (pc := 259) (lv' := (5, .int (nI (cCan R (xs (i + 1))))) :: lL b x (mb 0) o i) hC hm (by decide) rfl dL_law_259 ?_
  refine z_aln (pc := 261) hC 4 rfl dL_law_261 ?_
  refine z_arg (pc := 262) hO 1 (by decide) (by omega) 1 2 rfl rfl dL_law_262 dL_law_263 dL_law_265 dL_law_266 dL_law_267 ?_
  refine z_vi (pc := 268) (rest := []) (As := [.int (xs (i + 1))]) hC vX6_cancel lL_88 dL_law_268 (m_cancel hG hM) (xW g.2 x u c a h e S1.1.1 S1.1.2.1 S1.1.2.2.1 ((if cCan R (xs (i + 1)) = 0 then rCan R (ix (xs (i + 1))) else R)) (nI ((if cCan R (xs (i + 1)) = 0 then pushN s else s))) (nI S1.1.2.2.2.1) S1.1.2.2.2.2 ++ [(o, .inl (g.2 3, 1, .inr (.inl S1.2)))]) [] (by rw [List.append_nil]) 0 6 rfl rfl rfl rfl rfl (Nat.le_of_ble_eq_true rfl) (Nat.le_of_ble_eq_true rfl) hk (fun r2 S2 hp2 => ?_)
  obtain ⟨e1, e2, e3⟩ := hp2
  refine z_w (ws' := (xW g.2 x u c a h e S1.1.1 S1.1.2.1 S1.1.2.2.1 ((if cCan R (xs (i + 1)) = 0 then rCan R (ix (xs (i + 1))) else R)) (nI ((if cCan R (xs (i + 1)) = 0 then pushN s else s))) (nI S1.1.2.2.2.1) S1.1.2.2.2.2 ++ [(o, .inl (g.2 3, 1, .inr (.inl S1.2)))]) ++ mW g.2 mb ((if cCan R (xs (i + 1)) = 0 then rCan R (ix (xs (i + 1))) else R)) S2.1 S2.2) (by rw [List.append_nil]) ?_
  refine z_is (pc := 271) (lv' := (6, .int r2) :: (5, .int (nI (cCan R (xs (i + 1))))) :: lL b x (mb 0) o i) hC hm (by decide) rfl dL_law_271 ?_
  refine z_aln (pc := 273) hC 5 rfl dL_law_273 ?_
  refine z_vi (pc := 274) (rest := []) (As := []) hC vX6_thrown lL_82 dL_law_274 (m_thrown (R := (if cCan R (xs (i + 1)) = 0 then rCan R (ix (xs (i + 1))) else R)) (F := S2.1) (V := S2.2)) (xW g.2 x u c a h e S1.1.1 S1.1.2.1 S1.1.2.2.1 ((if cCan R (xs (i + 1)) = 0 then rCan R (ix (xs (i + 1))) else R)) (nI ((if cCan R (xs (i + 1)) = 0 then pushN s else s))) (nI S1.1.2.2.2.1) S1.1.2.2.2.2 ++ [(o, .inl (g.2 3, 1, .inr (.inl S1.2)))]) [] (by rw [List.append_nil]) 0 6 rfl rfl rfl rfl rfl (Nat.le_of_ble_eq_true rfl) (Nat.le_of_ble_eq_true rfl) hk (fun r3 _ hp3 => ?_)
  refine z_w (ws' := (xW g.2 x u c a h e S1.1.1 S1.1.2.1 S1.1.2.2.1 ((if cCan R (xs (i + 1)) = 0 then rCan R (ix (xs (i + 1))) else R)) (nI ((if cCan R (xs (i + 1)) = 0 then pushN s else s))) (nI S1.1.2.2.2.1) S1.1.2.2.2.2 ++ [(o, .inl (g.2 3, 1, .inr (.inl S1.2)))]) ++ mW g.2 mb ((if cCan R (xs (i + 1)) = 0 then rCan R (ix (xs (i + 1))) else R)) S2.1 S2.2) (by rw [List.append_nil]) ?_
  have hr3 : r3 = nI (cCan R (xs (i + 1))) := hp3.trans e1
  subst hr3
  refine z_il (pc := 277) hC 1 rfl dL_law_277 ?_
  refine z_iceq (pc := 279) hC 284 (by decide) dL_law_279 (fun _ => ?_) (fun q => absurd rfl q)
  refine z_il (pc := 284) hC 1 rfl dL_law_284 ?_
  refine z_ifne (pc := 286) hC 301 (by decide) dL_law_286 (fun q => ?_) (fun q => ?_)
  · have hc : ¬ cCan R (xs (i + 1)) = 0 := fun z => q (by rw [z]; rfl)
    refine z_goto (pc := 301) hC 1355 (by decide) dL_law_301 ?_
    refine z_lv [2, 3, 4, 5, 6] rfl ?_
    exact kk _ ⟨S1.1.1, S1.1.2.1, S1.1.2.2.1, R, s, S1.1.2.2.2.1, S1.1.2.2.2.2, H, t, Lt, S1.2, S2.1, S2.2, hG, hp1 hc, e3 hc, hH, by simp only [if_neg hc]; try rfl⟩
  · have hc : cCan R (xs (i + 1)) = 0 := (nI_eq (by omega) (by omega)).mp (q.trans nI_0.symm)
    refine z_aln (pc := 289) hC 6 rfl dL_law_289 ?_
    refine z_iconst (pc := 290) (v := nI 0) hC dL_law_290 (by decide) ?_
    refine z_lald (pc := 291) hC 141 rfl dL_law_291 0 rfl (by decide) (by decide) ?_
    refine z_il (pc := 292) hC 0 rfl dL_law_292 ?_
    refine z_i2l (pc := 294) (v := r2.toInt64) hC rfl dL_law_294 ?_
    refine z_lcmp0 (pc := 295) hC ((hp0 hc).2.trans (by rw [(e2 hc).2])) dL_law_295 ?_
    refine z_ifeq (pc := 296) hC 301 (by decide) dL_law_296 (fun _ => ?_) (fun q => absurd rfl q)
    refine z_goto (pc := 301) hC 1355 (by decide) dL_law_301 ?_
    refine z_lv [2, 3, 4, 5, 6] rfl ?_
    exact kk _ ⟨S1.1.1, S1.1.2.1, S1.1.2.2.1, (rCan R (ix (xs (i + 1)))), (pushN s), S1.1.2.2.2.1, S1.1.2.2.2.2, (pushH H s R), t, Lt, S1.2, S2.1, S2.2, gs_can hG hc, (hp0 hc).1, (e2 hc).1, gs_push hG hH hX.2.2.2.1, by simp only [if_pos hc]; try rfl⟩

theorem wL_setSticker : wM yL_setSticker cL_setSticker 5 [(0, 10, 13, 21), (0, 10, 17, 13)] 4 := ⟨in_aw 561 (by decide +kernel) (by decide +kernel), in_aw 37 (by decide +kernel) (by decide +kernel), in_aw 562 (by decide +kernel) (by decide +kernel), ⟨by decide, by decide, by decide +kernel⟩, by decide⟩
set_option maxRecDepth 100000 in
set_option maxHeartbeats 4000000 in
theorem lc_setSticker {g : zG} {C : zC} {b L : Nat} {xs : Nat → Int32} {x : Nat} {u c a h : Nat → Nat} {e : Nat → Nat → Nat} {mb : Nat → Nat} {o : Nat} (hO : lOK g C b L xs) {i : Nat} (hi : i + 5 ≤ L) {k n : Nat} (hk : k + 1 ≤ 601024 ∧ n + 6 ≤ 7293034) {ws : va_W} (hI : lI g.2 x u c a h e mb o ws) (kk : ∀ ws', lI g.2 x u c a h e mb o ws' → Z g C (k + 1) (n + 6) ws' (lL b x (mb 0) o i) 1355 []) : Z g C k n ws (lL b x (mb 0) o i) 304 [] := by
  obtain ⟨Q, P, T, R, s, p, K, H, t, Lt, f, F, V, hG, hX, hM, hH, rfl⟩ := hI
  obtain ⟨hC, hm, hXs, hbl, hbA, h0, hZX, hNc, hL⟩ := id hO
  refine z_w (ws' := (xW g.2 x u c a h e Q P T R (nI s) (nI p) K ++ [(o, .inl (g.2 3, 1, .inr (.inl f)))]) ++ mW g.2 mb R F V) rfl ?_
  have hcd : cSti (xs (i + 1)) (xs (i + 2)) ≤ 2 := by unfold cSti; (repeat' split) <;> omega
  refine z_aln (pc := 304) hC 2 rfl dL_law_304 ?_
  refine z_arg (pc := 305) hO 1 (by decide) (by omega) 0 1 rfl rfl dL_law_305 dL_law_306 dL_law_308 dL_law_309 dL_law_310 ?_
  refine z_arg (pc := 311) hO 2 (by decide) (by omega) 0 1 rfl rfl dL_law_311 dL_law_312 dL_law_314 dL_law_315 dL_law_316 ?_
  refine z_aln (pc := 317) hC 4 rfl dL_law_317 ?_
  refine z_sw (pc := 318) (rest := []) (As := [.ref x, .int (xs (i + 1)), .int (xs (i + 2)), .ref o]) hC h0 hZX hNc wL_setSticker lL_89 dL_law_318 (w_setSticker hG hX) [] (mW g.2 mb R F V) rfl rfl rfl (Nat.le_of_ble_eq_true rfl) (Nat.le_of_ble_eq_true rfl) hk (fun r S1 hp => ?_)
  obtain ⟨hr, hp0, hp1⟩ := hp
  subst hr
  refine z_w (ws' := (xW g.2 x u c a h e S1.1.1 S1.1.2.1 S1.1.2.2.1 ((if cSti (xs (i + 1)) (xs (i + 2)) = 0 then setS R 1 (ix (xs (i + 1))) (xs (i + 2)) else R)) (nI ((if cSti (xs (i + 1)) (xs (i + 2)) = 0 then pushN s else s))) (nI S1.1.2.2.2.1) S1.1.2.2.2.2 ++ [(o, .inl (g.2 3, 1, .inr (.inl S1.2)))]) ++ mW g.2 mb R F V) rfl ?_
  refine z_is (pc := 321) (lv' := (5, .int (nI (cSti (xs (i + 1)) (xs (i + 2))))) :: lL b x (mb 0) o i) hC hm (by decide) rfl dL_law_321 ?_
  refine z_aln (pc := 323) hC 4 rfl dL_law_323 ?_
  refine z_arg (pc := 324) hO 1 (by decide) (by omega) 1 2 rfl rfl dL_law_324 dL_law_325 dL_law_327 dL_law_328 dL_law_329 ?_
  refine z_arg (pc := 330) hO 2 (by decide) (by omega) 1 2 rfl rfl dL_law_330 dL_law_331 dL_law_333 dL_law_334 dL_law_335 ?_
  refine z_vi (pc := 336) (rest := []) (As := [.int (xs (i + 1)), .int (xs (i + 2))]) hC vX6_setSticker lL_92 dL_law_336 (m_setSticker hG hM) (xW g.2 x u c a h e S1.1.1 S1.1.2.1 S1.1.2.2.1 ((if cSti (xs (i + 1)) (xs (i + 2)) = 0 then setS R 1 (ix (xs (i + 1))) (xs (i + 2)) else R)) (nI ((if cSti (xs (i + 1)) (xs (i + 2)) = 0 then pushN s else s))) (nI S1.1.2.2.2.1) S1.1.2.2.2.2 ++ [(o, .inl (g.2 3, 1, .inr (.inl S1.2)))]) [] (by rw [List.append_nil]) 0 6 rfl rfl rfl rfl rfl (Nat.le_of_ble_eq_true rfl) (Nat.le_of_ble_eq_true rfl) hk (fun r2 S2 hp2 => ?_)
  obtain ⟨e1, e2, e3⟩ := hp2
  refine z_w (ws' := (xW g.2 x u c a h e S1.1.1 S1.1.2.1 S1.1.2.2.1 ((if cSti (xs (i + 1)) (xs (i + 2)) = 0 then setS R 1 (ix (xs (i + 1))) (xs (i + 2)) else R)) (nI ((if cSti (xs (i + 1)) (xs (i + 2)) = 0 then pushN s else s))) (nI S1.1.2.2.2.1) S1.1.2.2.2.2 ++ [(o, .inl (g.2 3, 1, .inr (.inl S1.2)))]) ++ mW g.2 mb ((if cSti (xs (i + 1)) (xs (i + 2)) = 0 then setS R 1 (ix (xs (i + 1))) (xs (i + 2)) else R)) S2.1 S2.2) (by rw [List.append_nil]) ?_
  refine z_is (pc := 339) (lv' := (6, .int r2) :: (5, .int (nI (cSti (xs (i + 1)) (xs (i + 2))))) :: lL b x (mb 0) o i) hC hm (by decide) rfl dL_law_339 ?_
  refine z_aln (pc := 341) hC 5 rfl dL_law_341 ?_
  refine z_vi (pc := 342) (rest := []) (As := []) hC vX6_thrown lL_82 dL_law_342 (m_thrown (R := (if cSti (xs (i + 1)) (xs (i + 2)) = 0 then setS R 1 (ix (xs (i + 1))) (xs (i + 2)) else R)) (F := S2.1) (V := S2.2)) (xW g.2 x u c a h e S1.1.1 S1.1.2.1 S1.1.2.2.1 ((if cSti (xs (i + 1)) (xs (i + 2)) = 0 then setS R 1 (ix (xs (i + 1))) (xs (i + 2)) else R)) (nI ((if cSti (xs (i + 1)) (xs (i + 2)) = 0 then pushN s else s))) (nI S1.1.2.2.2.1) S1.1.2.2.2.2 ++ [(o, .inl (g.2 3, 1, .inr (.inl S1.2)))]) [] (by rw [List.append_nil]) 0 6 rfl rfl rfl rfl rfl (Nat.le_of_ble_eq_true rfl) (Nat.le_of_ble_eq_true rfl) hk (fun r3 _ hp3 => ?_)
  refine z_w (ws' := (xW g.2 x u c a h e S1.1.1 S1.1.2.1 S1.1.2.2.1 ((if cSti (xs (i + 1)) (xs (i + 2)) = 0 then setS R 1 (ix (xs (i + 1))) (xs (i + 2)) else R)) (nI ((if cSti (xs (i + 1)) (xs (i + 2)) = 0 then pushN s else s))) (nI S1.1.2.2.2.1) S1.1.2.2.2.2 ++ [(o, .inl (g.2 3, 1, .inr (.inl S1.2)))]) ++ mW g.2 mb ((if cSti (xs (i + 1)) (xs (i + 2)) = 0 then setS R 1 (ix (xs (i + 1))) (xs (i + 2)) else R)) S2.1 S2.2) (by rw [List.append_nil]) ?_
  have hr3 : r3 = nI (cSti (xs (i + 1)) (xs (i + 2))) := hp3.trans e1
  subst hr3
  refine z_il (pc := 345) hC 1 rfl dL_law_345 ?_
  refine z_iceq (pc := 347) hC 352 (by decide) dL_law_347 (fun _ => ?_) (fun q => absurd rfl q)
  refine z_il (pc := 352) hC 1 rfl dL_law_352 ?_
  refine z_ifne (pc := 354) hC 369 (by decide) dL_law_354 (fun q => ?_) (fun q => ?_)
  · have hc : ¬ cSti (xs (i + 1)) (xs (i + 2)) = 0 := fun z => q (by rw [z]; rfl)
    refine z_goto (pc := 369) hC 1355 (by decide) dL_law_369 ?_
    refine z_lv [2, 3, 4, 5, 6] rfl ?_
    exact kk _ ⟨S1.1.1, S1.1.2.1, S1.1.2.2.1, R, s, S1.1.2.2.2.1, S1.1.2.2.2.2, H, t, Lt, S1.2, S2.1, S2.2, hG, hp1 hc, e3 hc, hH, by simp only [if_neg hc]; try rfl⟩
  · have hc : cSti (xs (i + 1)) (xs (i + 2)) = 0 := (nI_eq (by omega) (by omega)).mp (q.trans nI_0.symm)
    refine z_aln (pc := 357) hC 6 rfl dL_law_357 ?_
    refine z_iconst (pc := 358) (v := nI 0) hC dL_law_358 (by decide) ?_
    refine z_lald (pc := 359) hC 141 rfl dL_law_359 0 rfl (by decide) (by decide) ?_
    refine z_il (pc := 360) hC 0 rfl dL_law_360 ?_
    refine z_i2l (pc := 362) (v := r2.toInt64) hC rfl dL_law_362 ?_
    refine z_lcmp0 (pc := 363) hC ((hp0 hc).2.trans (by rw [(e2 hc).2])) dL_law_363 ?_
    refine z_ifeq (pc := 364) hC 369 (by decide) dL_law_364 (fun _ => ?_) (fun q => absurd rfl q)
    refine z_goto (pc := 369) hC 1355 (by decide) dL_law_369 ?_
    refine z_lv [2, 3, 4, 5, 6] rfl ?_
    exact kk _ ⟨S1.1.1, S1.1.2.1, S1.1.2.2.1, (setS R 1 (ix (xs (i + 1))) (xs (i + 2))), (pushN s), S1.1.2.2.2.1, S1.1.2.2.2.2, (pushH H s R), t, Lt, S1.2, S2.1, S2.2, gr_1 hG, (hp0 hc).1, (e2 hc).1, gs_push hG hH hX.2.2.2.1, by simp only [if_pos hc]; try rfl⟩

theorem wL_setRing : wM yL_setRing cL_setRing 5 [(0, 17, 20, 21), (0, 17, 24, 15)] 4 := ⟨in_aw 571 (by decide +kernel) (by decide +kernel), in_aw 37 (by decide +kernel) (by decide +kernel), in_aw 572 (by decide +kernel) (by decide +kernel), ⟨by decide, by decide, by decide +kernel⟩, by decide⟩
set_option maxRecDepth 100000 in
set_option maxHeartbeats 4000000 in
theorem lc_setRing {g : zG} {C : zC} {b L : Nat} {xs : Nat → Int32} {x : Nat} {u c a h : Nat → Nat} {e : Nat → Nat → Nat} {mb : Nat → Nat} {o : Nat} (hO : lOK g C b L xs) {i : Nat} (hi : i + 5 ≤ L) {k n : Nat} (hk : k + 1 ≤ 601024 ∧ n + 6 ≤ 7293034) {ws : va_W} (hI : lI g.2 x u c a h e mb o ws) (kk : ∀ ws', lI g.2 x u c a h e mb o ws' → Z g C (k + 1) (n + 6) ws' (lL b x (mb 0) o i) 1355 []) : Z g C k n ws (lL b x (mb 0) o i) 372 [] := by
  obtain ⟨Q, P, T, R, s, p, K, H, t, Lt, f, F, V, hG, hX, hM, hH, rfl⟩ := hI
  obtain ⟨hC, hm, hXs, hbl, hbA, h0, hZX, hNc, hL⟩ := id hO
  refine z_w (ws' := (xW g.2 x u c a h e Q P T R (nI s) (nI p) K ++ [(o, .inl (g.2 3, 1, .inr (.inl f)))]) ++ mW g.2 mb R F V) rfl ?_
  have hcd : cRing R (xs (i + 1)) ≤ 2 := by unfold cRing; (repeat' split) <;> omega
  refine z_aln (pc := 372) hC 2 rfl dL_law_372 ?_
  refine z_arg (pc := 373) hO 1 (by decide) (by omega) 0 1 rfl rfl dL_law_373 dL_law_374 dL_law_376 dL_law_377 dL_law_378 ?_
  refine z_arg (pc := 379) hO 2 (by decide) (by omega) 0 1 rfl rfl dL_law_379 dL_law_380 dL_law_382 dL_law_383 dL_law_384 ?_
  suffices J385 : Z g C k n ((xW g.2 x u c a h e Q P T R (nI s) (nI p) K ++ [(o, .inl (g.2 3, 1, .inr (.inl f)))]) ++ mW g.2 mb R F V) (lL b x (mb 0) o i) 393 [.int (bz (xs (i + 2))), .int (xs (i + 1)), .ref x] by
    refine z_ifeq (pc := 385) hC 392 (by decide) dL_law_385 (fun q => ?_) (fun q => ?_)
    · refine z_iconst (pc := 392) (v := bz (xs (i + 2))) hC dL_law_392 (by rw [bz_t q]; decide) ?_
      exact J385
    · refine z_iconst (pc := 388) (v := bz (xs (i + 2))) hC dL_law_388 (by rw [bz_f q]; decide) ?_
      refine z_goto (pc := 389) hC 393 (by decide) dL_law_389 ?_
      exact J385
  refine z_aln (pc := 393) hC 4 rfl dL_law_393 ?_
  refine z_sw (pc := 394) (rest := []) (As := [.ref x, .int (xs (i + 1)), .int (bz (xs (i + 2))), .ref o]) hC h0 hZX hNc wL_setRing lL_93 dL_law_394 (w_setRing hG hX bz_01) [] (mW g.2 mb R F V) rfl rfl rfl (Nat.le_of_ble_eq_true rfl) (Nat.le_of_ble_eq_true rfl) hk (fun r S1 hp => ?_)
  obtain ⟨hr, hp0, hp1⟩ := hp
  subst hr
  refine z_w (ws' := (xW g.2 x u c a h e S1.1.1 S1.1.2.1 S1.1.2.2.1 ((if cRing R (xs (i + 1)) = 0 then setS R 2 (ix (xs (i + 1))) (bz (xs (i + 2))) else R)) (nI ((if cRing R (xs (i + 1)) = 0 then pushN s else s))) (nI S1.1.2.2.2.1) S1.1.2.2.2.2 ++ [(o, .inl (g.2 3, 1, .inr (.inl S1.2)))]) ++ mW g.2 mb R F V) rfl ?_
  refine z_is (pc := 397) (lv' := (5, .int (nI (cRing R (xs (i + 1))))) :: lL b x (mb 0) o i) hC hm (by decide) rfl dL_law_397 ?_
  refine z_aln (pc := 399) hC 4 rfl dL_law_399 ?_
  refine z_arg (pc := 400) hO 1 (by decide) (by omega) 1 2 rfl rfl dL_law_400 dL_law_401 dL_law_403 dL_law_404 dL_law_405 ?_
  refine z_arg (pc := 406) hO 2 (by decide) (by omega) 1 2 rfl rfl dL_law_406 dL_law_407 dL_law_409 dL_law_410 dL_law_411 ?_
  suffices J412 : Z g C (k + 1) (n + 6) ((xW g.2 x u c a h e S1.1.1 S1.1.2.1 S1.1.2.2.1 ((if cRing R (xs (i + 1)) = 0 then setS R 2 (ix (xs (i + 1))) (bz (xs (i + 2))) else R)) (nI ((if cRing R (xs (i + 1)) = 0 then pushN s else s))) (nI S1.1.2.2.2.1) S1.1.2.2.2.2 ++ [(o, .inl (g.2 3, 1, .inr (.inl S1.2)))]) ++ mW g.2 mb R F V) ((5, .int (nI (cRing R (xs (i + 1))))) :: lL b x (mb 0) o i) 420 [.int (bz (xs (i + 2))), .int (xs (i + 1)), .ref (mb 0)] by
    refine z_ifeq (pc := 412) hC 419 (by decide) dL_law_412 (fun q => ?_) (fun q => ?_)
    · refine z_iconst (pc := 419) (v := bz (xs (i + 2))) hC dL_law_419 (by rw [bz_t q]; decide) ?_
      exact J412
    · refine z_iconst (pc := 415) (v := bz (xs (i + 2))) hC dL_law_415 (by rw [bz_f q]; decide) ?_
      refine z_goto (pc := 416) hC 420 (by decide) dL_law_416 ?_
      exact J412
  refine z_vi (pc := 420) (rest := []) (As := [.int (xs (i + 1)), .int (bz (xs (i + 2)))]) hC vX6_setRing lL_96 dL_law_420 (m_setRing hG hM bz_01) (xW g.2 x u c a h e S1.1.1 S1.1.2.1 S1.1.2.2.1 ((if cRing R (xs (i + 1)) = 0 then setS R 2 (ix (xs (i + 1))) (bz (xs (i + 2))) else R)) (nI ((if cRing R (xs (i + 1)) = 0 then pushN s else s))) (nI S1.1.2.2.2.1) S1.1.2.2.2.2 ++ [(o, .inl (g.2 3, 1, .inr (.inl S1.2)))]) [] (by rw [List.append_nil]) 0 6 rfl rfl rfl rfl rfl (Nat.le_of_ble_eq_true rfl) (Nat.le_of_ble_eq_true rfl) hk (fun r2 S2 hp2 => ?_)
  obtain ⟨e1, e2, e3⟩ := hp2
  refine z_w (ws' := (xW g.2 x u c a h e S1.1.1 S1.1.2.1 S1.1.2.2.1 ((if cRing R (xs (i + 1)) = 0 then setS R 2 (ix (xs (i + 1))) (bz (xs (i + 2))) else R)) (nI ((if cRing R (xs (i + 1)) = 0 then pushN s else s))) (nI S1.1.2.2.2.1) S1.1.2.2.2.2 ++ [(o, .inl (g.2 3, 1, .inr (.inl S1.2)))]) ++ mW g.2 mb ((if cRing R (xs (i + 1)) = 0 then setS R 2 (ix (xs (i + 1))) (bz (xs (i + 2))) else R)) S2.1 S2.2) (by rw [List.append_nil]) ?_
  refine z_is (pc := 423) (lv' := (6, .int r2) :: (5, .int (nI (cRing R (xs (i + 1))))) :: lL b x (mb 0) o i) hC hm (by decide) rfl dL_law_423 ?_
  refine z_aln (pc := 425) hC 5 rfl dL_law_425 ?_
  refine z_vi (pc := 426) (rest := []) (As := []) hC vX6_thrown lL_82 dL_law_426 (m_thrown (R := (if cRing R (xs (i + 1)) = 0 then setS R 2 (ix (xs (i + 1))) (bz (xs (i + 2))) else R)) (F := S2.1) (V := S2.2)) (xW g.2 x u c a h e S1.1.1 S1.1.2.1 S1.1.2.2.1 ((if cRing R (xs (i + 1)) = 0 then setS R 2 (ix (xs (i + 1))) (bz (xs (i + 2))) else R)) (nI ((if cRing R (xs (i + 1)) = 0 then pushN s else s))) (nI S1.1.2.2.2.1) S1.1.2.2.2.2 ++ [(o, .inl (g.2 3, 1, .inr (.inl S1.2)))]) [] (by rw [List.append_nil]) 0 6 rfl rfl rfl rfl rfl (Nat.le_of_ble_eq_true rfl) (Nat.le_of_ble_eq_true rfl) hk (fun r3 _ hp3 => ?_)
  refine z_w (ws' := (xW g.2 x u c a h e S1.1.1 S1.1.2.1 S1.1.2.2.1 ((if cRing R (xs (i + 1)) = 0 then setS R 2 (ix (xs (i + 1))) (bz (xs (i + 2))) else R)) (nI ((if cRing R (xs (i + 1)) = 0 then pushN s else s))) (nI S1.1.2.2.2.1) S1.1.2.2.2.2 ++ [(o, .inl (g.2 3, 1, .inr (.inl S1.2)))]) ++ mW g.2 mb ((if cRing R (xs (i + 1)) = 0 then setS R 2 (ix (xs (i + 1))) (bz (xs (i + 2))) else R)) S2.1 S2.2) (by rw [List.append_nil]) ?_
  have hr3 : r3 = nI (cRing R (xs (i + 1))) := hp3.trans e1
  subst hr3
  refine z_il (pc := 429) hC 1 rfl dL_law_429 ?_
  refine z_iceq (pc := 431) hC 436 (by decide) dL_law_431 (fun _ => ?_) (fun q => absurd rfl q)
  refine z_il (pc := 436) hC 1 rfl dL_law_436 ?_
  refine z_ifne (pc := 438) hC 460 (by decide) dL_law_438 (fun q => ?_) (fun q => ?_)
  · have hc : ¬ cRing R (xs (i + 1)) = 0 := fun z => q (by rw [z]; rfl)
    refine z_goto (pc := 460) hC 1355 (by decide) dL_law_460 ?_
    refine z_lv [2, 3, 4, 5, 6] rfl ?_
    exact kk _ ⟨S1.1.1, S1.1.2.1, S1.1.2.2.1, R, s, S1.1.2.2.2.1, S1.1.2.2.2.2, H, t, Lt, S1.2, S2.1, S2.2, hG, hp1 hc, e3 hc, hH, by simp only [if_neg hc]; try rfl⟩
  · have hc : cRing R (xs (i + 1)) = 0 := (nI_eq (by omega) (by omega)).mp (q.trans nI_0.symm)
    refine z_aln (pc := 441) hC 6 rfl dL_law_441 ?_
    refine z_iconst (pc := 442) (v := nI 0) hC dL_law_442 (by decide) ?_
    refine z_lald (pc := 443) hC 141 rfl dL_law_443 0 rfl (by decide) (by decide) ?_
    refine z_il (pc := 444) hC 0 rfl dL_law_444 ?_
    have hv := (e2 hc).2
    refine z_ifeq (pc := 446) hC 453 (by decide) dL_law_446 (fun q1 => ?_) (fun q1 => ?_)
    · refine z_lconst (pc := 453) (v := 0) hC dL_law_453 (by decide) ?_
      refine z_lcmp0 (pc := 454) hC ((hp0 hc).2.trans (by rw [← hv, q1]; rfl)) dL_law_454 ?_
      refine z_ifeq (pc := 455) hC 460 (by decide) dL_law_455 (fun _ => ?_) (fun q => absurd rfl q)
      refine z_goto (pc := 460) hC 1355 (by decide) dL_law_460 ?_
      refine z_lv [2, 3, 4, 5, 6] rfl ?_
      exact kk _ ⟨S1.1.1, S1.1.2.1, S1.1.2.2.1, (setS R 2 (ix (xs (i + 1))) (bz (xs (i + 2)))), (pushN s), S1.1.2.2.2.1, S1.1.2.2.2.2, (pushH H s R), t, Lt, S1.2, S2.1, S2.2, gr_2 bz_01 hG, (hp0 hc).1, (e2 hc).1, gs_push hG hH hX.2.2.2.1, by simp only [if_pos hc]; try rfl⟩
    · have hr1 : r2 = 1 := ((show r2 = 0 ∨ r2 = 1 by rw [hv]; exact ring_01 hG hc).resolve_left q1)
      refine z_lconst (pc := 449) (v := 1) hC dL_law_449 (by decide) ?_
      refine z_goto (pc := 450) hC 454 (by decide) dL_law_450 ?_
      refine z_lcmp0 (pc := 454) hC ((hp0 hc).2.trans (by rw [← hv, hr1]; rfl)) dL_law_454 ?_
      refine z_ifeq (pc := 455) hC 460 (by decide) dL_law_455 (fun _ => ?_) (fun q => absurd rfl q)
      refine z_goto (pc := 460) hC 1355 (by decide) dL_law_460 ?_
      refine z_lv [2, 3, 4, 5, 6] rfl ?_
      exact kk _ ⟨S1.1.1, S1.1.2.1, S1.1.2.2.1, (setS R 2 (ix (xs (i + 1))) (bz (xs (i + 2)))), (pushN s), S1.1.2.2.2.1, S1.1.2.2.2.2, (pushH H s R), t, Lt, S1.2, S2.1, S2.2, gr_2 bz_01 hG, (hp0 hc).1, (e2 hc).1, gs_push hG hH hX.2.2.2.1, by simp only [if_pos hc]; try rfl⟩

theorem wL_pass : wM yL_pass cL_pass 4 [(0, 9, 12, 13)] 3 := ⟨in_aw 579 (by decide +kernel) (by decide +kernel), in_aw 37 (by decide +kernel) (by decide +kernel), in_aw 580 (by decide +kernel) (by decide +kernel), ⟨by decide, by decide, by decide +kernel⟩, by decide⟩
set_option maxRecDepth 100000 in
set_option maxHeartbeats 4000000 in
theorem lc_pass {g : zG} {C : zC} {b L : Nat} {xs : Nat → Int32} {x : Nat} {u c a h : Nat → Nat} {e : Nat → Nat → Nat} {mb : Nat → Nat} {o : Nat} (hO : lOK g C b L xs) {i : Nat} (hi : i + 5 ≤ L) {k n : Nat} (hk : k + 1 ≤ 601024 ∧ n + 6 ≤ 7293034) {ws : va_W} (hI : lI g.2 x u c a h e mb o ws) (kk : ∀ ws', lI g.2 x u c a h e mb o ws' → Z g C (k + 1) (n + 6) ws' (lL b x (mb 0) o i) 1355 []) : Z g C k n ws (lL b x (mb 0) o i) 463 [] := by
  obtain ⟨Q, P, T, R, s, p, K, H, t, Lt, f, F, V, hG, hX, hM, hH, rfl⟩ := hI
  obtain ⟨hC, hm, hXs, hbl, hbA, h0, hZX, hNc, hL⟩ := id hO
  refine z_w (ws' := (xW g.2 x u c a h e Q P T R (nI s) (nI p) K ++ [(o, .inl (g.2 3, 1, .inr (.inl f)))]) ++ mW g.2 mb R F V) rfl ?_
  have hcd : cPass (xs (i + 1)) ≤ 2 := by unfold cPass; (repeat' split) <;> omega
  refine z_aln (pc := 463) hC 2 rfl dL_law_463 ?_
  refine z_arg (pc := 464) hO 1 (by decide) (by omega) 0 1 rfl rfl dL_law_464 dL_law_465 dL_law_467 dL_law_468 dL_law_469 ?_
  refine z_aln (pc := 470) hC 4 rfl dL_law_470 ?_
  refine z_sw (pc := 471) (rest := []) (As := [.ref x, .int (xs (i + 1)), .ref o]) hC h0 hZX hNc wL_pass lL_97 dL_law_471 (w_pass hG hX) [] (mW g.2 mb R F V) rfl rfl rfl (Nat.le_of_ble_eq_true rfl) (Nat.le_of_ble_eq_true rfl) hk (fun r S1 hp => ?_)
  obtain ⟨hr, hp0, hp1⟩ := hp
  subst hr
  refine z_w (ws' := (xW g.2 x u c a h e S1.1.1 S1.1.2.1 S1.1.2.2.1 ((if cPass (xs (i + 1)) = 0 then (pas (nn R) (ix (xs (i + 1))) (R, 0)).1 else R)) (nI ((if cPass (xs (i + 1)) = 0 then pushN s else s))) (nI S1.1.2.2.2.1) S1.1.2.2.2.2 ++ [(o, .inl (g.2 3, 1, .inr (.inl S1.2)))]) ++ mW g.2 mb R F V) rfl ?_
  refine z_is (pc := 474) (lv' := (5, .int (nI (cPass (xs (i + 1))))) :: lL b x (mb 0) o i) hC hm (by decide) rfl dL_law_474 ?_
  refine z_aln (pc := 476) hC 4 rfl dL_law_476 ?_
  refine z_arg (pc := 477) hO 1 (by decide) (by omega) 1 2 rfl rfl dL_law_477 dL_law_478 dL_law_480 dL_law_481 dL_law_482 ?_
  refine z_vi (pc := 483) (rest := []) (As := [.int (xs (i + 1))]) hC vX6_pass lL_99 dL_law_483 (m_pass hG hM) (xW g.2 x u c a h e S1.1.1 S1.1.2.1 S1.1.2.2.1 ((if cPass (xs (i + 1)) = 0 then (pas (nn R) (ix (xs (i + 1))) (R, 0)).1 else R)) (nI ((if cPass (xs (i + 1)) = 0 then pushN s else s))) (nI S1.1.2.2.2.1) S1.1.2.2.2.2 ++ [(o, .inl (g.2 3, 1, .inr (.inl S1.2)))]) [] (by rw [List.append_nil]) 0 6 rfl rfl rfl rfl rfl (Nat.le_of_ble_eq_true rfl) (Nat.le_of_ble_eq_true rfl) hk (fun r2 S2 hp2 => ?_)
  obtain ⟨e1, e2, e3⟩ := hp2
  refine z_w (ws' := (xW g.2 x u c a h e S1.1.1 S1.1.2.1 S1.1.2.2.1 ((if cPass (xs (i + 1)) = 0 then (pas (nn R) (ix (xs (i + 1))) (R, 0)).1 else R)) (nI ((if cPass (xs (i + 1)) = 0 then pushN s else s))) (nI S1.1.2.2.2.1) S1.1.2.2.2.2 ++ [(o, .inl (g.2 3, 1, .inr (.inl S1.2)))]) ++ mW g.2 mb ((if cPass (xs (i + 1)) = 0 then (pas (nn R) (ix (xs (i + 1))) (R, 0)).1 else R)) S2.1 S2.2) (by rw [List.append_nil]) ?_
  refine z_is (pc := 486) (lv' := (6, .int r2) :: (5, .int (nI (cPass (xs (i + 1))))) :: lL b x (mb 0) o i) hC hm (by decide) rfl dL_law_486 ?_
  refine z_aln (pc := 488) hC 5 rfl dL_law_488 ?_
  refine z_vi (pc := 489) (rest := []) (As := []) hC vX6_thrown lL_82 dL_law_489 (m_thrown (R := (if cPass (xs (i + 1)) = 0 then (pas (nn R) (ix (xs (i + 1))) (R, 0)).1 else R)) (F := S2.1) (V := S2.2)) (xW g.2 x u c a h e S1.1.1 S1.1.2.1 S1.1.2.2.1 ((if cPass (xs (i + 1)) = 0 then (pas (nn R) (ix (xs (i + 1))) (R, 0)).1 else R)) (nI ((if cPass (xs (i + 1)) = 0 then pushN s else s))) (nI S1.1.2.2.2.1) S1.1.2.2.2.2 ++ [(o, .inl (g.2 3, 1, .inr (.inl S1.2)))]) [] (by rw [List.append_nil]) 0 6 rfl rfl rfl rfl rfl (Nat.le_of_ble_eq_true rfl) (Nat.le_of_ble_eq_true rfl) hk (fun r3 _ hp3 => ?_)
  refine z_w (ws' := (xW g.2 x u c a h e S1.1.1 S1.1.2.1 S1.1.2.2.1 ((if cPass (xs (i + 1)) = 0 then (pas (nn R) (ix (xs (i + 1))) (R, 0)).1 else R)) (nI ((if cPass (xs (i + 1)) = 0 then pushN s else s))) (nI S1.1.2.2.2.1) S1.1.2.2.2.2 ++ [(o, .inl (g.2 3, 1, .inr (.inl S1.2)))]) ++ mW g.2 mb ((if cPass (xs (i + 1)) = 0 then (pas (nn R) (ix (xs (i + 1))) (R, 0)).1 else R)) S2.1 S2.2) (by rw [List.append_nil]) ?_
  have hr3 : r3 = nI (cPass (xs (i + 1))) := hp3.trans e1
  subst hr3
  refine z_il (pc := 492) hC 1 rfl dL_law_492 ?_
  refine z_iceq (pc := 494) hC 499 (by decide) dL_law_494 (fun _ => ?_) (fun q => absurd rfl q)
  refine z_il (pc := 499) hC 1 rfl dL_law_499 ?_
  refine z_ifne (pc := 501) hC 516 (by decide) dL_law_501 (fun q => ?_) (fun q => ?_)
  · have hc : ¬ cPass (xs (i + 1)) = 0 := fun z => q (by rw [z]; rfl)
    refine z_goto (pc := 516) hC 1355 (by decide) dL_law_516 ?_
    refine z_lv [2, 3, 4, 5, 6] rfl ?_
    exact kk _ ⟨S1.1.1, S1.1.2.1, S1.1.2.2.1, R, s, S1.1.2.2.2.1, S1.1.2.2.2.2, H, t, Lt, S1.2, S2.1, S2.2, hG, hp1 hc, e3 hc, hH, by simp only [if_neg hc]; try rfl⟩
  · have hc : cPass (xs (i + 1)) = 0 := (nI_eq (by omega) (by omega)).mp (q.trans nI_0.symm)
    refine z_aln (pc := 504) hC 6 rfl dL_law_504 ?_
    refine z_iconst (pc := 505) (v := nI 0) hC dL_law_505 (by decide) ?_
    refine z_lald (pc := 506) hC 141 rfl dL_law_506 0 rfl (by decide) (by decide) ?_
    refine z_il (pc := 507) hC 0 rfl dL_law_507 ?_
    refine z_i2l (pc := 509) (v := r2.toInt64) hC rfl dL_law_509 ?_
    refine z_lcmp0 (pc := 510) hC ((hp0 hc).2.trans (by rw [(e2 hc).2])) dL_law_510 ?_
    refine z_ifeq (pc := 511) hC 516 (by decide) dL_law_511 (fun _ => ?_) (fun q => absurd rfl q)
    refine z_goto (pc := 516) hC 1355 (by decide) dL_law_516 ?_
    refine z_lv [2, 3, 4, 5, 6] rfl ?_
    exact kk _ ⟨S1.1.1, S1.1.2.1, S1.1.2.2.1, ((pas (nn R) (ix (xs (i + 1))) (R, 0)).1), (pushN s), S1.1.2.2.2.1, S1.1.2.2.2.2, (pushH H s R), t, Lt, S1.2, S2.1, S2.2, gr_pas hG, (hp0 hc).1, (e2 hc).1, gs_push hG hH hX.2.2.2.1, by simp only [if_pos hc]; try rfl⟩

theorem wL_nextDay : wM yL_nextDay cL_nextDay 3 [(0, 8, 11, 15)] 2 := ⟨in_aw 628 (by decide +kernel) (by decide +kernel), in_aw 37 (by decide +kernel) (by decide +kernel), in_aw 629 (by decide +kernel) (by decide +kernel), ⟨by decide, by decide, by decide +kernel⟩, by decide⟩
set_option maxRecDepth 100000 in
set_option maxHeartbeats 4000000 in
theorem lc_nextDay {g : zG} {C : zC} {b L : Nat} {xs : Nat → Int32} {x : Nat} {u c a h : Nat → Nat} {e : Nat → Nat → Nat} {mb : Nat → Nat} {o : Nat} (hO : lOK g C b L xs) {i : Nat} (hi : i + 5 ≤ L) {k n : Nat} (hk : k + 1 ≤ 601024 ∧ n + 6 ≤ 7293034) {ws : va_W} (hI : lI g.2 x u c a h e mb o ws) (kk : ∀ ws', lI g.2 x u c a h e mb o ws' → Z g C (k + 1) (n + 6) ws' (lL b x (mb 0) o i) 1355 []) : Z g C k n ws (lL b x (mb 0) o i) 519 [] := by
  obtain ⟨Q, P, T, R, s, p, K, H, t, Lt, f, F, V, hG, hX, hM, hH, rfl⟩ := hI
  obtain ⟨hC, hm, hXs, hbl, hbA, h0, hZX, hNc, hL⟩ := id hO
  refine z_w (ws' := (xW g.2 x u c a h e Q P T R (nI s) (nI p) K ++ [(o, .inl (g.2 3, 1, .inr (.inl f)))]) ++ mW g.2 mb R F V) rfl ?_
  have hcd : cDay R ≤ 2 := by unfold cDay; (repeat' split) <;> omega
  refine z_aln (pc := 519) hC 2 rfl dL_law_519 ?_
  refine z_aln (pc := 520) hC 4 rfl dL_law_520 ?_
  refine z_sw (pc := 521) (rest := []) (As := [.ref x, .ref o]) hC h0 hZX hNc wL_nextDay lL_100 dL_law_521 (w_nextDay hG hX) [] (mW g.2 mb R F V) rfl rfl rfl (Nat.le_of_ble_eq_true rfl) (Nat.le_of_ble_eq_true rfl) hk (fun r S1 hp => ?_)
  obtain ⟨hr, hp0, hp1⟩ := hp
  subst hr
  refine z_w (ws' := (xW g.2 x u c a h e S1.1.1 S1.1.2.1 S1.1.2.2.1 ((if cDay R = 0 then setS R 14 0 (R 14 0 + 1) else R)) (nI ((if cDay R = 0 then pushN s else s))) (nI S1.1.2.2.2.1) S1.1.2.2.2.2 ++ [(o, .inl (g.2 3, 1, .inr (.inl S1.2)))]) ++ mW g.2 mb R F V) rfl ?_
  refine z_is (pc := 524) (lv' := (5, .int (nI (cDay R))) :: lL b x (mb 0) o i) hC hm (by decide) rfl dL_law_524 ?_
  refine z_aln (pc := 526) hC 4 rfl dL_law_526 ?_
  refine z_vi (pc := 527) (rest := []) (As := []) hC vX6_nextDay lL_103 dL_law_527 (m_nextDay hG hM) (xW g.2 x u c a h e S1.1.1 S1.1.2.1 S1.1.2.2.1 ((if cDay R = 0 then setS R 14 0 (R 14 0 + 1) else R)) (nI ((if cDay R = 0 then pushN s else s))) (nI S1.1.2.2.2.1) S1.1.2.2.2.2 ++ [(o, .inl (g.2 3, 1, .inr (.inl S1.2)))]) [] (by rw [List.append_nil]) 0 6 rfl rfl rfl rfl rfl (Nat.le_of_ble_eq_true rfl) (Nat.le_of_ble_eq_true rfl) hk (fun r2 S2 hp2 => ?_)
  obtain ⟨e1, e2, e3⟩ := hp2
  refine z_w (ws' := (xW g.2 x u c a h e S1.1.1 S1.1.2.1 S1.1.2.2.1 ((if cDay R = 0 then setS R 14 0 (R 14 0 + 1) else R)) (nI ((if cDay R = 0 then pushN s else s))) (nI S1.1.2.2.2.1) S1.1.2.2.2.2 ++ [(o, .inl (g.2 3, 1, .inr (.inl S1.2)))]) ++ mW g.2 mb ((if cDay R = 0 then setS R 14 0 (R 14 0 + 1) else R)) S2.1 S2.2) (by rw [List.append_nil]) ?_
  refine z_is (pc := 530) (lv' := (6, .int r2) :: (5, .int (nI (cDay R))) :: lL b x (mb 0) o i) hC hm (by decide) rfl dL_law_530 ?_
  refine z_aln (pc := 532) hC 5 rfl dL_law_532 ?_
  refine z_vi (pc := 533) (rest := []) (As := []) hC vX6_thrown lL_82 dL_law_533 (m_thrown (R := (if cDay R = 0 then setS R 14 0 (R 14 0 + 1) else R)) (F := S2.1) (V := S2.2)) (xW g.2 x u c a h e S1.1.1 S1.1.2.1 S1.1.2.2.1 ((if cDay R = 0 then setS R 14 0 (R 14 0 + 1) else R)) (nI ((if cDay R = 0 then pushN s else s))) (nI S1.1.2.2.2.1) S1.1.2.2.2.2 ++ [(o, .inl (g.2 3, 1, .inr (.inl S1.2)))]) [] (by rw [List.append_nil]) 0 6 rfl rfl rfl rfl rfl (Nat.le_of_ble_eq_true rfl) (Nat.le_of_ble_eq_true rfl) hk (fun r3 _ hp3 => ?_)
  refine z_w (ws' := (xW g.2 x u c a h e S1.1.1 S1.1.2.1 S1.1.2.2.1 ((if cDay R = 0 then setS R 14 0 (R 14 0 + 1) else R)) (nI ((if cDay R = 0 then pushN s else s))) (nI S1.1.2.2.2.1) S1.1.2.2.2.2 ++ [(o, .inl (g.2 3, 1, .inr (.inl S1.2)))]) ++ mW g.2 mb ((if cDay R = 0 then setS R 14 0 (R 14 0 + 1) else R)) S2.1 S2.2) (by rw [List.append_nil]) ?_
  have hr3 : r3 = nI (cDay R) := hp3.trans e1
  subst hr3
  refine z_il (pc := 536) hC 1 rfl dL_law_536 ?_
  refine z_iceq (pc := 538) hC 543 (by decide) dL_law_538 (fun _ => ?_) (fun q => absurd rfl q)
  refine z_il (pc := 543) hC 1 rfl dL_law_543 ?_
  refine z_ifne (pc := 545) hC 560 (by decide) dL_law_545 (fun q => ?_) (fun q => ?_)
  · have hc : ¬ cDay R = 0 := fun z => q (by rw [z]; rfl)
    refine z_goto (pc := 560) hC 1355 (by decide) dL_law_560 ?_
    refine z_lv [2, 3, 4, 5, 6] rfl ?_
    exact kk _ ⟨S1.1.1, S1.1.2.1, S1.1.2.2.1, R, s, S1.1.2.2.2.1, S1.1.2.2.2.2, H, t, Lt, S1.2, S2.1, S2.2, hG, hp1 hc, e3 hc, hH, by simp only [if_neg hc]; try rfl⟩
  · have hc : cDay R = 0 := (nI_eq (by omega) (by omega)).mp (q.trans nI_0.symm)
    refine z_aln (pc := 548) hC 6 rfl dL_law_548 ?_
    refine z_iconst (pc := 549) (v := nI 0) hC dL_law_549 (by decide) ?_
    refine z_lald (pc := 550) hC 141 rfl dL_law_550 0 rfl (by decide) (by decide) ?_
    refine z_il (pc := 551) hC 0 rfl dL_law_551 ?_
    refine z_i2l (pc := 553) (v := r2.toInt64) hC rfl dL_law_553 ?_
    refine z_lcmp0 (pc := 554) hC ((hp0 hc).2.trans (by rw [(e2 hc).2])) dL_law_554 ?_
    refine z_ifeq (pc := 555) hC 560 (by decide) dL_law_555 (fun _ => ?_) (fun q => absurd rfl q)
    refine z_goto (pc := 560) hC 1355 (by decide) dL_law_560 ?_
    refine z_lv [2, 3, 4, 5, 6] rfl ?_
    exact kk _ ⟨S1.1.1, S1.1.2.1, S1.1.2.2.1, (setS R 14 0 (R 14 0 + 1)), (pushN s), S1.1.2.2.2.1, S1.1.2.2.2.2, (pushH H s R), t, Lt, S1.2, S2.1, S2.2, gs_day hG hc, (hp0 hc).1, (e2 hc).1, gs_push hG hH hX.2.2.2.1, by simp only [if_pos hc]; try rfl⟩

theorem wL_set : wM yL_set cL_set 5 [(0, 10, 13, 21), (0, 10, 17, 13)] 4 := ⟨in_aw 640 (by decide +kernel) (by decide +kernel), in_aw 37 (by decide +kernel) (by decide +kernel), in_aw 641 (by decide +kernel) (by decide +kernel), ⟨by decide, by decide, by decide +kernel⟩, by decide⟩
set_option maxRecDepth 100000 in
set_option maxHeartbeats 4000000 in
theorem lc_set {g : zG} {C : zC} {b L : Nat} {xs : Nat → Int32} {x : Nat} {u c a h : Nat → Nat} {e : Nat → Nat → Nat} {mb : Nat → Nat} {o : Nat} (hO : lOK g C b L xs) {i : Nat} (hi : i + 5 ≤ L) {k n : Nat} (hk : k + 1 ≤ 601024 ∧ n + 6 ≤ 7293034) {ws : va_W} (hI : lI g.2 x u c a h e mb o ws) (kk : ∀ ws', lI g.2 x u c a h e mb o ws' → Z g C (k + 1) (n + 6) ws' (lL b x (mb 0) o i) 1355 []) : Z g C k n ws (lL b x (mb 0) o i) 563 [] := by
  obtain ⟨Q, P, T, R, s, p, K, H, t, Lt, f, F, V, hG, hX, hM, hH, rfl⟩ := hI
  obtain ⟨hC, hm, hXs, hbl, hbA, h0, hZX, hNc, hL⟩ := id hO
  refine z_w (ws' := (xW g.2 x u c a h e Q P T R (nI s) (nI p) K ++ [(o, .inl (g.2 3, 1, .inr (.inl f)))]) ++ mW g.2 mb R F V) rfl ?_
  have hcd : cSet (xs (i + 1)) (xs (i + 2)) ≤ 2 := by unfold cSet; (repeat' split) <;> omega
  refine z_aln (pc := 563) hC 2 rfl dL_law_563 ?_
  refine z_arg (pc := 564) hO 1 (by decide) (by omega) 0 1 rfl rfl dL_law_564 dL_law_565 dL_law_567 dL_law_568 dL_law_569 ?_
  refine z_arg (pc := 570) hO 2 (by decide) (by omega) 0 1 rfl rfl dL_law_570 dL_law_571 dL_law_573 dL_law_574 dL_law_575 ?_
  refine z_aln (pc := 576) hC 4 rfl dL_law_576 ?_
  refine z_sw (pc := 577) (rest := []) (As := [.ref x, .int (xs (i + 1)), .int (xs (i + 2)), .ref o]) hC h0 hZX hNc wL_set lL_104 dL_law_577 (w_set hG hX) [] (mW g.2 mb R F V) rfl rfl rfl (Nat.le_of_ble_eq_true rfl) (Nat.le_of_ble_eq_true rfl) hk (fun r S1 hp => ?_)
  obtain ⟨hr, hp0, hp1⟩ := hp
  subst hr
  refine z_w (ws' := (xW g.2 x u c a h e S1.1.1 S1.1.2.1 S1.1.2.2.1 ((if cSet (xs (i + 1)) (xs (i + 2)) = 0 then setS R 14 (8 + ix (xs (i + 1))) (xs (i + 2)) else R)) (nI ((if cSet (xs (i + 1)) (xs (i + 2)) = 0 then pushN s else s))) (nI S1.1.2.2.2.1) S1.1.2.2.2.2 ++ [(o, .inl (g.2 3, 1, .inr (.inl S1.2)))]) ++ mW g.2 mb R F V) rfl ?_
  refine z_is (pc := 580) (lv' := (5, .int (nI (cSet (xs (i + 1)) (xs (i + 2))))) :: lL b x (mb 0) o i) hC hm (by decide) rfl dL_law_580 ?_
  refine z_aln (pc := 582) hC 4 rfl dL_law_582 ?_
  refine z_arg (pc := 583) hO 1 (by decide) (by omega) 1 2 rfl rfl dL_law_583 dL_law_584 dL_law_586 dL_law_587 dL_law_588 ?_
  refine z_arg (pc := 589) hO 2 (by decide) (by omega) 1 2 rfl rfl dL_law_589 dL_law_590 dL_law_592 dL_law_593 dL_law_594 ?_
  refine z_vi (pc := 595) (rest := []) (As := [.int (xs (i + 1)), .int (xs (i + 2))]) hC vX6_set lL_106 dL_law_595 (m_set hG hM) (xW g.2 x u c a h e S1.1.1 S1.1.2.1 S1.1.2.2.1 ((if cSet (xs (i + 1)) (xs (i + 2)) = 0 then setS R 14 (8 + ix (xs (i + 1))) (xs (i + 2)) else R)) (nI ((if cSet (xs (i + 1)) (xs (i + 2)) = 0 then pushN s else s))) (nI S1.1.2.2.2.1) S1.1.2.2.2.2 ++ [(o, .inl (g.2 3, 1, .inr (.inl S1.2)))]) [] (by rw [List.append_nil]) 0 6 rfl rfl rfl rfl rfl (Nat.le_of_ble_eq_true rfl) (Nat.le_of_ble_eq_true rfl) hk (fun r2 S2 hp2 => ?_)
  obtain ⟨e1, e2, e3⟩ := hp2
  refine z_w (ws' := (xW g.2 x u c a h e S1.1.1 S1.1.2.1 S1.1.2.2.1 ((if cSet (xs (i + 1)) (xs (i + 2)) = 0 then setS R 14 (8 + ix (xs (i + 1))) (xs (i + 2)) else R)) (nI ((if cSet (xs (i + 1)) (xs (i + 2)) = 0 then pushN s else s))) (nI S1.1.2.2.2.1) S1.1.2.2.2.2 ++ [(o, .inl (g.2 3, 1, .inr (.inl S1.2)))]) ++ mW g.2 mb ((if cSet (xs (i + 1)) (xs (i + 2)) = 0 then setS R 14 (8 + ix (xs (i + 1))) (xs (i + 2)) else R)) S2.1 S2.2) (by rw [List.append_nil]) ?_
  refine z_is (pc := 598) (lv' := (6, .int r2) :: (5, .int (nI (cSet (xs (i + 1)) (xs (i + 2))))) :: lL b x (mb 0) o i) hC hm (by decide) rfl dL_law_598 ?_
  refine z_aln (pc := 600) hC 5 rfl dL_law_600 ?_
  refine z_vi (pc := 601) (rest := []) (As := []) hC vX6_thrown lL_82 dL_law_601 (m_thrown (R := (if cSet (xs (i + 1)) (xs (i + 2)) = 0 then setS R 14 (8 + ix (xs (i + 1))) (xs (i + 2)) else R)) (F := S2.1) (V := S2.2)) (xW g.2 x u c a h e S1.1.1 S1.1.2.1 S1.1.2.2.1 ((if cSet (xs (i + 1)) (xs (i + 2)) = 0 then setS R 14 (8 + ix (xs (i + 1))) (xs (i + 2)) else R)) (nI ((if cSet (xs (i + 1)) (xs (i + 2)) = 0 then pushN s else s))) (nI S1.1.2.2.2.1) S1.1.2.2.2.2 ++ [(o, .inl (g.2 3, 1, .inr (.inl S1.2)))]) [] (by rw [List.append_nil]) 0 6 rfl rfl rfl rfl rfl (Nat.le_of_ble_eq_true rfl) (Nat.le_of_ble_eq_true rfl) hk (fun r3 _ hp3 => ?_)
  refine z_w (ws' := (xW g.2 x u c a h e S1.1.1 S1.1.2.1 S1.1.2.2.1 ((if cSet (xs (i + 1)) (xs (i + 2)) = 0 then setS R 14 (8 + ix (xs (i + 1))) (xs (i + 2)) else R)) (nI ((if cSet (xs (i + 1)) (xs (i + 2)) = 0 then pushN s else s))) (nI S1.1.2.2.2.1) S1.1.2.2.2.2 ++ [(o, .inl (g.2 3, 1, .inr (.inl S1.2)))]) ++ mW g.2 mb ((if cSet (xs (i + 1)) (xs (i + 2)) = 0 then setS R 14 (8 + ix (xs (i + 1))) (xs (i + 2)) else R)) S2.1 S2.2) (by rw [List.append_nil]) ?_
  have hr3 : r3 = nI (cSet (xs (i + 1)) (xs (i + 2))) := hp3.trans e1
  subst hr3
  refine z_il (pc := 604) hC 1 rfl dL_law_604 ?_
  refine z_iceq (pc := 606) hC 611 (by decide) dL_law_606 (fun _ => ?_) (fun q => absurd rfl q)
  refine z_il (pc := 611) hC 1 rfl dL_law_611 ?_
  refine z_ifne (pc := 613) hC 628 (by decide) dL_law_613 (fun q => ?_) (fun q => ?_)
  · have hc : ¬ cSet (xs (i + 1)) (xs (i + 2)) = 0 := fun z => q (by rw [z]; rfl)
    refine z_goto (pc := 628) hC 1355 (by decide) dL_law_628 ?_
    refine z_lv [2, 3, 4, 5, 6] rfl ?_
    exact kk _ ⟨S1.1.1, S1.1.2.1, S1.1.2.2.1, R, s, S1.1.2.2.2.1, S1.1.2.2.2.2, H, t, Lt, S1.2, S2.1, S2.2, hG, hp1 hc, e3 hc, hH, by simp only [if_neg hc]; try rfl⟩
  · have hc : cSet (xs (i + 1)) (xs (i + 2)) = 0 := (nI_eq (by omega) (by omega)).mp (q.trans nI_0.symm)
    refine z_aln (pc := 616) hC 6 rfl dL_law_616 ?_
    refine z_iconst (pc := 617) (v := nI 0) hC dL_law_617 (by decide) ?_
    refine z_lald (pc := 618) hC 141 rfl dL_law_618 0 rfl (by decide) (by decide) ?_
    refine z_il (pc := 619) hC 0 rfl dL_law_619 ?_
    refine z_i2l (pc := 621) (v := r2.toInt64) hC rfl dL_law_621 ?_
    refine z_lcmp0 (pc := 622) hC ((hp0 hc).2.trans (by rw [(e2 hc).2])) dL_law_622 ?_
    refine z_ifeq (pc := 623) hC 628 (by decide) dL_law_623 (fun _ => ?_) (fun q => absurd rfl q)
    refine z_goto (pc := 628) hC 1355 (by decide) dL_law_628 ?_
    refine z_lv [2, 3, 4, 5, 6] rfl ?_
    exact kk _ ⟨S1.1.1, S1.1.2.1, S1.1.2.2.1, (setS R 14 (8 + ix (xs (i + 1))) (xs (i + 2))), (pushN s), S1.1.2.2.2.1, S1.1.2.2.2.2, (pushH H s R), t, Lt, S1.2, S2.1, S2.2, gs_set hG hc, (hp0 hc).1, (e2 hc).1, gs_push hG hH hX.2.2.2.1, by simp only [if_pos hc]; try rfl⟩

theorem wL_appendText : wM yL_appendText cL_appendText 4 [(0, 9, 12, 13), (0, 9, 15, 15)] 3 := ⟨in_aw 649 (by decide +kernel) (by decide +kernel), in_aw 37 (by decide +kernel) (by decide +kernel), in_aw 650 (by decide +kernel) (by decide +kernel), ⟨by decide, by decide, by decide +kernel⟩, by decide⟩
set_option maxRecDepth 100000 in
set_option maxHeartbeats 4000000 in
theorem lc_appendText {g : zG} {C : zC} {b L : Nat} {xs : Nat → Int32} {x : Nat} {u c a h : Nat → Nat} {e : Nat → Nat → Nat} {mb : Nat → Nat} {o : Nat} (hO : lOK g C b L xs) {i : Nat} (hi : i + 5 ≤ L) {k n : Nat} (hk : k + 1 ≤ 601024 ∧ n + 6 ≤ 7293034) {ws : va_W} (hI : lI g.2 x u c a h e mb o ws) (kk : ∀ ws', lI g.2 x u c a h e mb o ws' → Z g C (k + 1) (n + 6) ws' (lL b x (mb 0) o i) 1355 []) : Z g C k n ws (lL b x (mb 0) o i) 631 [] := by
  obtain ⟨Q, P, T, R, s, p, K, H, t, Lt, f, F, V, hG, hX, hM, hH, rfl⟩ := hI
  obtain ⟨hC, hm, hXs, hbl, hbA, h0, hZX, hNc, hL⟩ := id hO
  refine z_w (ws' := (xW g.2 x u c a h e Q P T R (nI s) (nI p) K ++ [(o, .inl (g.2 3, 1, .inr (.inl f)))]) ++ mW g.2 mb R F V) rfl ?_
  have hcd : cApp Lt (xs (i + 1)) ≤ 2 := by unfold cApp; (repeat' split) <;> omega
  refine z_aln (pc := 631) hC 2 rfl dL_law_631 ?_
  refine z_arg (pc := 632) hO 1 (by decide) (by omega) 0 1 rfl rfl dL_law_632 dL_law_633 dL_law_635 dL_law_636 dL_law_637 ?_
  refine z_aln (pc := 638) hC 4 rfl dL_law_638 ?_
  refine z_sw (pc := 639) (rest := []) (As := [.ref x, .int (xs (i + 1)), .ref o]) hC h0 hZX hNc wL_appendText lL_107 dL_law_639 (w_appendText hG hX) [] (mW g.2 mb R F V) rfl rfl rfl (Nat.le_of_ble_eq_true rfl) (Nat.le_of_ble_eq_true rfl) hk (fun r S1 hp => ?_)
  obtain ⟨hr, hp0, hp1⟩ := hp
  subst hr
  refine z_w (ws' := (xW g.2 x u c a h e S1.1.1 S1.1.2.1 S1.1.2.2.1 ((if cApp Lt (xs (i + 1)) = 0 then R else R)) (nI ((if cApp Lt (xs (i + 1)) = 0 then s else s))) (nI S1.1.2.2.2.1) S1.1.2.2.2.2 ++ [(o, .inl (g.2 3, 1, .inr (.inl S1.2)))]) ++ mW g.2 mb R F V) rfl ?_
  refine z_is (pc := 642) (lv' := (5, .int (nI (cApp Lt (xs (i + 1))))) :: lL b x (mb 0) o i) hC hm (by decide) rfl dL_law_642 ?_
  refine z_aln (pc := 644) hC 4 rfl dL_law_644 ?_
  refine z_arg (pc := 645) hO 1 (by decide) (by omega) 1 2 rfl rfl dL_law_645 dL_law_646 dL_law_648 dL_law_649 dL_law_650 ?_
  refine z_vi (pc := 651) (rest := []) (As := [.int (xs (i + 1))]) hC vX6_appendText lL_109 dL_law_651 (m_appendText hG hM) (xW g.2 x u c a h e S1.1.1 S1.1.2.1 S1.1.2.2.1 ((if cApp Lt (xs (i + 1)) = 0 then R else R)) (nI ((if cApp Lt (xs (i + 1)) = 0 then s else s))) (nI S1.1.2.2.2.1) S1.1.2.2.2.2 ++ [(o, .inl (g.2 3, 1, .inr (.inl S1.2)))]) [] (by rw [List.append_nil]) 0 6 rfl rfl rfl rfl rfl (Nat.le_of_ble_eq_true rfl) (Nat.le_of_ble_eq_true rfl) hk (fun r2 S2 hp2 => ?_)
  obtain ⟨e1, e2, e3⟩ := hp2
  refine z_w (ws' := (xW g.2 x u c a h e S1.1.1 S1.1.2.1 S1.1.2.2.1 ((if cApp Lt (xs (i + 1)) = 0 then R else R)) (nI ((if cApp Lt (xs (i + 1)) = 0 then s else s))) (nI S1.1.2.2.2.1) S1.1.2.2.2.2 ++ [(o, .inl (g.2 3, 1, .inr (.inl S1.2)))]) ++ mW g.2 mb R S2.1 S2.2) (by rw [List.append_nil]) ?_
  refine z_is (pc := 654) (lv' := (6, .int r2) :: (5, .int (nI (cApp Lt (xs (i + 1))))) :: lL b x (mb 0) o i) hC hm (by decide) rfl dL_law_654 ?_
  refine z_aln (pc := 656) hC 5 rfl dL_law_656 ?_
  refine z_vi (pc := 657) (rest := []) (As := []) hC vX6_thrown lL_82 dL_law_657 (m_thrown (R := R) (F := S2.1) (V := S2.2)) (xW g.2 x u c a h e S1.1.1 S1.1.2.1 S1.1.2.2.1 ((if cApp Lt (xs (i + 1)) = 0 then R else R)) (nI ((if cApp Lt (xs (i + 1)) = 0 then s else s))) (nI S1.1.2.2.2.1) S1.1.2.2.2.2 ++ [(o, .inl (g.2 3, 1, .inr (.inl S1.2)))]) [] (by rw [List.append_nil]) 0 6 rfl rfl rfl rfl rfl (Nat.le_of_ble_eq_true rfl) (Nat.le_of_ble_eq_true rfl) hk (fun r3 _ hp3 => ?_)
  refine z_w (ws' := (xW g.2 x u c a h e S1.1.1 S1.1.2.1 S1.1.2.2.1 ((if cApp Lt (xs (i + 1)) = 0 then R else R)) (nI ((if cApp Lt (xs (i + 1)) = 0 then s else s))) (nI S1.1.2.2.2.1) S1.1.2.2.2.2 ++ [(o, .inl (g.2 3, 1, .inr (.inl S1.2)))]) ++ mW g.2 mb R S2.1 S2.2) (by rw [List.append_nil]) ?_
  have hr3 : r3 = nI (cApp Lt (xs (i + 1))) := hp3.trans e1
  subst hr3
  refine z_il (pc := 660) hC 1 rfl dL_law_660 ?_
  refine z_iceq (pc := 662) hC 667 (by decide) dL_law_662 (fun _ => ?_) (fun q => absurd rfl q)
  refine z_il (pc := 667) hC 1 rfl dL_law_667 ?_
  refine z_ifne (pc := 669) hC 684 (by decide) dL_law_669 (fun q => ?_) (fun q => ?_)
  · have hc : ¬ cApp Lt (xs (i + 1)) = 0 := fun z => q (by rw [z]; rfl)
    refine z_goto (pc := 684) hC 1355 (by decide) dL_law_684 ?_
    refine z_lv [2, 3, 4, 5, 6] rfl ?_
    exact kk _ ⟨S1.1.1, S1.1.2.1, S1.1.2.2.1, R, s, S1.1.2.2.2.1, S1.1.2.2.2.2, H, t, Lt, S1.2, S2.1, S2.2, hG, hp1 hc, e3 hc, hH, by simp only [if_neg hc]; try rfl⟩
  · have hc : cApp Lt (xs (i + 1)) = 0 := (nI_eq (by omega) (by omega)).mp (q.trans nI_0.symm)
    refine z_aln (pc := 672) hC 6 rfl dL_law_672 ?_
    refine z_iconst (pc := 673) (v := nI 0) hC dL_law_673 (by decide) ?_
    refine z_lald (pc := 674) hC 141 rfl dL_law_674 0 rfl (by decide) (by decide) ?_
    refine z_il (pc := 675) hC 0 rfl dL_law_675 ?_
    refine z_i2l (pc := 677) (v := r2.toInt64) hC rfl dL_law_677 ?_
    refine z_lcmp0 (pc := 678) hC ((hp0 hc).2.trans (by rw [(e2 hc).2])) dL_law_678 ?_
    refine z_ifeq (pc := 679) hC 684 (by decide) dL_law_679 (fun _ => ?_) (fun q => absurd rfl q)
    refine z_goto (pc := 684) hC 1355 (by decide) dL_law_684 ?_
    refine z_lv [2, 3, 4, 5, 6] rfl ?_
    exact kk _ ⟨S1.1.1, S1.1.2.1, S1.1.2.2.1, R, s, S1.1.2.2.2.1, S1.1.2.2.2.2, H, (tApp t Lt (xs (i + 1))), (Lt + 1), S1.2, S2.1, S2.2, hG, (hp0 hc).1, (e2 hc).1, hH, by simp only [if_pos hc]; try rfl⟩

theorem wL_runText : wM yL_runText cL_runText 3 [(0, 8, 11, 15)] 2 := ⟨in_aw 662 (by decide +kernel) (by decide +kernel), in_aw 37 (by decide +kernel) (by decide +kernel), in_aw 663 (by decide +kernel) (by decide +kernel), ⟨by decide, by decide, by decide +kernel⟩, by decide⟩
set_option maxRecDepth 100000 in
set_option maxHeartbeats 4000000 in
theorem lc_runText {g : zG} {C : zC} {b L : Nat} {xs : Nat → Int32} {x : Nat} {u c a h : Nat → Nat} {e : Nat → Nat → Nat} {mb : Nat → Nat} {o : Nat} (hO : lOK g C b L xs) {i : Nat} (hi : i + 5 ≤ L) {k n : Nat} (hk : k + 1 ≤ 601024 ∧ n + 6 ≤ 7293034) {ws : va_W} (hI : lI g.2 x u c a h e mb o ws) (kk : ∀ ws', lI g.2 x u c a h e mb o ws' → Z g C (k + 1) (n + 6) ws' (lL b x (mb 0) o i) 1355 []) : Z g C k n ws (lL b x (mb 0) o i) 713 [] := by
  obtain ⟨Q, P, T, R, s, p, K, H, t, Lt, f, F, V, hG, hX, hM, hH, rfl⟩ := hI
  obtain ⟨hC, hm, hXs, hbl, hbA, h0, hZX, hNc, hL⟩ := id hO
  refine z_w (ws' := (xW g.2 x u c a h e Q P T R (nI s) (nI p) K ++ [(o, .inl (g.2 3, 1, .inr (.inl f)))]) ++ mW g.2 mb R F V) rfl ?_
  have hcd : cRun t Lt ≤ 2 := by unfold cRun; (repeat' split) <;> omega
  refine z_aln (pc := 713) hC 2 rfl dL_law_713 ?_
  refine z_aln (pc := 714) hC 4 rfl dL_law_714 ?_
  refine z_sw (pc := 715) (rest := []) (As := [.ref x, .ref o]) hC h0 hZX hNc wL_runText lL_118 dL_law_715 (w_runText hG hX) [] (mW g.2 mb R F V) rfl rfl rfl (Nat.le_of_ble_eq_true rfl) (Nat.le_of_ble_eq_true rfl) hk (fun r S1 hp => ?_)
  obtain ⟨hr, hp0, hp1⟩ := hp
  subst hr
  refine z_w (ws' := (xW g.2 x u c a h e S1.1.1 S1.1.2.1 S1.1.2.2.1 ((if cRun t Lt = 0 then (runC (prs t Lt 80 0).1 R 0).1 else R)) (nI ((if cRun t Lt = 0 then pushN s else s))) (nI S1.1.2.2.2.1) S1.1.2.2.2.2 ++ [(o, .inl (g.2 3, 1, .inr (.inl S1.2)))]) ++ mW g.2 mb R F V) rfl ?_
  refine z_is (pc := 718) (lv' := (5, .int (nI (cRun t Lt))) :: lL b x (mb 0) o i) hC hm (by decide) rfl dL_law_718 ?_
  refine z_aln (pc := 720) hC 4 rfl dL_law_720 ?_
  refine z_vi (pc := 721) (rest := []) (As := []) hC vX6_runText lL_120 dL_law_721 (m_runText hG hM) (xW g.2 x u c a h e S1.1.1 S1.1.2.1 S1.1.2.2.1 ((if cRun t Lt = 0 then (runC (prs t Lt 80 0).1 R 0).1 else R)) (nI ((if cRun t Lt = 0 then pushN s else s))) (nI S1.1.2.2.2.1) S1.1.2.2.2.2 ++ [(o, .inl (g.2 3, 1, .inr (.inl S1.2)))]) [] (by rw [List.append_nil]) 0 6 rfl rfl rfl rfl rfl (Nat.le_of_ble_eq_true rfl) (Nat.le_of_ble_eq_true rfl) hk (fun r2 S2 hp2 => ?_)
  obtain ⟨e1, e2, e3⟩ := hp2
  refine z_w (ws' := (xW g.2 x u c a h e S1.1.1 S1.1.2.1 S1.1.2.2.1 ((if cRun t Lt = 0 then (runC (prs t Lt 80 0).1 R 0).1 else R)) (nI ((if cRun t Lt = 0 then pushN s else s))) (nI S1.1.2.2.2.1) S1.1.2.2.2.2 ++ [(o, .inl (g.2 3, 1, .inr (.inl S1.2)))]) ++ mW g.2 mb ((if cRun t Lt = 0 then (runC (prs t Lt 80 0).1 R 0).1 else R)) S2.1 S2.2) (by rw [List.append_nil]) ?_
  refine z_is (pc := 724) (lv' := (6, .int r2) :: (5, .int (nI (cRun t Lt))) :: lL b x (mb 0) o i) hC hm (by decide) rfl dL_law_724 ?_
  refine z_aln (pc := 726) hC 5 rfl dL_law_726 ?_
  refine z_vi (pc := 727) (rest := []) (As := []) hC vX6_thrown lL_82 dL_law_727 (m_thrown (R := (if cRun t Lt = 0 then (runC (prs t Lt 80 0).1 R 0).1 else R)) (F := S2.1) (V := S2.2)) (xW g.2 x u c a h e S1.1.1 S1.1.2.1 S1.1.2.2.1 ((if cRun t Lt = 0 then (runC (prs t Lt 80 0).1 R 0).1 else R)) (nI ((if cRun t Lt = 0 then pushN s else s))) (nI S1.1.2.2.2.1) S1.1.2.2.2.2 ++ [(o, .inl (g.2 3, 1, .inr (.inl S1.2)))]) [] (by rw [List.append_nil]) 0 6 rfl rfl rfl rfl rfl (Nat.le_of_ble_eq_true rfl) (Nat.le_of_ble_eq_true rfl) hk (fun r3 _ hp3 => ?_)
  refine z_w (ws' := (xW g.2 x u c a h e S1.1.1 S1.1.2.1 S1.1.2.2.1 ((if cRun t Lt = 0 then (runC (prs t Lt 80 0).1 R 0).1 else R)) (nI ((if cRun t Lt = 0 then pushN s else s))) (nI S1.1.2.2.2.1) S1.1.2.2.2.2 ++ [(o, .inl (g.2 3, 1, .inr (.inl S1.2)))]) ++ mW g.2 mb ((if cRun t Lt = 0 then (runC (prs t Lt 80 0).1 R 0).1 else R)) S2.1 S2.2) (by rw [List.append_nil]) ?_
  have hr3 : r3 = nI (cRun t Lt) := hp3.trans e1
  subst hr3
  refine z_il (pc := 730) hC 1 rfl dL_law_730 ?_
  refine z_iceq (pc := 732) hC 737 (by decide) dL_law_732 (fun _ => ?_) (fun q => absurd rfl q)
  refine z_il (pc := 737) hC 1 rfl dL_law_737 ?_
  refine z_ifne (pc := 739) hC 754 (by decide) dL_law_739 (fun q => ?_) (fun q => ?_)
  · have hc : ¬ cRun t Lt = 0 := fun z => q (by rw [z]; rfl)
    refine z_goto (pc := 754) hC 1355 (by decide) dL_law_754 ?_
    refine z_lv [2, 3, 4, 5, 6] rfl ?_
    exact kk _ ⟨S1.1.1, S1.1.2.1, S1.1.2.2.1, R, s, S1.1.2.2.2.1, S1.1.2.2.2.2, H, t, Lt, S1.2, S2.1, S2.2, hG, hp1 hc, e3 hc, hH, by simp only [if_neg hc]; try rfl⟩
  · have hc : cRun t Lt = 0 := (nI_eq (by omega) (by omega)).mp (q.trans nI_0.symm)
    refine z_aln (pc := 742) hC 6 rfl dL_law_742 ?_
    refine z_iconst (pc := 743) (v := nI 0) hC dL_law_743 (by decide) ?_
    refine z_lald (pc := 744) hC 141 rfl dL_law_744 0 rfl (by decide) (by decide) ?_
    refine z_il (pc := 745) hC 0 rfl dL_law_745 ?_
    refine z_i2l (pc := 747) (v := r2.toInt64) hC rfl dL_law_747 ?_
    refine z_lcmp0 (pc := 748) hC ((hp0 hc).2.trans (by rw [(e2 hc).2])) dL_law_748 ?_
    refine z_ifeq (pc := 749) hC 754 (by decide) dL_law_749 (fun _ => ?_) (fun q => absurd rfl q)
    refine z_goto (pc := 754) hC 1355 (by decide) dL_law_754 ?_
    refine z_lv [2, 3, 4, 5, 6] rfl ?_
    exact kk _ ⟨S1.1.1, S1.1.2.1, S1.1.2.2.1, ((runC (prs t Lt 80 0).1 R 0).1), (pushN s), S1.1.2.2.2.1, S1.1.2.2.2.2, (pushH H s R), t, Lt, S1.2, S2.1, S2.2, gs_run hG, (hp0 hc).1, (e2 hc).1, gs_push hG hH hX.2.2.2.1, by simp only [if_pos hc]; try rfl⟩

theorem wL_undo : wM yL_undo cL_undo 3 [(0, 8, 11, 15)] 2 := ⟨in_aw 677 (by decide +kernel) (by decide +kernel), in_aw 37 (by decide +kernel) (by decide +kernel), in_aw 678 (by decide +kernel) (by decide +kernel), ⟨by decide, by decide, by decide +kernel⟩, by decide⟩
set_option maxRecDepth 100000 in
set_option maxHeartbeats 4000000 in
theorem lc_undo {g : zG} {C : zC} {b L : Nat} {xs : Nat → Int32} {x : Nat} {u c a h : Nat → Nat} {e : Nat → Nat → Nat} {mb : Nat → Nat} {o : Nat} (hO : lOK g C b L xs) {i : Nat} (hi : i + 5 ≤ L) {k n : Nat} (hk : k + 1 ≤ 601024 ∧ n + 6 ≤ 7293034) {ws : va_W} (hI : lI g.2 x u c a h e mb o ws) (kk : ∀ ws', lI g.2 x u c a h e mb o ws' → Z g C (k + 1) (n + 6) ws' (lL b x (mb 0) o i) 1355 []) : Z g C k n ws (lL b x (mb 0) o i) 757 [] := by
  obtain ⟨Q, P, T, R, s, p, K, H, t, Lt, f, F, V, hG, hX, hM, hH, rfl⟩ := hI
  obtain ⟨hC, hm, hXs, hbl, hbA, h0, hZX, hNc, hL⟩ := id hO
  refine z_w (ws' := (xW g.2 x u c a h e Q P T R (nI s) (nI p) K ++ [(o, .inl (g.2 3, 1, .inr (.inl f)))]) ++ mW g.2 mb R F V) rfl ?_
  have hcd : cUndo s ≤ 2 := by unfold cUndo; (repeat' split) <;> omega
  refine z_aln (pc := 757) hC 2 rfl dL_law_757 ?_
  refine z_aln (pc := 758) hC 4 rfl dL_law_758 ?_
  refine z_sw (pc := 759) (rest := []) (As := [.ref x, .ref o]) hC h0 hZX hNc wL_undo lL_121 dL_law_759 (w_undo hG hX hH) [] (mW g.2 mb R F V) rfl rfl rfl (Nat.le_of_ble_eq_true rfl) (Nat.le_of_ble_eq_true rfl) hk (fun r S1 hp => ?_)
  obtain ⟨hr, hp0, hp1⟩ := hp
  subst hr
  refine z_w (ws' := (xW g.2 x u c a h e S1.1.1 S1.1.2.1 S1.1.2.2.1 ((if cUndo s = 0 then H (s - 1) else R)) (nI ((if cUndo s = 0 then s - 1 else s))) (nI S1.1.2.2.2.1) S1.1.2.2.2.2 ++ [(o, .inl (g.2 3, 1, .inr (.inl S1.2)))]) ++ mW g.2 mb R F V) rfl ?_
  refine z_is (pc := 762) (lv' := (5, .int (nI (cUndo s))) :: lL b x (mb 0) o i) hC hm (by decide) rfl dL_law_762 ?_
  refine z_aln (pc := 764) hC 4 rfl dL_law_764 ?_
  refine z_vi (pc := 765) (rest := []) (As := []) hC vX6_undo lL_123 dL_law_765 (m_undoP hM) (xW g.2 x u c a h e S1.1.1 S1.1.2.1 S1.1.2.2.1 ((if cUndo s = 0 then H (s - 1) else R)) (nI ((if cUndo s = 0 then s - 1 else s))) (nI S1.1.2.2.2.1) S1.1.2.2.2.2 ++ [(o, .inl (g.2 3, 1, .inr (.inl S1.2)))]) [] (by rw [List.append_nil]) 0 6 rfl rfl rfl rfl rfl (Nat.le_of_ble_eq_true rfl) (Nat.le_of_ble_eq_true rfl) hk (fun r2 S2 hp2 => ?_)
  obtain ⟨e1, e2, e3⟩ := hp2
  refine z_w (ws' := (xW g.2 x u c a h e S1.1.1 S1.1.2.1 S1.1.2.2.1 ((if cUndo s = 0 then H (s - 1) else R)) (nI ((if cUndo s = 0 then s - 1 else s))) (nI S1.1.2.2.2.1) S1.1.2.2.2.2 ++ [(o, .inl (g.2 3, 1, .inr (.inl S1.2)))]) ++ mW g.2 mb ((if cUndo s = 0 then H (s - 1) else R)) S2.1 S2.2) (by rw [List.append_nil]) ?_
  refine z_is (pc := 768) (lv' := (6, .int r2) :: (5, .int (nI (cUndo s))) :: lL b x (mb 0) o i) hC hm (by decide) rfl dL_law_768 ?_
  refine z_aln (pc := 770) hC 5 rfl dL_law_770 ?_
  refine z_vi (pc := 771) (rest := []) (As := []) hC vX6_thrown lL_82 dL_law_771 (m_thrown (R := (if cUndo s = 0 then H (s - 1) else R)) (F := S2.1) (V := S2.2)) (xW g.2 x u c a h e S1.1.1 S1.1.2.1 S1.1.2.2.1 ((if cUndo s = 0 then H (s - 1) else R)) (nI ((if cUndo s = 0 then s - 1 else s))) (nI S1.1.2.2.2.1) S1.1.2.2.2.2 ++ [(o, .inl (g.2 3, 1, .inr (.inl S1.2)))]) [] (by rw [List.append_nil]) 0 6 rfl rfl rfl rfl rfl (Nat.le_of_ble_eq_true rfl) (Nat.le_of_ble_eq_true rfl) hk (fun r3 _ hp3 => ?_)
  refine z_w (ws' := (xW g.2 x u c a h e S1.1.1 S1.1.2.1 S1.1.2.2.1 ((if cUndo s = 0 then H (s - 1) else R)) (nI ((if cUndo s = 0 then s - 1 else s))) (nI S1.1.2.2.2.1) S1.1.2.2.2.2 ++ [(o, .inl (g.2 3, 1, .inr (.inl S1.2)))]) ++ mW g.2 mb ((if cUndo s = 0 then H (s - 1) else R)) S2.1 S2.2) (by rw [List.append_nil]) ?_
  have hr3 : r3 = nI (cUndo s) := hp3.trans e1
  subst hr3
  refine z_il (pc := 774) hC 1 rfl dL_law_774 ?_
  refine z_iceq (pc := 776) hC 781 (by decide) dL_law_776 (fun _ => ?_) (fun q => absurd rfl q)
  refine z_il (pc := 781) hC 1 rfl dL_law_781 ?_
  refine z_ifne (pc := 783) hC 798 (by decide) dL_law_783 (fun q => ?_) (fun q => ?_)
  · have hc : ¬ cUndo s = 0 := fun z => q (by rw [z]; rfl)
    refine z_goto (pc := 798) hC 1355 (by decide) dL_law_798 ?_
    refine z_lv [2, 3, 4, 5, 6] rfl ?_
    exact kk _ ⟨S1.1.1, S1.1.2.1, S1.1.2.2.1, R, s, S1.1.2.2.2.1, S1.1.2.2.2.2, H, t, Lt, S1.2, S2.1, S2.2, hG, hp1 hc, e3 hc, hH, by simp only [if_neg hc]; try rfl⟩
  · have hc : cUndo s = 0 := (nI_eq (by omega) (by omega)).mp (q.trans nI_0.symm)
    refine z_aln (pc := 786) hC 6 rfl dL_law_786 ?_
    refine z_iconst (pc := 787) (v := nI 0) hC dL_law_787 (by decide) ?_
    refine z_lald (pc := 788) hC 141 rfl dL_law_788 0 rfl (by decide) (by decide) ?_
    refine z_il (pc := 789) hC 0 rfl dL_law_789 ?_
    refine z_i2l (pc := 791) (v := r2.toInt64) hC rfl dL_law_791 ?_
    refine z_lcmp0 (pc := 792) hC ((hp0 hc).2.trans (by rw [(e2 hc).2])) dL_law_792 ?_
    refine z_ifeq (pc := 793) hC 798 (by decide) dL_law_793 (fun _ => ?_) (fun q => absurd rfl q)
    refine z_goto (pc := 798) hC 1355 (by decide) dL_law_798 ?_
    refine z_lv [2, 3, 4, 5, 6] rfl ?_
    exact kk _ ⟨S1.1.1, S1.1.2.1, S1.1.2.2.1, (H (s - 1)), (s - 1), S1.1.2.2.2.1, S1.1.2.2.2.2, H, t, Lt, S1.2, S2.1, S2.2, gs_undo hH hc, (hp0 hc).1, (e2 hc).1, fun k hk => hH k (by omega), by simp only [if_pos hc]; try rfl⟩

theorem wL_reel : wM yL_reel cL_reel 5 [(0, 10, 13, 21), (0, 10, 17, 13)] 4 := ⟨in_aw 689 (by decide +kernel) (by decide +kernel), in_aw 37 (by decide +kernel) (by decide +kernel), in_aw 690 (by decide +kernel) (by decide +kernel), ⟨by decide, by decide, by decide +kernel⟩, by decide⟩
set_option maxRecDepth 100000 in
set_option maxHeartbeats 4000000 in
theorem lc_reel {g : zG} {C : zC} {b L : Nat} {xs : Nat → Int32} {x : Nat} {u c a h : Nat → Nat} {e : Nat → Nat → Nat} {mb : Nat → Nat} {o : Nat} (hO : lOK g C b L xs) {i : Nat} (hi : i + 5 ≤ L) {k n : Nat} (hk : k + 1 ≤ 601024 ∧ n + 6 ≤ 7293034) {ws : va_W} (hI : lI g.2 x u c a h e mb o ws) (kk : ∀ ws', lI g.2 x u c a h e mb o ws' → Z g C (k + 1) (n + 6) ws' (lL b x (mb 0) o i) 1355 []) : Z g C k n ws (lL b x (mb 0) o i) 801 [] := by
  obtain ⟨Q, P, T, R, s, p, K, H, t, Lt, f, F, V, hG, hX, hM, hH, rfl⟩ := hI
  obtain ⟨hC, hm, hXs, hbl, hbA, h0, hZX, hNc, hL⟩ := id hO
  refine z_w (ws' := (xW g.2 x u c a h e Q P T R (nI s) (nI p) K ++ [(o, .inl (g.2 3, 1, .inr (.inl f)))]) ++ mW g.2 mb R F V) rfl ?_
  have hcd : cReel (xs (i + 1)) (xs (i + 2)) ≤ 2 := by unfold cReel; (repeat' split) <;> omega
  refine z_aln (pc := 801) hC 2 rfl dL_law_801 ?_
  refine z_arg (pc := 802) hO 1 (by decide) (by omega) 0 1 rfl rfl dL_law_802 dL_law_803 dL_law_805 dL_law_806 dL_law_807 ?_
  refine z_arg (pc := 808) hO 2 (by decide) (by omega) 0 1 rfl rfl dL_law_808 dL_law_809 dL_law_811 dL_law_812 dL_law_813 ?_
  refine z_aln (pc := 814) hC 4 rfl dL_law_814 ?_
  refine z_sw (pc := 815) (rest := []) (As := [.ref x, .int (xs (i + 1)), .int (xs (i + 2)), .ref o]) hC h0 hZX hNc wL_reel lL_124 dL_law_815 (w_reel hG hX) [] (mW g.2 mb R F V) rfl rfl rfl (Nat.le_of_ble_eq_true rfl) (Nat.le_of_ble_eq_true rfl) hk (fun r S1 hp => ?_)
  obtain ⟨hr, hp0, hp1⟩ := hp
  subst hr
  refine z_w (ws' := (xW g.2 x u c a h e S1.1.1 S1.1.2.1 S1.1.2.2.1 ((if cReel (xs (i + 1)) (xs (i + 2)) = 0 then R else R)) (nI ((if cReel (xs (i + 1)) (xs (i + 2)) = 0 then s else s))) (nI S1.1.2.2.2.1) S1.1.2.2.2.2 ++ [(o, .inl (g.2 3, 1, .inr (.inl S1.2)))]) ++ mW g.2 mb R F V) rfl ?_
  refine z_is (pc := 818) (lv' := (5, .int (nI (cReel (xs (i + 1)) (xs (i + 2))))) :: lL b x (mb 0) o i) hC hm (by decide) rfl dL_law_818 ?_
  refine z_aln (pc := 820) hC 4 rfl dL_law_820 ?_
  refine z_arg (pc := 821) hO 1 (by decide) (by omega) 1 2 rfl rfl dL_law_821 dL_law_822 dL_law_824 dL_law_825 dL_law_826 ?_
  refine z_arg (pc := 827) hO 2 (by decide) (by omega) 1 2 rfl rfl dL_law_827 dL_law_828 dL_law_830 dL_law_831 dL_law_832 ?_
  refine z_vi (pc := 833) (rest := []) (As := [.int (xs (i + 1)), .int (xs (i + 2))]) hC vX6_reel lL_126 dL_law_833 (m_reel hG hM) (xW g.2 x u c a h e S1.1.1 S1.1.2.1 S1.1.2.2.1 ((if cReel (xs (i + 1)) (xs (i + 2)) = 0 then R else R)) (nI ((if cReel (xs (i + 1)) (xs (i + 2)) = 0 then s else s))) (nI S1.1.2.2.2.1) S1.1.2.2.2.2 ++ [(o, .inl (g.2 3, 1, .inr (.inl S1.2)))]) [] (by rw [List.append_nil]) 0 6 rfl rfl rfl rfl rfl (Nat.le_of_ble_eq_true rfl) (Nat.le_of_ble_eq_true rfl) hk (fun r2 S2 hp2 => ?_)
  obtain ⟨e1, e2, e3⟩ := hp2
  refine z_w (ws' := (xW g.2 x u c a h e S1.1.1 S1.1.2.1 S1.1.2.2.1 ((if cReel (xs (i + 1)) (xs (i + 2)) = 0 then R else R)) (nI ((if cReel (xs (i + 1)) (xs (i + 2)) = 0 then s else s))) (nI S1.1.2.2.2.1) S1.1.2.2.2.2 ++ [(o, .inl (g.2 3, 1, .inr (.inl S1.2)))]) ++ mW g.2 mb R S2.1 S2.2) (by rw [List.append_nil]) ?_
  refine z_is (pc := 836) (lv' := (6, .int r2) :: (5, .int (nI (cReel (xs (i + 1)) (xs (i + 2))))) :: lL b x (mb 0) o i) hC hm (by decide) rfl dL_law_836 ?_
  refine z_aln (pc := 838) hC 5 rfl dL_law_838 ?_
  refine z_vi (pc := 839) (rest := []) (As := []) hC vX6_thrown lL_82 dL_law_839 (m_thrown (R := R) (F := S2.1) (V := S2.2)) (xW g.2 x u c a h e S1.1.1 S1.1.2.1 S1.1.2.2.1 ((if cReel (xs (i + 1)) (xs (i + 2)) = 0 then R else R)) (nI ((if cReel (xs (i + 1)) (xs (i + 2)) = 0 then s else s))) (nI S1.1.2.2.2.1) S1.1.2.2.2.2 ++ [(o, .inl (g.2 3, 1, .inr (.inl S1.2)))]) [] (by rw [List.append_nil]) 0 6 rfl rfl rfl rfl rfl (Nat.le_of_ble_eq_true rfl) (Nat.le_of_ble_eq_true rfl) hk (fun r3 _ hp3 => ?_)
  refine z_w (ws' := (xW g.2 x u c a h e S1.1.1 S1.1.2.1 S1.1.2.2.1 ((if cReel (xs (i + 1)) (xs (i + 2)) = 0 then R else R)) (nI ((if cReel (xs (i + 1)) (xs (i + 2)) = 0 then s else s))) (nI S1.1.2.2.2.1) S1.1.2.2.2.2 ++ [(o, .inl (g.2 3, 1, .inr (.inl S1.2)))]) ++ mW g.2 mb R S2.1 S2.2) (by rw [List.append_nil]) ?_
  have hr3 : r3 = nI (cReel (xs (i + 1)) (xs (i + 2))) := hp3.trans e1
  subst hr3
  refine z_il (pc := 842) hC 1 rfl dL_law_842 ?_
  refine z_iceq (pc := 844) hC 849 (by decide) dL_law_844 (fun _ => ?_) (fun q => absurd rfl q)
  refine z_il (pc := 849) hC 1 rfl dL_law_849 ?_
  refine z_ifne (pc := 851) hC 866 (by decide) dL_law_851 (fun q => ?_) (fun q => ?_)
  · have hc : ¬ cReel (xs (i + 1)) (xs (i + 2)) = 0 := fun z => q (by rw [z]; rfl)
    refine z_goto (pc := 866) hC 1355 (by decide) dL_law_866 ?_
    refine z_lv [2, 3, 4, 5, 6] rfl ?_
    exact kk _ ⟨S1.1.1, S1.1.2.1, S1.1.2.2.1, R, s, S1.1.2.2.2.1, S1.1.2.2.2.2, H, t, Lt, S1.2, S2.1, S2.2, hG, hp1 hc, e3 hc, hH, by simp only [if_neg hc]; try rfl⟩
  · have hc : cReel (xs (i + 1)) (xs (i + 2)) = 0 := (nI_eq (by omega) (by omega)).mp (q.trans nI_0.symm)
    refine z_aln (pc := 854) hC 6 rfl dL_law_854 ?_
    refine z_iconst (pc := 855) (v := nI 0) hC dL_law_855 (by decide) ?_
    refine z_lald (pc := 856) hC 141 rfl dL_law_856 0 rfl (by decide) (by decide) ?_
    refine z_il (pc := 857) hC 0 rfl dL_law_857 ?_
    refine z_i2l (pc := 859) (v := r2.toInt64) hC rfl dL_law_859 ?_
    refine z_lcmp0 (pc := 860) hC ((hp0 hc).2.trans (by rw [(e2 hc).2])) dL_law_860 ?_
    refine z_ifeq (pc := 861) hC 866 (by decide) dL_law_861 (fun _ => ?_) (fun q => absurd rfl q)
    refine z_goto (pc := 866) hC 1355 (by decide) dL_law_866 ?_
    refine z_lv [2, 3, 4, 5, 6] rfl ?_
    exact kk _ ⟨S1.1.1, S1.1.2.1, S1.1.2.2.1, R, s, S1.1.2.2.2.1, S1.1.2.2.2.2, H, t, Lt, S1.2, S2.1, S2.2, hG, (hp0 hc).1, (e2 hc).1, hH, by simp only [if_pos hc]; try rfl⟩

theorem wL_reelOn : wM yL_reelOn cL_reelOn 4 [(0, 9, 12, 21)] 3 := ⟨in_aw 697 (by decide +kernel) (by decide +kernel), in_aw 37 (by decide +kernel) (by decide +kernel), in_aw 698 (by decide +kernel) (by decide +kernel), ⟨by decide, by decide, by decide +kernel⟩, by decide⟩
set_option maxRecDepth 100000 in
set_option maxHeartbeats 4000000 in
theorem lc_reelOn {g : zG} {C : zC} {b L : Nat} {xs : Nat → Int32} {x : Nat} {u c a h : Nat → Nat} {e : Nat → Nat → Nat} {mb : Nat → Nat} {o : Nat} (hO : lOK g C b L xs) {i : Nat} (hi : i + 5 ≤ L) {k n : Nat} (hk : k + 1 ≤ 601024 ∧ n + 6 ≤ 7293034) {ws : va_W} (hI : lI g.2 x u c a h e mb o ws) (kk : ∀ ws', lI g.2 x u c a h e mb o ws' → Z g C (k + 1) (n + 6) ws' (lL b x (mb 0) o i) 1355 []) : Z g C k n ws (lL b x (mb 0) o i) 869 [] := by
  obtain ⟨Q, P, T, R, s, p, K, H, t, Lt, f, F, V, hG, hX, hM, hH, rfl⟩ := hI
  obtain ⟨hC, hm, hXs, hbl, hbA, h0, hZX, hNc, hL⟩ := id hO
  refine z_w (ws' := (xW g.2 x u c a h e Q P T R (nI s) (nI p) K ++ [(o, .inl (g.2 3, 1, .inr (.inl f)))]) ++ mW g.2 mb R F V) rfl ?_
  have hcd : cOn (xs (i + 1)) ≤ 2 := by unfold cOn; (repeat' split) <;> omega
  refine z_aln (pc := 869) hC 2 rfl dL_law_869 ?_
  refine z_arg (pc := 870) hO 1 (by decide) (by omega) 0 1 rfl rfl dL_law_870 dL_law_871 dL_law_873 dL_law_874 dL_law_875 ?_
  refine z_aln (pc := 876) hC 4 rfl dL_law_876 ?_
  refine z_sw (pc := 877) (rest := []) (As := [.ref x, .int (xs (i + 1)), .ref o]) hC h0 hZX hNc wL_reelOn lL_127 dL_law_877 (w_reelOn hG hX) [] (mW g.2 mb R F V) rfl rfl rfl (Nat.le_of_ble_eq_true rfl) (Nat.le_of_ble_eq_true rfl) hk (fun r S1 hp => ?_)
  obtain ⟨hr, hp0, hp1⟩ := hp
  subst hr
  refine z_w (ws' := (xW g.2 x u c a h e S1.1.1 S1.1.2.1 S1.1.2.2.1 ((if cOn (xs (i + 1)) = 0 then R else R)) (nI ((if cOn (xs (i + 1)) = 0 then s else s))) (nI S1.1.2.2.2.1) S1.1.2.2.2.2 ++ [(o, .inl (g.2 3, 1, .inr (.inl S1.2)))]) ++ mW g.2 mb R F V) rfl ?_
  refine z_is (pc := 880) (lv' := (5, .int (nI (cOn (xs (i + 1))))) :: lL b x (mb 0) o i) hC hm (by decide) rfl dL_law_880 ?_
  refine z_aln (pc := 882) hC 4 rfl dL_law_882 ?_
  refine z_arg (pc := 883) hO 1 (by decide) (by omega) 1 2 rfl rfl dL_law_883 dL_law_884 dL_law_886 dL_law_887 dL_law_888 ?_
  refine z_vi (pc := 889) (rest := []) (As := [.int (xs (i + 1))]) hC vX6_reelOn lL_129 dL_law_889 (m_reelOn hG hM) (xW g.2 x u c a h e S1.1.1 S1.1.2.1 S1.1.2.2.1 ((if cOn (xs (i + 1)) = 0 then R else R)) (nI ((if cOn (xs (i + 1)) = 0 then s else s))) (nI S1.1.2.2.2.1) S1.1.2.2.2.2 ++ [(o, .inl (g.2 3, 1, .inr (.inl S1.2)))]) [] (by rw [List.append_nil]) 0 6 rfl rfl rfl rfl rfl (Nat.le_of_ble_eq_true rfl) (Nat.le_of_ble_eq_true rfl) hk (fun r2 S2 hp2 => ?_)
  obtain ⟨e1, e2, e3⟩ := hp2
  refine z_w (ws' := (xW g.2 x u c a h e S1.1.1 S1.1.2.1 S1.1.2.2.1 ((if cOn (xs (i + 1)) = 0 then R else R)) (nI ((if cOn (xs (i + 1)) = 0 then s else s))) (nI S1.1.2.2.2.1) S1.1.2.2.2.2 ++ [(o, .inl (g.2 3, 1, .inr (.inl S1.2)))]) ++ mW g.2 mb R S2.1 S2.2) (by rw [List.append_nil]) ?_
  refine z_is (pc := 892) (lv' := (6, .int r2) :: (5, .int (nI (cOn (xs (i + 1))))) :: lL b x (mb 0) o i) hC hm (by decide) rfl dL_law_892 ?_
  refine z_aln (pc := 894) hC 5 rfl dL_law_894 ?_
  refine z_vi (pc := 895) (rest := []) (As := []) hC vX6_thrown lL_82 dL_law_895 (m_thrown (R := R) (F := S2.1) (V := S2.2)) (xW g.2 x u c a h e S1.1.1 S1.1.2.1 S1.1.2.2.1 ((if cOn (xs (i + 1)) = 0 then R else R)) (nI ((if cOn (xs (i + 1)) = 0 then s else s))) (nI S1.1.2.2.2.1) S1.1.2.2.2.2 ++ [(o, .inl (g.2 3, 1, .inr (.inl S1.2)))]) [] (by rw [List.append_nil]) 0 6 rfl rfl rfl rfl rfl (Nat.le_of_ble_eq_true rfl) (Nat.le_of_ble_eq_true rfl) hk (fun r3 _ hp3 => ?_)
  refine z_w (ws' := (xW g.2 x u c a h e S1.1.1 S1.1.2.1 S1.1.2.2.1 ((if cOn (xs (i + 1)) = 0 then R else R)) (nI ((if cOn (xs (i + 1)) = 0 then s else s))) (nI S1.1.2.2.2.1) S1.1.2.2.2.2 ++ [(o, .inl (g.2 3, 1, .inr (.inl S1.2)))]) ++ mW g.2 mb R S2.1 S2.2) (by rw [List.append_nil]) ?_
  have hr3 : r3 = nI (cOn (xs (i + 1))) := hp3.trans e1
  subst hr3
  refine z_il (pc := 898) hC 1 rfl dL_law_898 ?_
  refine z_iceq (pc := 900) hC 905 (by decide) dL_law_900 (fun _ => ?_) (fun q => absurd rfl q)
  refine z_il (pc := 905) hC 1 rfl dL_law_905 ?_
  refine z_ifne (pc := 907) hC 922 (by decide) dL_law_907 (fun q => ?_) (fun q => ?_)
  · have hc : ¬ cOn (xs (i + 1)) = 0 := fun z => q (by rw [z]; rfl)
    refine z_goto (pc := 922) hC 1355 (by decide) dL_law_922 ?_
    refine z_lv [2, 3, 4, 5, 6] rfl ?_
    exact kk _ ⟨S1.1.1, S1.1.2.1, S1.1.2.2.1, R, s, S1.1.2.2.2.1, S1.1.2.2.2.2, H, t, Lt, S1.2, S2.1, S2.2, hG, hp1 hc, e3 hc, hH, by simp only [if_neg hc]; try rfl⟩
  · have hc : cOn (xs (i + 1)) = 0 := (nI_eq (by omega) (by omega)).mp (q.trans nI_0.symm)
    refine z_aln (pc := 910) hC 6 rfl dL_law_910 ?_
    refine z_iconst (pc := 911) (v := nI 0) hC dL_law_911 (by decide) ?_
    refine z_lald (pc := 912) hC 141 rfl dL_law_912 0 rfl (by decide) (by decide) ?_
    refine z_il (pc := 913) hC 0 rfl dL_law_913 ?_
    refine z_i2l (pc := 915) (v := r2.toInt64) hC rfl dL_law_915 ?_
    refine z_lcmp0 (pc := 916) hC ((hp0 hc).2.trans (by rw [(e2 hc).2])) dL_law_916 ?_
    refine z_ifeq (pc := 917) hC 922 (by decide) dL_law_917 (fun _ => ?_) (fun q => absurd rfl q)
    refine z_goto (pc := 922) hC 1355 (by decide) dL_law_922 ?_
    refine z_lv [2, 3, 4, 5, 6] rfl ?_
    exact kk _ ⟨S1.1.1, S1.1.2.1, S1.1.2.2.1, R, s, S1.1.2.2.2.1, S1.1.2.2.2.2, H, t, Lt, S1.2, S2.1, S2.2, hG, (hp0 hc).1, (e2 hc).1, hH, by simp only [if_pos hc]; try rfl⟩

theorem wL_job : wM yL_job cL_job 5 [(0, 10, 13, 21), (0, 10, 17, 13)] 4 := ⟨in_aw 706 (by decide +kernel) (by decide +kernel), in_aw 37 (by decide +kernel) (by decide +kernel), in_aw 707 (by decide +kernel) (by decide +kernel), ⟨by decide, by decide, by decide +kernel⟩, by decide⟩
set_option maxRecDepth 100000 in
set_option maxHeartbeats 4000000 in
theorem lc_job {g : zG} {C : zC} {b L : Nat} {xs : Nat → Int32} {x : Nat} {u c a h : Nat → Nat} {e : Nat → Nat → Nat} {mb : Nat → Nat} {o : Nat} (hO : lOK g C b L xs) {i : Nat} (hi : i + 5 ≤ L) {k n : Nat} (hk : k + 1 ≤ 601024 ∧ n + 6 ≤ 7293034) {ws : va_W} (hI : lI g.2 x u c a h e mb o ws) (kk : ∀ ws', lI g.2 x u c a h e mb o ws' → Z g C (k + 1) (n + 6) ws' (lL b x (mb 0) o i) 1355 []) : Z g C k n ws (lL b x (mb 0) o i) 951 [] := by
  obtain ⟨Q, P, T, R, s, p, K, H, t, Lt, f, F, V, hG, hX, hM, hH, rfl⟩ := hI
  obtain ⟨hC, hm, hXs, hbl, hbA, h0, hZX, hNc, hL⟩ := id hO
  refine z_w (ws' := (xW g.2 x u c a h e Q P T R (nI s) (nI p) K ++ [(o, .inl (g.2 3, 1, .inr (.inl f)))]) ++ mW g.2 mb R F V) rfl ?_
  have hcd : cJob R (xs (i + 1)) (xs (i + 2)) ≤ 2 := by unfold cJob; (repeat' split) <;> omega
  refine z_aln (pc := 951) hC 2 rfl dL_law_951 ?_
  refine z_arg (pc := 952) hO 1 (by decide) (by omega) 0 1 rfl rfl dL_law_952 dL_law_953 dL_law_955 dL_law_956 dL_law_957 ?_
  refine z_arg (pc := 958) hO 2 (by decide) (by omega) 0 1 rfl rfl dL_law_958 dL_law_959 dL_law_961 dL_law_962 dL_law_963 ?_
  refine z_aln (pc := 964) hC 4 rfl dL_law_964 ?_
  refine z_sw (pc := 965) (rest := []) (As := [.ref x, .int (xs (i + 1)), .int (xs (i + 2)), .ref o]) hC h0 hZX hNc wL_job lL_138 dL_law_965 (w_job hG hX) [] (mW g.2 mb R F V) rfl rfl rfl (Nat.le_of_ble_eq_true rfl) (Nat.le_of_ble_eq_true rfl) hk (fun r S1 hp => ?_)
  obtain ⟨hr, hp0, hp1⟩ := hp
  subst hr
  refine z_w (ws' := (xW g.2 x u c a h e S1.1.1 S1.1.2.1 S1.1.2.2.1 ((if cJob R (xs (i + 1)) (xs (i + 2)) = 0 then R else R)) (nI ((if cJob R (xs (i + 1)) (xs (i + 2)) = 0 then s else s))) (nI S1.1.2.2.2.1) S1.1.2.2.2.2 ++ [(o, .inl (g.2 3, 1, .inr (.inl S1.2)))]) ++ mW g.2 mb R F V) rfl ?_
  refine z_is (pc := 968) (lv' := (5, .int (nI (cJob R (xs (i + 1)) (xs (i + 2))))) :: lL b x (mb 0) o i) hC hm (by decide) rfl dL_law_968 ?_
  refine z_aln (pc := 970) hC 4 rfl dL_law_970 ?_
  refine z_arg (pc := 971) hO 1 (by decide) (by omega) 1 2 rfl rfl dL_law_971 dL_law_972 dL_law_974 dL_law_975 dL_law_976 ?_
  refine z_arg (pc := 977) hO 2 (by decide) (by omega) 1 2 rfl rfl dL_law_977 dL_law_978 dL_law_980 dL_law_981 dL_law_982 ?_
  refine z_vi (pc := 983) (rest := []) (As := [.int (xs (i + 1)), .int (xs (i + 2))]) hC vX6_job lL_140 dL_law_983 (m_job hG hM) (xW g.2 x u c a h e S1.1.1 S1.1.2.1 S1.1.2.2.1 ((if cJob R (xs (i + 1)) (xs (i + 2)) = 0 then R else R)) (nI ((if cJob R (xs (i + 1)) (xs (i + 2)) = 0 then s else s))) (nI S1.1.2.2.2.1) S1.1.2.2.2.2 ++ [(o, .inl (g.2 3, 1, .inr (.inl S1.2)))]) [] (by rw [List.append_nil]) 0 6 rfl rfl rfl rfl rfl (Nat.le_of_ble_eq_true rfl) (Nat.le_of_ble_eq_true rfl) hk (fun r2 S2 hp2 => ?_)
  obtain ⟨e1, e2, e3⟩ := hp2
  refine z_w (ws' := (xW g.2 x u c a h e S1.1.1 S1.1.2.1 S1.1.2.2.1 ((if cJob R (xs (i + 1)) (xs (i + 2)) = 0 then R else R)) (nI ((if cJob R (xs (i + 1)) (xs (i + 2)) = 0 then s else s))) (nI S1.1.2.2.2.1) S1.1.2.2.2.2 ++ [(o, .inl (g.2 3, 1, .inr (.inl S1.2)))]) ++ mW g.2 mb R S2.1 S2.2) (by rw [List.append_nil]) ?_
  refine z_is (pc := 986) (lv' := (6, .int r2) :: (5, .int (nI (cJob R (xs (i + 1)) (xs (i + 2))))) :: lL b x (mb 0) o i) hC hm (by decide) rfl dL_law_986 ?_
  refine z_aln (pc := 988) hC 5 rfl dL_law_988 ?_
  refine z_vi (pc := 989) (rest := []) (As := []) hC vX6_thrown lL_82 dL_law_989 (m_thrown (R := R) (F := S2.1) (V := S2.2)) (xW g.2 x u c a h e S1.1.1 S1.1.2.1 S1.1.2.2.1 ((if cJob R (xs (i + 1)) (xs (i + 2)) = 0 then R else R)) (nI ((if cJob R (xs (i + 1)) (xs (i + 2)) = 0 then s else s))) (nI S1.1.2.2.2.1) S1.1.2.2.2.2 ++ [(o, .inl (g.2 3, 1, .inr (.inl S1.2)))]) [] (by rw [List.append_nil]) 0 6 rfl rfl rfl rfl rfl (Nat.le_of_ble_eq_true rfl) (Nat.le_of_ble_eq_true rfl) hk (fun r3 _ hp3 => ?_)
  refine z_w (ws' := (xW g.2 x u c a h e S1.1.1 S1.1.2.1 S1.1.2.2.1 ((if cJob R (xs (i + 1)) (xs (i + 2)) = 0 then R else R)) (nI ((if cJob R (xs (i + 1)) (xs (i + 2)) = 0 then s else s))) (nI S1.1.2.2.2.1) S1.1.2.2.2.2 ++ [(o, .inl (g.2 3, 1, .inr (.inl S1.2)))]) ++ mW g.2 mb R S2.1 S2.2) (by rw [List.append_nil]) ?_
  have hr3 : r3 = nI (cJob R (xs (i + 1)) (xs (i + 2))) := hp3.trans e1
  subst hr3
  refine z_il (pc := 992) hC 1 rfl dL_law_992 ?_
  refine z_iceq (pc := 994) hC 999 (by decide) dL_law_994 (fun _ => ?_) (fun q => absurd rfl q)
  refine z_il (pc := 999) hC 1 rfl dL_law_999 ?_
  refine z_ifne (pc := 1001) hC 1016 (by decide) dL_law_1001 (fun q => ?_) (fun q => ?_)
  · have hc : ¬ cJob R (xs (i + 1)) (xs (i + 2)) = 0 := fun z => q (by rw [z]; rfl)
    refine z_goto (pc := 1016) hC 1355 (by decide) dL_law_1016 ?_
    refine z_lv [2, 3, 4, 5, 6] rfl ?_
    exact kk _ ⟨S1.1.1, S1.1.2.1, S1.1.2.2.1, R, s, S1.1.2.2.2.1, S1.1.2.2.2.2, H, t, Lt, S1.2, S2.1, S2.2, hG, hp1 hc, e3 hc, hH, by simp only [if_neg hc]; try rfl⟩
  · have hc : cJob R (xs (i + 1)) (xs (i + 2)) = 0 := (nI_eq (by omega) (by omega)).mp (q.trans nI_0.symm)
    refine z_aln (pc := 1004) hC 6 rfl dL_law_1004 ?_
    refine z_iconst (pc := 1005) (v := nI 0) hC dL_law_1005 (by decide) ?_
    refine z_lald (pc := 1006) hC 141 rfl dL_law_1006 0 rfl (by decide) (by decide) ?_
    refine z_il (pc := 1007) hC 0 rfl dL_law_1007 ?_
    refine z_i2l (pc := 1009) (v := r2.toInt64) hC rfl dL_law_1009 ?_
    refine z_lcmp0 (pc := 1010) hC ((hp0 hc).2.trans (by rw [(e2 hc).2])) dL_law_1010 ?_
    refine z_ifeq (pc := 1011) hC 1016 (by decide) dL_law_1011 (fun _ => ?_) (fun q => absurd rfl q)
    refine z_goto (pc := 1016) hC 1355 (by decide) dL_law_1016 ?_
    refine z_lv [2, 3, 4, 5, 6] rfl ?_
    exact kk _ ⟨S1.1.1, S1.1.2.1, S1.1.2.2.1, R, s, S1.1.2.2.2.1, S1.1.2.2.2.2, H, t, Lt, S1.2, S2.1, S2.2, hG, (hp0 hc).1, (e2 hc).1, hH, by simp only [if_pos hc]; try rfl⟩

theorem wL_isStuck : wM yL_isStuck cL_isStuck 4 [(0, 16, 19, 21)] 3 := ⟨in_aw 714 (by decide +kernel) (by decide +kernel), in_aw 37 (by decide +kernel) (by decide +kernel), in_aw 715 (by decide +kernel) (by decide +kernel), ⟨by decide, by decide, by decide +kernel⟩, by decide⟩
set_option maxRecDepth 100000 in
set_option maxHeartbeats 4000000 in
theorem lc_isStuck {g : zG} {C : zC} {b L : Nat} {xs : Nat → Int32} {x : Nat} {u c a h : Nat → Nat} {e : Nat → Nat → Nat} {mb : Nat → Nat} {o : Nat} (hO : lOK g C b L xs) {i : Nat} (hi : i + 5 ≤ L) {k n : Nat} (hk : k + 1 ≤ 601024 ∧ n + 6 ≤ 7293034) {ws : va_W} (hI : lI g.2 x u c a h e mb o ws) (kk : ∀ ws', lI g.2 x u c a h e mb o ws' → Z g C (k + 1) (n + 6) ws' (lL b x (mb 0) o i) 1355 []) : Z g C k n ws (lL b x (mb 0) o i) 1019 [] := by
  obtain ⟨Q, P, T, R, s, p, K, H, t, Lt, f, F, V, hG, hX, hM, hH, rfl⟩ := hI
  obtain ⟨hC, hm, hXs, hbl, hbA, h0, hZX, hNc, hL⟩ := id hO
  refine z_w (ws' := (xW g.2 x u c a h e Q P T R (nI s) (nI p) K ++ [(o, .inl (g.2 3, 1, .inr (.inl f)))]) ++ mW g.2 mb R F V) rfl ?_
  have hcd : cIs R (xs (i + 1)) ≤ 2 := by unfold cIs; (repeat' split) <;> omega
  refine z_aln (pc := 1019) hC 2 rfl dL_law_1019 ?_
  refine z_arg (pc := 1020) hO 1 (by decide) (by omega) 0 1 rfl rfl dL_law_1020 dL_law_1021 dL_law_1023 dL_law_1024 dL_law_1025 ?_
  refine z_aln (pc := 1026) hC 4 rfl dL_law_1026 ?_
  refine z_sw (pc := 1027) (rest := []) (As := [.ref x, .int (xs (i + 1)), .ref o]) hC h0 hZX hNc wL_isStuck lL_141 dL_law_1027 (w_isStuck hG hX) [] (mW g.2 mb R F V) rfl rfl rfl (Nat.le_of_ble_eq_true rfl) (Nat.le_of_ble_eq_true rfl) hk (fun r S1 hp => ?_)
  obtain ⟨hr, hp0, hp1⟩ := hp
  subst hr
  refine z_w (ws' := (xW g.2 x u c a h e S1.1.1 S1.1.2.1 S1.1.2.2.1 ((if cIs R (xs (i + 1)) = 0 then R else R)) (nI ((if cIs R (xs (i + 1)) = 0 then s else s))) (nI S1.1.2.2.2.1) S1.1.2.2.2.2 ++ [(o, .inl (g.2 3, 1, .inr (.inl S1.2)))]) ++ mW g.2 mb R F V) rfl ?_
  refine z_is (pc := 1030) (lv' := (5, .int (nI (cIs R (xs (i + 1))))) :: lL b x (mb 0) o i) hC hm (by decide) rfl dL_law_1030 ?_
  refine z_aln (pc := 1032) hC 4 rfl dL_law_1032 ?_
  refine z_arg (pc := 1033) hO 1 (by decide) (by omega) 1 2 rfl rfl dL_law_1033 dL_law_1034 dL_law_1036 dL_law_1037 dL_law_1038 ?_
  refine z_vi (pc := 1039) (rest := []) (As := [.int (xs (i + 1))]) hC vX6_isStuck lL_143 dL_law_1039 (m_isStuck hG hM) (xW g.2 x u c a h e S1.1.1 S1.1.2.1 S1.1.2.2.1 ((if cIs R (xs (i + 1)) = 0 then R else R)) (nI ((if cIs R (xs (i + 1)) = 0 then s else s))) (nI S1.1.2.2.2.1) S1.1.2.2.2.2 ++ [(o, .inl (g.2 3, 1, .inr (.inl S1.2)))]) [] (by rw [List.append_nil]) 0 6 rfl rfl rfl rfl rfl (Nat.le_of_ble_eq_true rfl) (Nat.le_of_ble_eq_true rfl) hk (fun r2 S2 hp2 => ?_)
  obtain ⟨e1, e2, e3⟩ := hp2
  refine z_w (ws' := (xW g.2 x u c a h e S1.1.1 S1.1.2.1 S1.1.2.2.1 ((if cIs R (xs (i + 1)) = 0 then R else R)) (nI ((if cIs R (xs (i + 1)) = 0 then s else s))) (nI S1.1.2.2.2.1) S1.1.2.2.2.2 ++ [(o, .inl (g.2 3, 1, .inr (.inl S1.2)))]) ++ mW g.2 mb R S2.1 S2.2) (by rw [List.append_nil]) ?_
  refine z_is (pc := 1042) (lv' := (6, .int r2) :: (5, .int (nI (cIs R (xs (i + 1))))) :: lL b x (mb 0) o i) hC hm (by decide) rfl dL_law_1042 ?_
  refine z_aln (pc := 1044) hC 5 rfl dL_law_1044 ?_
  refine z_vi (pc := 1045) (rest := []) (As := []) hC vX6_thrown lL_82 dL_law_1045 (m_thrown (R := R) (F := S2.1) (V := S2.2)) (xW g.2 x u c a h e S1.1.1 S1.1.2.1 S1.1.2.2.1 ((if cIs R (xs (i + 1)) = 0 then R else R)) (nI ((if cIs R (xs (i + 1)) = 0 then s else s))) (nI S1.1.2.2.2.1) S1.1.2.2.2.2 ++ [(o, .inl (g.2 3, 1, .inr (.inl S1.2)))]) [] (by rw [List.append_nil]) 0 6 rfl rfl rfl rfl rfl (Nat.le_of_ble_eq_true rfl) (Nat.le_of_ble_eq_true rfl) hk (fun r3 _ hp3 => ?_)
  refine z_w (ws' := (xW g.2 x u c a h e S1.1.1 S1.1.2.1 S1.1.2.2.1 ((if cIs R (xs (i + 1)) = 0 then R else R)) (nI ((if cIs R (xs (i + 1)) = 0 then s else s))) (nI S1.1.2.2.2.1) S1.1.2.2.2.2 ++ [(o, .inl (g.2 3, 1, .inr (.inl S1.2)))]) ++ mW g.2 mb R S2.1 S2.2) (by rw [List.append_nil]) ?_
  have hr3 : r3 = nI (cIs R (xs (i + 1))) := hp3.trans e1
  subst hr3
  refine z_il (pc := 1048) hC 1 rfl dL_law_1048 ?_
  refine z_iceq (pc := 1050) hC 1055 (by decide) dL_law_1050 (fun _ => ?_) (fun q => absurd rfl q)
  refine z_il (pc := 1055) hC 1 rfl dL_law_1055 ?_
  refine z_ifne (pc := 1057) hC 1079 (by decide) dL_law_1057 (fun q => ?_) (fun q => ?_)
  · have hc : ¬ cIs R (xs (i + 1)) = 0 := fun z => q (by rw [z]; rfl)
    refine z_goto (pc := 1079) hC 1355 (by decide) dL_law_1079 ?_
    refine z_lv [2, 3, 4, 5, 6] rfl ?_
    exact kk _ ⟨S1.1.1, S1.1.2.1, S1.1.2.2.1, R, s, S1.1.2.2.2.1, S1.1.2.2.2.2, H, t, Lt, S1.2, S2.1, S2.2, hG, hp1 hc, e3 hc, hH, by simp only [if_neg hc]; try rfl⟩
  · have hc : cIs R (xs (i + 1)) = 0 := (nI_eq (by omega) (by omega)).mp (q.trans nI_0.symm)
    refine z_aln (pc := 1060) hC 6 rfl dL_law_1060 ?_
    refine z_iconst (pc := 1061) (v := nI 0) hC dL_law_1061 (by decide) ?_
    refine z_lald (pc := 1062) hC 141 rfl dL_law_1062 0 rfl (by decide) (by decide) ?_
    refine z_il (pc := 1063) hC 0 rfl dL_law_1063 ?_
    have hv := (e2 hc).2
    refine z_ifeq (pc := 1065) hC 1072 (by decide) dL_law_1065 (fun q1 => ?_) (fun q1 => ?_)
    · refine z_lconst (pc := 1072) (v := 0) hC dL_law_1072 (by decide) ?_
      refine z_lcmp0 (pc := 1073) hC ((hp0 hc).2.trans (by rw [← hv, q1]; rfl)) dL_law_1073 ?_
      refine z_ifeq (pc := 1074) hC 1079 (by decide) dL_law_1074 (fun _ => ?_) (fun q => absurd rfl q)
      refine z_goto (pc := 1079) hC 1355 (by decide) dL_law_1079 ?_
      refine z_lv [2, 3, 4, 5, 6] rfl ?_
      exact kk _ ⟨S1.1.1, S1.1.2.1, S1.1.2.2.1, R, s, S1.1.2.2.2.1, S1.1.2.2.2.2, H, t, Lt, S1.2, S2.1, S2.2, hG, (hp0 hc).1, (e2 hc).1, hH, by simp only [if_pos hc]; try rfl⟩
    · have hr1 : r2 = 1 := ((show r2 = 0 ∨ r2 = 1 by rw [hv]; exact vs_01).resolve_left q1)
      refine z_lconst (pc := 1068) (v := 1) hC dL_law_1068 (by decide) ?_
      refine z_goto (pc := 1069) hC 1073 (by decide) dL_law_1069 ?_
      refine z_lcmp0 (pc := 1073) hC ((hp0 hc).2.trans (by rw [← hv, hr1]; rfl)) dL_law_1073 ?_
      refine z_ifeq (pc := 1074) hC 1079 (by decide) dL_law_1074 (fun _ => ?_) (fun q => absurd rfl q)
      refine z_goto (pc := 1079) hC 1355 (by decide) dL_law_1079 ?_
      refine z_lv [2, 3, 4, 5, 6] rfl ?_
      exact kk _ ⟨S1.1.1, S1.1.2.1, S1.1.2.2.1, R, s, S1.1.2.2.2.1, S1.1.2.2.2.2, H, t, Lt, S1.2, S2.1, S2.2, hG, (hp0 hc).1, (e2 hc).1, hH, by simp only [if_pos hc]; try rfl⟩

theorem wL_verdict : wM yL_verdict cL_verdict 5 [(0, 10, 13, 21)] 4 := ⟨in_aw 722 (by decide +kernel) (by decide +kernel), in_aw 37 (by decide +kernel) (by decide +kernel), in_aw 723 (by decide +kernel) (by decide +kernel), ⟨by decide, by decide, by decide +kernel⟩, by decide⟩
set_option maxRecDepth 100000 in
set_option maxHeartbeats 4000000 in
theorem lc_verdict {g : zG} {C : zC} {b L : Nat} {xs : Nat → Int32} {x : Nat} {u c a h : Nat → Nat} {e : Nat → Nat → Nat} {mb : Nat → Nat} {o : Nat} (hO : lOK g C b L xs) {i : Nat} (hi : i + 5 ≤ L) {k n : Nat} (hk : k + 1 ≤ 601024 ∧ n + 6 ≤ 7293034) {ws : va_W} (hI : lI g.2 x u c a h e mb o ws) (kk : ∀ ws', lI g.2 x u c a h e mb o ws' → Z g C (k + 1) (n + 6) ws' (lL b x (mb 0) o i) 1355 []) : Z g C k n ws (lL b x (mb 0) o i) 1082 [] := by
  obtain ⟨Q, P, T, R, s, p, K, H, t, Lt, f, F, V, hG, hX, hM, hH, rfl⟩ := hI
  obtain ⟨hC, hm, hXs, hbl, hbA, h0, hZX, hNc, hL⟩ := id hO
  refine z_w (ws' := (xW g.2 x u c a h e Q P T R (nI s) (nI p) K ++ [(o, .inl (g.2 3, 1, .inr (.inl f)))]) ++ mW g.2 mb R F V) rfl ?_
  have hcd : cVer R (xs (i + 1)) (xs (i + 2)) ≤ 2 := by unfold cVer; (repeat' split) <;> omega
  refine z_aln (pc := 1082) hC 2 rfl dL_law_1082 ?_
  refine z_arg (pc := 1083) hO 1 (by decide) (by omega) 0 1 rfl rfl dL_law_1083 dL_law_1084 dL_law_1086 dL_law_1087 dL_law_1088 ?_
  refine z_arg (pc := 1089) hO 2 (by decide) (by omega) 0 1 rfl rfl dL_law_1089 dL_law_1090 dL_law_1092 dL_law_1093 dL_law_1094 ?_
  refine z_aln (pc := 1095) hC 4 rfl dL_law_1095 ?_
  refine z_sw (pc := 1096) (rest := []) (As := [.ref x, .int (xs (i + 1)), .int (xs (i + 2)), .ref o]) hC h0 hZX hNc wL_verdict lL_144 dL_law_1096 (w_verdict hG hX) [] (mW g.2 mb R F V) rfl rfl rfl (Nat.le_of_ble_eq_true rfl) (Nat.le_of_ble_eq_true rfl) hk (fun r S1 hp => ?_)
  obtain ⟨hr, hp0, hp1⟩ := hp
  subst hr
  refine z_w (ws' := (xW g.2 x u c a h e S1.1.1 S1.1.2.1 S1.1.2.2.1 ((if cVer R (xs (i + 1)) (xs (i + 2)) = 0 then R else R)) (nI ((if cVer R (xs (i + 1)) (xs (i + 2)) = 0 then s else s))) (nI S1.1.2.2.2.1) S1.1.2.2.2.2 ++ [(o, .inl (g.2 3, 1, .inr (.inl S1.2)))]) ++ mW g.2 mb R F V) rfl ?_
  refine z_is (pc := 1099) (lv' := (5, .int (nI (cVer R (xs (i + 1)) (xs (i + 2))))) :: lL b x (mb 0) o i) hC hm (by decide) rfl dL_law_1099 ?_
  refine z_aln (pc := 1101) hC 4 rfl dL_law_1101 ?_
  refine z_arg (pc := 1102) hO 1 (by decide) (by omega) 1 2 rfl rfl dL_law_1102 dL_law_1103 dL_law_1105 dL_law_1106 dL_law_1107 ?_
  refine z_arg (pc := 1108) hO 2 (by decide) (by omega) 1 2 rfl rfl dL_law_1108 dL_law_1109 dL_law_1111 dL_law_1112 dL_law_1113 ?_
  refine z_vi (pc := 1114) (rest := []) (As := [.int (xs (i + 1)), .int (xs (i + 2))]) hC vX6_verdict lL_146 dL_law_1114 (m_verdict hG hM) (xW g.2 x u c a h e S1.1.1 S1.1.2.1 S1.1.2.2.1 ((if cVer R (xs (i + 1)) (xs (i + 2)) = 0 then R else R)) (nI ((if cVer R (xs (i + 1)) (xs (i + 2)) = 0 then s else s))) (nI S1.1.2.2.2.1) S1.1.2.2.2.2 ++ [(o, .inl (g.2 3, 1, .inr (.inl S1.2)))]) [] (by rw [List.append_nil]) 0 6 rfl rfl rfl rfl rfl (Nat.le_of_ble_eq_true rfl) (Nat.le_of_ble_eq_true rfl) hk (fun r2 S2 hp2 => ?_)
  obtain ⟨e1, e2, e3⟩ := hp2
  refine z_w (ws' := (xW g.2 x u c a h e S1.1.1 S1.1.2.1 S1.1.2.2.1 ((if cVer R (xs (i + 1)) (xs (i + 2)) = 0 then R else R)) (nI ((if cVer R (xs (i + 1)) (xs (i + 2)) = 0 then s else s))) (nI S1.1.2.2.2.1) S1.1.2.2.2.2 ++ [(o, .inl (g.2 3, 1, .inr (.inl S1.2)))]) ++ mW g.2 mb R S2.1 S2.2) (by rw [List.append_nil]) ?_
  refine z_is (pc := 1117) (lv' := (6, .int r2) :: (5, .int (nI (cVer R (xs (i + 1)) (xs (i + 2))))) :: lL b x (mb 0) o i) hC hm (by decide) rfl dL_law_1117 ?_
  refine z_aln (pc := 1119) hC 5 rfl dL_law_1119 ?_
  refine z_vi (pc := 1120) (rest := []) (As := []) hC vX6_thrown lL_82 dL_law_1120 (m_thrown (R := R) (F := S2.1) (V := S2.2)) (xW g.2 x u c a h e S1.1.1 S1.1.2.1 S1.1.2.2.1 ((if cVer R (xs (i + 1)) (xs (i + 2)) = 0 then R else R)) (nI ((if cVer R (xs (i + 1)) (xs (i + 2)) = 0 then s else s))) (nI S1.1.2.2.2.1) S1.1.2.2.2.2 ++ [(o, .inl (g.2 3, 1, .inr (.inl S1.2)))]) [] (by rw [List.append_nil]) 0 6 rfl rfl rfl rfl rfl (Nat.le_of_ble_eq_true rfl) (Nat.le_of_ble_eq_true rfl) hk (fun r3 _ hp3 => ?_)
  refine z_w (ws' := (xW g.2 x u c a h e S1.1.1 S1.1.2.1 S1.1.2.2.1 ((if cVer R (xs (i + 1)) (xs (i + 2)) = 0 then R else R)) (nI ((if cVer R (xs (i + 1)) (xs (i + 2)) = 0 then s else s))) (nI S1.1.2.2.2.1) S1.1.2.2.2.2 ++ [(o, .inl (g.2 3, 1, .inr (.inl S1.2)))]) ++ mW g.2 mb R S2.1 S2.2) (by rw [List.append_nil]) ?_
  have hr3 : r3 = nI (cVer R (xs (i + 1)) (xs (i + 2))) := hp3.trans e1
  subst hr3
  refine z_il (pc := 1123) hC 1 rfl dL_law_1123 ?_
  refine z_iceq (pc := 1125) hC 1130 (by decide) dL_law_1125 (fun _ => ?_) (fun q => absurd rfl q)
  refine z_il (pc := 1130) hC 1 rfl dL_law_1130 ?_
  refine z_ifne (pc := 1132) hC 1147 (by decide) dL_law_1132 (fun q => ?_) (fun q => ?_)
  · have hc : ¬ cVer R (xs (i + 1)) (xs (i + 2)) = 0 := fun z => q (by rw [z]; rfl)
    refine z_goto (pc := 1147) hC 1355 (by decide) dL_law_1147 ?_
    refine z_lv [2, 3, 4, 5, 6] rfl ?_
    exact kk _ ⟨S1.1.1, S1.1.2.1, S1.1.2.2.1, R, s, S1.1.2.2.2.1, S1.1.2.2.2.2, H, t, Lt, S1.2, S2.1, S2.2, hG, hp1 hc, e3 hc, hH, by simp only [if_neg hc]; try rfl⟩
  · have hc : cVer R (xs (i + 1)) (xs (i + 2)) = 0 := (nI_eq (by omega) (by omega)).mp (q.trans nI_0.symm)
    refine z_aln (pc := 1135) hC 6 rfl dL_law_1135 ?_
    refine z_iconst (pc := 1136) (v := nI 0) hC dL_law_1136 (by decide) ?_
    refine z_lald (pc := 1137) hC 141 rfl dL_law_1137 0 rfl (by decide) (by decide) ?_
    refine z_il (pc := 1138) hC 0 rfl dL_law_1138 ?_
    refine z_i2l (pc := 1140) (v := r2.toInt64) hC rfl dL_law_1140 ?_
    refine z_lcmp0 (pc := 1141) hC ((hp0 hc).2.trans (by rw [(e2 hc).2])) dL_law_1141 ?_
    refine z_ifeq (pc := 1142) hC 1147 (by decide) dL_law_1142 (fun _ => ?_) (fun q => absurd rfl q)
    refine z_goto (pc := 1147) hC 1355 (by decide) dL_law_1147 ?_
    refine z_lv [2, 3, 4, 5, 6] rfl ?_
    exact kk _ ⟨S1.1.1, S1.1.2.1, S1.1.2.2.1, R, s, S1.1.2.2.2.1, S1.1.2.2.2.2, H, t, Lt, S1.2, S2.1, S2.2, hG, (hp0 hc).1, (e2 hc).1, hH, by simp only [if_pos hc]; try rfl⟩

theorem wL_minutesToDone : wM yL_minutesToDone cL_minutesToDone 4 [(0, 9, 12, 21)] 3 := ⟨in_aw 731 (by decide +kernel) (by decide +kernel), in_aw 37 (by decide +kernel) (by decide +kernel), in_aw 732 (by decide +kernel) (by decide +kernel), ⟨by decide, by decide, by decide +kernel⟩, by decide⟩
set_option maxRecDepth 100000 in
set_option maxHeartbeats 4000000 in
theorem lc_minutesToDone {g : zG} {C : zC} {b L : Nat} {xs : Nat → Int32} {x : Nat} {u c a h : Nat → Nat} {e : Nat → Nat → Nat} {mb : Nat → Nat} {o : Nat} (hO : lOK g C b L xs) {i : Nat} (hi : i + 5 ≤ L) {k n : Nat} (hk : k + 1 ≤ 601024 ∧ n + 6 ≤ 7293034) {ws : va_W} (hI : lI g.2 x u c a h e mb o ws) (kk : ∀ ws', lI g.2 x u c a h e mb o ws' → Z g C (k + 1) (n + 6) ws' (lL b x (mb 0) o i) 1355 []) : Z g C k n ws (lL b x (mb 0) o i) 1176 [] := by
  obtain ⟨Q, P, T, R, s, p, K, H, t, Lt, f, F, V, hG, hX, hM, hH, rfl⟩ := hI
  obtain ⟨hC, hm, hXs, hbl, hbA, h0, hZX, hNc, hL⟩ := id hO
  refine z_w (ws' := (xW g.2 x u c a h e Q P T R (nI s) (nI p) K ++ [(o, .inl (g.2 3, 1, .inr (.inl f)))]) ++ mW g.2 mb R F V) rfl ?_
  have hcd : cIs R (xs (i + 1)) ≤ 2 := by unfold cIs; (repeat' split) <;> omega
  refine z_aln (pc := 1176) hC 2 rfl dL_law_1176 ?_
  refine z_arg (pc := 1177) hO 1 (by decide) (by omega) 0 1 rfl rfl dL_law_1177 dL_law_1178 dL_law_1180 dL_law_1181 dL_law_1182 ?_
  refine z_aln (pc := 1183) hC 4 rfl dL_law_1183 ?_
  refine z_sw (pc := 1184) (rest := []) (As := [.ref x, .int (xs (i + 1)), .ref o]) hC h0 hZX hNc wL_minutesToDone lL_155 dL_law_1184 (w_minutesToDone hG hX) [] (mW g.2 mb R F V) rfl rfl rfl (Nat.le_of_ble_eq_true rfl) (Nat.le_of_ble_eq_true rfl) hk (fun r S1 hp => ?_)
  obtain ⟨hr, hp0, hp1⟩ := hp
  subst hr
  refine z_w (ws' := (xW g.2 x u c a h e S1.1.1 S1.1.2.1 S1.1.2.2.1 ((if cIs R (xs (i + 1)) = 0 then R else R)) (nI ((if cIs R (xs (i + 1)) = 0 then s else s))) (nI S1.1.2.2.2.1) S1.1.2.2.2.2 ++ [(o, .inl (g.2 3, 1, .inr (.inl S1.2)))]) ++ mW g.2 mb R F V) rfl ?_
  refine z_is (pc := 1187) (lv' := (5, .int (nI (cIs R (xs (i + 1))))) :: lL b x (mb 0) o i) hC hm (by decide) rfl dL_law_1187 ?_
  refine z_aln (pc := 1189) hC 4 rfl dL_law_1189 ?_
  refine z_arg (pc := 1190) hO 1 (by decide) (by omega) 1 2 rfl rfl dL_law_1190 dL_law_1191 dL_law_1193 dL_law_1194 dL_law_1195 ?_
  refine z_vi (pc := 1196) (rest := []) (As := [.int (xs (i + 1))]) hC vX6_minutesToDone lL_157 dL_law_1196 (m_minutesToDone hG hM) (xW g.2 x u c a h e S1.1.1 S1.1.2.1 S1.1.2.2.1 ((if cIs R (xs (i + 1)) = 0 then R else R)) (nI ((if cIs R (xs (i + 1)) = 0 then s else s))) (nI S1.1.2.2.2.1) S1.1.2.2.2.2 ++ [(o, .inl (g.2 3, 1, .inr (.inl S1.2)))]) [] (by rw [List.append_nil]) 0 6 rfl rfl rfl rfl rfl (Nat.le_of_ble_eq_true rfl) (Nat.le_of_ble_eq_true rfl) hk (fun r2 S2 hp2 => ?_)
  obtain ⟨e1, e2, e3⟩ := hp2
  refine z_w (ws' := (xW g.2 x u c a h e S1.1.1 S1.1.2.1 S1.1.2.2.1 ((if cIs R (xs (i + 1)) = 0 then R else R)) (nI ((if cIs R (xs (i + 1)) = 0 then s else s))) (nI S1.1.2.2.2.1) S1.1.2.2.2.2 ++ [(o, .inl (g.2 3, 1, .inr (.inl S1.2)))]) ++ mW g.2 mb R S2.1 S2.2) (by rw [List.append_nil]) ?_
  refine z_is (pc := 1199) (lv' := (6, .int r2) :: (5, .int (nI (cIs R (xs (i + 1))))) :: lL b x (mb 0) o i) hC hm (by decide) rfl dL_law_1199 ?_
  refine z_aln (pc := 1201) hC 5 rfl dL_law_1201 ?_
  refine z_vi (pc := 1202) (rest := []) (As := []) hC vX6_thrown lL_82 dL_law_1202 (m_thrown (R := R) (F := S2.1) (V := S2.2)) (xW g.2 x u c a h e S1.1.1 S1.1.2.1 S1.1.2.2.1 ((if cIs R (xs (i + 1)) = 0 then R else R)) (nI ((if cIs R (xs (i + 1)) = 0 then s else s))) (nI S1.1.2.2.2.1) S1.1.2.2.2.2 ++ [(o, .inl (g.2 3, 1, .inr (.inl S1.2)))]) [] (by rw [List.append_nil]) 0 6 rfl rfl rfl rfl rfl (Nat.le_of_ble_eq_true rfl) (Nat.le_of_ble_eq_true rfl) hk (fun r3 _ hp3 => ?_)
  refine z_w (ws' := (xW g.2 x u c a h e S1.1.1 S1.1.2.1 S1.1.2.2.1 ((if cIs R (xs (i + 1)) = 0 then R else R)) (nI ((if cIs R (xs (i + 1)) = 0 then s else s))) (nI S1.1.2.2.2.1) S1.1.2.2.2.2 ++ [(o, .inl (g.2 3, 1, .inr (.inl S1.2)))]) ++ mW g.2 mb R S2.1 S2.2) (by rw [List.append_nil]) ?_
  have hr3 : r3 = nI (cIs R (xs (i + 1))) := hp3.trans e1
  subst hr3
  refine z_il (pc := 1205) hC 1 rfl dL_law_1205 ?_
  refine z_iceq (pc := 1207) hC 1212 (by decide) dL_law_1207 (fun _ => ?_) (fun q => absurd rfl q)
  refine z_il (pc := 1212) hC 1 rfl dL_law_1212 ?_
  refine z_ifne (pc := 1214) hC 1229 (by decide) dL_law_1214 (fun q => ?_) (fun q => ?_)
  · have hc : ¬ cIs R (xs (i + 1)) = 0 := fun z => q (by rw [z]; rfl)
    refine z_goto (pc := 1229) hC 1355 (by decide) dL_law_1229 ?_
    refine z_lv [2, 3, 4, 5, 6] rfl ?_
    exact kk _ ⟨S1.1.1, S1.1.2.1, S1.1.2.2.1, R, s, S1.1.2.2.2.1, S1.1.2.2.2.2, H, t, Lt, S1.2, S2.1, S2.2, hG, hp1 hc, e3 hc, hH, by simp only [if_neg hc]; try rfl⟩
  · have hc : cIs R (xs (i + 1)) = 0 := (nI_eq (by omega) (by omega)).mp (q.trans nI_0.symm)
    refine z_aln (pc := 1217) hC 6 rfl dL_law_1217 ?_
    refine z_iconst (pc := 1218) (v := nI 0) hC dL_law_1218 (by decide) ?_
    refine z_lald (pc := 1219) hC 141 rfl dL_law_1219 0 rfl (by decide) (by decide) ?_
    refine z_il (pc := 1220) hC 0 rfl dL_law_1220 ?_
    refine z_i2l (pc := 1222) (v := r2.toInt64) hC rfl dL_law_1222 ?_
    refine z_lcmp0 (pc := 1223) hC ((hp0 hc).2.trans (by rw [(e2 hc).2])) dL_law_1223 ?_
    refine z_ifeq (pc := 1224) hC 1229 (by decide) dL_law_1224 (fun _ => ?_) (fun q => absurd rfl q)
    refine z_goto (pc := 1229) hC 1355 (by decide) dL_law_1229 ?_
    refine z_lv [2, 3, 4, 5, 6] rfl ?_
    exact kk _ ⟨S1.1.1, S1.1.2.1, S1.1.2.2.1, R, s, S1.1.2.2.2.1, S1.1.2.2.2.2, H, t, Lt, S1.2, S2.1, S2.2, hG, (hp0 hc).1, (e2 hc).1, hH, by simp only [if_pos hc]; try rfl⟩

theorem wL_count : wM yL_count cL_count 4 [(0, 9, 12, 13)] 3 := ⟨in_aw 740 (by decide +kernel) (by decide +kernel), in_aw 37 (by decide +kernel) (by decide +kernel), in_aw 741 (by decide +kernel) (by decide +kernel), ⟨by decide, by decide, by decide +kernel⟩, by decide⟩
set_option maxRecDepth 100000 in
set_option maxHeartbeats 4000000 in
theorem lc_count {g : zG} {C : zC} {b L : Nat} {xs : Nat → Int32} {x : Nat} {u c a h : Nat → Nat} {e : Nat → Nat → Nat} {mb : Nat → Nat} {o : Nat} (hO : lOK g C b L xs) {i : Nat} (hi : i + 5 ≤ L) {k n : Nat} (hk : k + 1 ≤ 601024 ∧ n + 6 ≤ 7293034) {ws : va_W} (hI : lI g.2 x u c a h e mb o ws) (kk : ∀ ws', lI g.2 x u c a h e mb o ws' → Z g C (k + 1) (n + 6) ws' (lL b x (mb 0) o i) 1355 []) : Z g C k n ws (lL b x (mb 0) o i) 1232 [] := by
  obtain ⟨Q, P, T, R, s, p, K, H, t, Lt, f, F, V, hG, hX, hM, hH, rfl⟩ := hI
  obtain ⟨hC, hm, hXs, hbl, hbA, h0, hZX, hNc, hL⟩ := id hO
  refine z_w (ws' := (xW g.2 x u c a h e Q P T R (nI s) (nI p) K ++ [(o, .inl (g.2 3, 1, .inr (.inl f)))]) ++ mW g.2 mb R F V) rfl ?_
  have hcd : cCnt (xs (i + 1)) ≤ 2 := by unfold cCnt; (repeat' split) <;> omega
  refine z_aln (pc := 1232) hC 2 rfl dL_law_1232 ?_
  refine z_arg (pc := 1233) hO 1 (by decide) (by omega) 0 1 rfl rfl dL_law_1233 dL_law_1234 dL_law_1236 dL_law_1237 dL_law_1238 ?_
  refine z_aln (pc := 1239) hC 4 rfl dL_law_1239 ?_
  refine z_sw (pc := 1240) (rest := []) (As := [.ref x, .int (xs (i + 1)), .ref o]) hC h0 hZX hNc wL_count lL_158 dL_law_1240 (w_count hG hX) [] (mW g.2 mb R F V) rfl rfl rfl (Nat.le_of_ble_eq_true rfl) (Nat.le_of_ble_eq_true rfl) hk (fun r S1 hp => ?_)
  obtain ⟨hr, hp0, hp1⟩ := hp
  subst hr
  refine z_w (ws' := (xW g.2 x u c a h e S1.1.1 S1.1.2.1 S1.1.2.2.1 ((if cCnt (xs (i + 1)) = 0 then R else R)) (nI ((if cCnt (xs (i + 1)) = 0 then s else s))) (nI S1.1.2.2.2.1) S1.1.2.2.2.2 ++ [(o, .inl (g.2 3, 1, .inr (.inl S1.2)))]) ++ mW g.2 mb R F V) rfl ?_
  refine z_is (pc := 1243) (lv' := (5, .int (nI (cCnt (xs (i + 1))))) :: lL b x (mb 0) o i) hC hm (by decide) rfl dL_law_1243 ?_
  refine z_aln (pc := 1245) hC 4 rfl dL_law_1245 ?_
  refine z_arg (pc := 1246) hO 1 (by decide) (by omega) 1 2 rfl rfl dL_law_1246 dL_law_1247 dL_law_1249 dL_law_1250 dL_law_1251 ?_
  refine z_vi (pc := 1252) (rest := []) (As := [.int (xs (i + 1))]) hC vX6_count lL_160 dL_law_1252 (m_count hG hM) (xW g.2 x u c a h e S1.1.1 S1.1.2.1 S1.1.2.2.1 ((if cCnt (xs (i + 1)) = 0 then R else R)) (nI ((if cCnt (xs (i + 1)) = 0 then s else s))) (nI S1.1.2.2.2.1) S1.1.2.2.2.2 ++ [(o, .inl (g.2 3, 1, .inr (.inl S1.2)))]) [] (by rw [List.append_nil]) 0 6 rfl rfl rfl rfl rfl (Nat.le_of_ble_eq_true rfl) (Nat.le_of_ble_eq_true rfl) hk (fun r2 S2 hp2 => ?_)
  obtain ⟨e1, e2, e3⟩ := hp2
  refine z_w (ws' := (xW g.2 x u c a h e S1.1.1 S1.1.2.1 S1.1.2.2.1 ((if cCnt (xs (i + 1)) = 0 then R else R)) (nI ((if cCnt (xs (i + 1)) = 0 then s else s))) (nI S1.1.2.2.2.1) S1.1.2.2.2.2 ++ [(o, .inl (g.2 3, 1, .inr (.inl S1.2)))]) ++ mW g.2 mb R S2.1 S2.2) (by rw [List.append_nil]) ?_
  refine z_is (pc := 1255) (lv' := (6, .int r2) :: (5, .int (nI (cCnt (xs (i + 1))))) :: lL b x (mb 0) o i) hC hm (by decide) rfl dL_law_1255 ?_
  refine z_aln (pc := 1257) hC 5 rfl dL_law_1257 ?_
  refine z_vi (pc := 1258) (rest := []) (As := []) hC vX6_thrown lL_82 dL_law_1258 (m_thrown (R := R) (F := S2.1) (V := S2.2)) (xW g.2 x u c a h e S1.1.1 S1.1.2.1 S1.1.2.2.1 ((if cCnt (xs (i + 1)) = 0 then R else R)) (nI ((if cCnt (xs (i + 1)) = 0 then s else s))) (nI S1.1.2.2.2.1) S1.1.2.2.2.2 ++ [(o, .inl (g.2 3, 1, .inr (.inl S1.2)))]) [] (by rw [List.append_nil]) 0 6 rfl rfl rfl rfl rfl (Nat.le_of_ble_eq_true rfl) (Nat.le_of_ble_eq_true rfl) hk (fun r3 _ hp3 => ?_)
  refine z_w (ws' := (xW g.2 x u c a h e S1.1.1 S1.1.2.1 S1.1.2.2.1 ((if cCnt (xs (i + 1)) = 0 then R else R)) (nI ((if cCnt (xs (i + 1)) = 0 then s else s))) (nI S1.1.2.2.2.1) S1.1.2.2.2.2 ++ [(o, .inl (g.2 3, 1, .inr (.inl S1.2)))]) ++ mW g.2 mb R S2.1 S2.2) (by rw [List.append_nil]) ?_
  have hr3 : r3 = nI (cCnt (xs (i + 1))) := hp3.trans e1
  subst hr3
  refine z_il (pc := 1261) hC 1 rfl dL_law_1261 ?_
  refine z_iceq (pc := 1263) hC 1268 (by decide) dL_law_1263 (fun _ => ?_) (fun q => absurd rfl q)
  refine z_il (pc := 1268) hC 1 rfl dL_law_1268 ?_
  refine z_ifne (pc := 1270) hC 1285 (by decide) dL_law_1270 (fun q => ?_) (fun q => ?_)
  · have hc : ¬ cCnt (xs (i + 1)) = 0 := fun z => q (by rw [z]; rfl)
    refine z_goto (pc := 1285) hC 1355 (by decide) dL_law_1285 ?_
    refine z_lv [2, 3, 4, 5, 6] rfl ?_
    exact kk _ ⟨S1.1.1, S1.1.2.1, S1.1.2.2.1, R, s, S1.1.2.2.2.1, S1.1.2.2.2.2, H, t, Lt, S1.2, S2.1, S2.2, hG, hp1 hc, e3 hc, hH, by simp only [if_neg hc]; try rfl⟩
  · have hc : cCnt (xs (i + 1)) = 0 := (nI_eq (by omega) (by omega)).mp (q.trans nI_0.symm)
    refine z_aln (pc := 1273) hC 6 rfl dL_law_1273 ?_
    refine z_iconst (pc := 1274) (v := nI 0) hC dL_law_1274 (by decide) ?_
    refine z_lald (pc := 1275) hC 141 rfl dL_law_1275 0 rfl (by decide) (by decide) ?_
    refine z_il (pc := 1276) hC 0 rfl dL_law_1276 ?_
    refine z_i2l (pc := 1278) (v := r2.toInt64) hC rfl dL_law_1278 ?_
    refine z_lcmp0 (pc := 1279) hC ((hp0 hc).2.trans (by rw [(e2 hc).2])) dL_law_1279 ?_
    refine z_ifeq (pc := 1280) hC 1285 (by decide) dL_law_1280 (fun _ => ?_) (fun q => absurd rfl q)
    refine z_goto (pc := 1285) hC 1355 (by decide) dL_law_1285 ?_
    refine z_lv [2, 3, 4, 5, 6] rfl ?_
    exact kk _ ⟨S1.1.1, S1.1.2.1, S1.1.2.2.1, R, s, S1.1.2.2.2.1, S1.1.2.2.2.2, H, t, Lt, S1.2, S2.1, S2.2, hG, (hp0 hc).1, (e2 hc).1, hH, by simp only [if_pos hc]; try rfl⟩

set_option maxRecDepth 100000 in
set_option maxHeartbeats 4000000 in
theorem lc_clearText {g : zG} {C : zC} {b L : Nat} {xs : Nat → Int32} {x : Nat} {u c a h : Nat → Nat} {e : Nat → Nat → Nat} {mb : Nat → Nat} {o : Nat} (hO : lOK g C b L xs) {i : Nat} (hi : i + 5 ≤ L) {k n : Nat} (hk : k + 1 ≤ 601024 ∧ n + 6 ≤ 7293034) {ws : va_W} (hI : lI g.2 x u c a h e mb o ws) (kk : ∀ ws', lI g.2 x u c a h e mb o ws' → Z g C (k + 1) (n + 6) ws' (lL b x (mb 0) o i) 1355 []) : Z g C k n ws (lL b x (mb 0) o i) 687 [] := by
  obtain ⟨Q, P, T, R, s, p, K, H, t, Lt, f, F, V, hG, hX, hM, hH, rfl⟩ := hI
  obtain ⟨hC, hm, hXs, hbl, hbA, h0, hZX, hNc, hL⟩ := id hO
  refine z_w (ws' := (xW g.2 x u c a h e Q P T R (nI s) (nI p) K ++ [(o, .inl (g.2 3, 1, .inr (.inl f)))]) ++ mW g.2 mb R F V) rfl ?_
  refine z_aln (pc := 687) hC 2 rfl dL_law_687 ?_
  refine z_vi (pc := 688) (rest := []) (As := []) hC vX5_clearText lL_110 dL_law_688 (k_clearText hG hX) [] ([(o, .inl (g.2 3, 1, .inr (.inl f)))] ++ mW g.2 mb R F V) (by rw [List.append_assoc, List.nil_append]) 0 5 rfl rfl rfl rfl rfl (Nat.le_of_ble_eq_true rfl) (Nat.le_of_ble_eq_true rfl) ⟨Nat.le_of_succ_le hk.1, Nat.le_trans (Nat.le_add_right n 6) hk.2⟩ (fun r1 _ hp1 => ?_)
  refine z_w (ws' := (xW g.2 x u c a h e Q (upd P 0 0) T R (nI s) (nI p) K ++ [(o, .inl (g.2 3, 1, .inr (.inl f)))]) ++ mW g.2 mb R F V) (by rw [List.nil_append, List.append_assoc]) ?_
  refine z_aln (pc := 691) hC 3 rfl dL_law_691 ?_
  refine z_vi (pc := 692) (rest := [.int r1]) (As := []) hC vX6_clearText lL_113 dL_law_692 (m_clearText hG hM) (xW g.2 x u c a h e Q (upd P 0 0) T R (nI s) (nI p) K ++ [(o, .inl (g.2 3, 1, .inr (.inl f)))]) [] (by rw [List.append_nil]) 0 6 rfl rfl rfl rfl rfl (Nat.le_of_ble_eq_true rfl) (Nat.le_of_ble_eq_true rfl) ⟨Nat.le_of_succ_le hk.1, Nat.le_trans (Nat.le_add_right n 6) hk.2⟩ (fun r2 S2 hp2 => ?_)
  obtain ⟨e1, e2, e3⟩ := hp2
  refine z_w (ws' := (xW g.2 x u c a h e Q (upd P 0 0) T R (nI s) (nI p) K ++ [(o, .inl (g.2 3, 1, .inr (.inl f)))]) ++ mW g.2 mb R S2.1 S2.2) (by rw [List.append_nil]) ?_
  refine z_iceq (pc := 695) hC 1355 (by decide) dL_law_695 (fun _ => ?_) (fun q => absurd (hp1.trans (e2 rfl).2.symm) q)
  refine z_widen (k' := k + 1) (n' := n + 6) (by omega) (by omega) ?_
  exact kk _ ⟨Q, upd P 0 0, T, R, s, p, K, H, t, 0, f, S2.1, S2.2, hG, xR_clear hX, (e2 rfl).1, hH, rfl⟩

set_option maxRecDepth 100000 in
set_option maxHeartbeats 4000000 in
theorem lc_errorPosition {g : zG} {C : zC} {b L : Nat} {xs : Nat → Int32} {x : Nat} {u c a h : Nat → Nat} {e : Nat → Nat → Nat} {mb : Nat → Nat} {o : Nat} (hO : lOK g C b L xs) {i : Nat} (hi : i + 5 ≤ L) {k n : Nat} (hk : k + 1 ≤ 601024 ∧ n + 6 ≤ 7293034) {ws : va_W} (hI : lI g.2 x u c a h e mb o ws) (kk : ∀ ws', lI g.2 x u c a h e mb o ws' → Z g C (k + 1) (n + 6) ws' (lL b x (mb 0) o i) 1355 []) : Z g C k n ws (lL b x (mb 0) o i) 700 [] := by
  obtain ⟨Q, P, T, R, s, p, K, H, t, Lt, f, F, V, hG, hX, hM, hH, rfl⟩ := hI
  obtain ⟨hC, hm, hXs, hbl, hbA, h0, hZX, hNc, hL⟩ := id hO
  refine z_w (ws' := (xW g.2 x u c a h e Q P T R (nI s) (nI p) K ++ [(o, .inl (g.2 3, 1, .inr (.inl f)))]) ++ mW g.2 mb R F V) rfl ?_
  refine z_aln (pc := 700) hC 2 rfl dL_law_700 ?_
  refine z_vi (pc := 701) (rest := []) (As := []) hC vX5_errorPosition lL_114 dL_law_701 (k_errorPosition hG hX) [] ([(o, .inl (g.2 3, 1, .inr (.inl f)))] ++ mW g.2 mb R F V) (by rw [List.append_assoc, List.nil_append]) 0 5 rfl rfl rfl rfl rfl (Nat.le_of_ble_eq_true rfl) (Nat.le_of_ble_eq_true rfl) ⟨Nat.le_of_succ_le hk.1, Nat.le_trans (Nat.le_add_right n 6) hk.2⟩ (fun r1 P1 hp1 => ?_)
  refine z_w (ws' := (xW g.2 x u c a h e Q P1 T R (nI s) (nI p) K ++ [(o, .inl (g.2 3, 1, .inr (.inl f)))]) ++ mW g.2 mb R F V) (by rw [List.nil_append, List.append_assoc]) ?_
  refine z_aln (pc := 704) hC 3 rfl dL_law_704 ?_
  refine z_vi (pc := 705) (rest := [.int r1]) (As := []) hC vX6_errorPosition lL_117 dL_law_705 (m_errorP hM) (xW g.2 x u c a h e Q P1 T R (nI s) (nI p) K ++ [(o, .inl (g.2 3, 1, .inr (.inl f)))]) [] (by rw [List.append_nil]) 0 6 rfl rfl rfl rfl rfl (Nat.le_of_ble_eq_true rfl) (Nat.le_of_ble_eq_true rfl) ⟨Nat.le_of_succ_le hk.1, Nat.le_trans (Nat.le_add_right n 6) hk.2⟩ (fun r2 S2 hp2 => ?_)
  obtain ⟨e1, e2, e3⟩ := hp2
  refine z_w (ws' := (xW g.2 x u c a h e Q P1 T R (nI s) (nI p) K ++ [(o, .inl (g.2 3, 1, .inr (.inl f)))]) ++ mW g.2 mb R S2.1 S2.2) (by rw [List.append_nil]) ?_
  refine z_iceq (pc := 708) hC 1355 (by decide) dL_law_708 (fun _ => ?_) (fun q => absurd (hp1.1.trans (e2 rfl).2.symm) q)
  refine z_widen (k' := k + 1) (n' := n + 6) (by omega) (by omega) ?_
  exact kk _ ⟨Q, P1, T, R, s, p, K, H, t, Lt, f, S2.1, S2.2, hG, xR_P hX hp1.2, (e2 rfl).1, hH, rfl⟩

set_option maxRecDepth 100000 in
set_option maxHeartbeats 4000000 in
theorem lc_scratchReels {g : zG} {C : zC} {b L : Nat} {xs : Nat → Int32} {x : Nat} {u c a h : Nat → Nat} {e : Nat → Nat → Nat} {mb : Nat → Nat} {o : Nat} (hO : lOK g C b L xs) {i : Nat} (hi : i + 5 ≤ L) {k n : Nat} (hk : k + 1 ≤ 601024 ∧ n + 6 ≤ 7293034) {ws : va_W} (hI : lI g.2 x u c a h e mb o ws) (kk : ∀ ws', lI g.2 x u c a h e mb o ws' → Z g C (k + 1) (n + 6) ws' (lL b x (mb 0) o i) 1355 []) : Z g C k n ws (lL b x (mb 0) o i) 925 [] := by
  obtain ⟨Q, P, T, R, s, p, K, H, t, Lt, f, F, V, hG, hX, hM, hH, rfl⟩ := hI
  obtain ⟨hC, hm, hXs, hbl, hbA, h0, hZX, hNc, hL⟩ := id hO
  refine z_w (ws' := (xW g.2 x u c a h e Q P T R (nI s) (nI p) K ++ [(o, .inl (g.2 3, 1, .inr (.inl f)))]) ++ mW g.2 mb R F V) rfl ?_
  refine z_aln (pc := 925) hC 2 rfl dL_law_925 ?_
  refine z_vi (pc := 926) (rest := []) (As := []) hC vX5_scratchReels lL_130 dL_law_926 (k_scratchReels hG hX) [] ([(o, .inl (g.2 3, 1, .inr (.inl f)))] ++ mW g.2 mb R F V) (by rw [List.append_assoc, List.nil_append]) 0 5 rfl rfl rfl rfl rfl (Nat.le_of_ble_eq_true rfl) (Nat.le_of_ble_eq_true rfl) ⟨Nat.le_of_succ_le hk.1, Nat.le_trans (Nat.le_add_right n 6) hk.2⟩ (fun r1 _ hp1 => ?_)
  refine z_w (ws' := (xW g.2 x u c a h e Q P T R (nI s) (nI p) K ++ [(o, .inl (g.2 3, 1, .inr (.inl f)))]) ++ mW g.2 mb R F V) (by rw [List.nil_append, List.append_assoc]) ?_
  refine z_aln (pc := 929) hC 3 rfl dL_law_929 ?_
  refine z_vi (pc := 930) (rest := [.int r1]) (As := []) hC vX6_scratchReels lL_133 dL_law_930 (m_scratchReels hG hM) (xW g.2 x u c a h e Q P T R (nI s) (nI p) K ++ [(o, .inl (g.2 3, 1, .inr (.inl f)))]) [] (by rw [List.append_nil]) 0 6 rfl rfl rfl rfl rfl (Nat.le_of_ble_eq_true rfl) (Nat.le_of_ble_eq_true rfl) ⟨Nat.le_of_succ_le hk.1, Nat.le_trans (Nat.le_add_right n 6) hk.2⟩ (fun r2 S2 hp2 => ?_)
  obtain ⟨e1, e2, e3⟩ := hp2
  refine z_w (ws' := (xW g.2 x u c a h e Q P T R (nI s) (nI p) K ++ [(o, .inl (g.2 3, 1, .inr (.inl f)))]) ++ mW g.2 mb R S2.1 S2.2) (by rw [List.append_nil]) ?_
  refine z_iceq (pc := 933) hC 1355 (by decide) dL_law_933 (fun _ => ?_) (fun q => absurd (hp1.trans (e2 rfl).2.symm) q)
  refine z_widen (k' := k + 1) (n' := n + 6) (by omega) (by omega) ?_
  exact kk _ ⟨Q, P, T, R, s, p, K, H, t, Lt, f, S2.1, S2.2, hG, hX, (e2 rfl).1, hH, rfl⟩

set_option maxRecDepth 100000 in
set_option maxHeartbeats 4000000 in
theorem lc_jobs {g : zG} {C : zC} {b L : Nat} {xs : Nat → Int32} {x : Nat} {u c a h : Nat → Nat} {e : Nat → Nat → Nat} {mb : Nat → Nat} {o : Nat} (hO : lOK g C b L xs) {i : Nat} (hi : i + 5 ≤ L) {k n : Nat} (hk : k + 1 ≤ 601024 ∧ n + 6 ≤ 7293034) {ws : va_W} (hI : lI g.2 x u c a h e mb o ws) (kk : ∀ ws', lI g.2 x u c a h e mb o ws' → Z g C (k + 1) (n + 6) ws' (lL b x (mb 0) o i) 1355 []) : Z g C k n ws (lL b x (mb 0) o i) 938 [] := by
  obtain ⟨Q, P, T, R, s, p, K, H, t, Lt, f, F, V, hG, hX, hM, hH, rfl⟩ := hI
  obtain ⟨hC, hm, hXs, hbl, hbA, h0, hZX, hNc, hL⟩ := id hO
  refine z_w (ws' := (xW g.2 x u c a h e Q P T R (nI s) (nI p) K ++ [(o, .inl (g.2 3, 1, .inr (.inl f)))]) ++ mW g.2 mb R F V) rfl ?_
  refine z_aln (pc := 938) hC 2 rfl dL_law_938 ?_
  refine z_vi (pc := 939) (rest := []) (As := []) hC vX5_jobs lL_134 dL_law_939 (k_jobs hG hX) [] ([(o, .inl (g.2 3, 1, .inr (.inl f)))] ++ mW g.2 mb R F V) (by rw [List.append_assoc, List.nil_append]) 0 5 rfl rfl rfl rfl rfl (Nat.le_of_ble_eq_true rfl) (Nat.le_of_ble_eq_true rfl) ⟨Nat.le_of_succ_le hk.1, Nat.le_trans (Nat.le_add_right n 6) hk.2⟩ (fun r1 _ hp1 => ?_)
  refine z_w (ws' := (xW g.2 x u c a h e Q P T R (nI s) (nI p) K ++ [(o, .inl (g.2 3, 1, .inr (.inl f)))]) ++ mW g.2 mb R F V) (by rw [List.nil_append, List.append_assoc]) ?_
  refine z_aln (pc := 942) hC 3 rfl dL_law_942 ?_
  refine z_vi (pc := 943) (rest := [.int r1]) (As := []) hC vX6_jobs lL_137 dL_law_943 (m_jobs hG hM) (xW g.2 x u c a h e Q P T R (nI s) (nI p) K ++ [(o, .inl (g.2 3, 1, .inr (.inl f)))]) [] (by rw [List.append_nil]) 0 6 rfl rfl rfl rfl rfl (Nat.le_of_ble_eq_true rfl) (Nat.le_of_ble_eq_true rfl) ⟨Nat.le_of_succ_le hk.1, Nat.le_trans (Nat.le_add_right n 6) hk.2⟩ (fun r2 S2 hp2 => ?_)
  obtain ⟨e1, e2, e3⟩ := hp2
  refine z_w (ws' := (xW g.2 x u c a h e Q P T R (nI s) (nI p) K ++ [(o, .inl (g.2 3, 1, .inr (.inl f)))]) ++ mW g.2 mb R S2.1 S2.2) (by rw [List.append_nil]) ?_
  refine z_iceq (pc := 946) hC 1355 (by decide) dL_law_946 (fun _ => ?_) (fun q => absurd (hp1.trans (e2 rfl).2.symm) q)
  refine z_widen (k' := k + 1) (n' := n + 6) (by omega) (by omega) ?_
  exact kk _ ⟨Q, P, T, R, s, p, K, H, t, Lt, f, S2.1, S2.2, hG, hX, (e2 rfl).1, hH, rfl⟩

set_option maxRecDepth 100000 in
set_option maxHeartbeats 4000000 in
theorem lc_nextJob {g : zG} {C : zC} {b L : Nat} {xs : Nat → Int32} {x : Nat} {u c a h : Nat → Nat} {e : Nat → Nat → Nat} {mb : Nat → Nat} {o : Nat} (hO : lOK g C b L xs) {i : Nat} (hi : i + 5 ≤ L) {k n : Nat} (hk : k + 1 ≤ 601024 ∧ n + 6 ≤ 7293034) {ws : va_W} (hI : lI g.2 x u c a h e mb o ws) (kk : ∀ ws', lI g.2 x u c a h e mb o ws' → Z g C (k + 1) (n + 6) ws' (lL b x (mb 0) o i) 1355 []) : Z g C k n ws (lL b x (mb 0) o i) 1150 [] := by
  obtain ⟨Q, P, T, R, s, p, K, H, t, Lt, f, F, V, hG, hX, hM, hH, rfl⟩ := hI
  obtain ⟨hC, hm, hXs, hbl, hbA, h0, hZX, hNc, hL⟩ := id hO
  refine z_w (ws' := (xW g.2 x u c a h e Q P T R (nI s) (nI p) K ++ [(o, .inl (g.2 3, 1, .inr (.inl f)))]) ++ mW g.2 mb R F V) rfl ?_
  refine z_aln (pc := 1150) hC 2 rfl dL_law_1150 ?_
  refine z_vi (pc := 1151) (rest := []) (As := []) hC vX5_nextJob lL_147 dL_law_1151 (k_nextJob hG hX) [] ([(o, .inl (g.2 3, 1, .inr (.inl f)))] ++ mW g.2 mb R F V) (by rw [List.append_assoc, List.nil_append]) 0 5 rfl rfl rfl rfl rfl (Nat.le_of_ble_eq_true rfl) (Nat.le_of_ble_eq_true rfl) ⟨Nat.le_of_succ_le hk.1, Nat.le_trans (Nat.le_add_right n 6) hk.2⟩ (fun r1 _ hp1 => ?_)
  refine z_w (ws' := (xW g.2 x u c a h e Q P T R (nI s) (nI p) K ++ [(o, .inl (g.2 3, 1, .inr (.inl f)))]) ++ mW g.2 mb R F V) (by rw [List.nil_append, List.append_assoc]) ?_
  refine z_aln (pc := 1154) hC 3 rfl dL_law_1154 ?_
  refine z_vi (pc := 1155) (rest := [.int r1]) (As := []) hC vX6_nextJob lL_150 dL_law_1155 (m_nextJob hG hM) (xW g.2 x u c a h e Q P T R (nI s) (nI p) K ++ [(o, .inl (g.2 3, 1, .inr (.inl f)))]) [] (by rw [List.append_nil]) 0 6 rfl rfl rfl rfl rfl (Nat.le_of_ble_eq_true rfl) (Nat.le_of_ble_eq_true rfl) ⟨Nat.le_of_succ_le hk.1, Nat.le_trans (Nat.le_add_right n 6) hk.2⟩ (fun r2 S2 hp2 => ?_)
  obtain ⟨e1, e2, e3⟩ := hp2
  refine z_w (ws' := (xW g.2 x u c a h e Q P T R (nI s) (nI p) K ++ [(o, .inl (g.2 3, 1, .inr (.inl f)))]) ++ mW g.2 mb R S2.1 S2.2) (by rw [List.append_nil]) ?_
  refine z_iceq (pc := 1158) hC 1355 (by decide) dL_law_1158 (fun _ => ?_) (fun q => absurd (hp1.trans (e2 rfl).2.symm) q)
  refine z_widen (k' := k + 1) (n' := n + 6) (by omega) (by omega) ?_
  exact kk _ ⟨Q, P, T, R, s, p, K, H, t, Lt, f, S2.1, S2.2, hG, hX, (e2 rfl).1, hH, rfl⟩

set_option maxRecDepth 100000 in
set_option maxHeartbeats 4000000 in
theorem lc_nextReel {g : zG} {C : zC} {b L : Nat} {xs : Nat → Int32} {x : Nat} {u c a h : Nat → Nat} {e : Nat → Nat → Nat} {mb : Nat → Nat} {o : Nat} (hO : lOK g C b L xs) {i : Nat} (hi : i + 5 ≤ L) {k n : Nat} (hk : k + 1 ≤ 601024 ∧ n + 6 ≤ 7293034) {ws : va_W} (hI : lI g.2 x u c a h e mb o ws) (kk : ∀ ws', lI g.2 x u c a h e mb o ws' → Z g C (k + 1) (n + 6) ws' (lL b x (mb 0) o i) 1355 []) : Z g C k n ws (lL b x (mb 0) o i) 1163 [] := by
  obtain ⟨Q, P, T, R, s, p, K, H, t, Lt, f, F, V, hG, hX, hM, hH, rfl⟩ := hI
  obtain ⟨hC, hm, hXs, hbl, hbA, h0, hZX, hNc, hL⟩ := id hO
  refine z_w (ws' := (xW g.2 x u c a h e Q P T R (nI s) (nI p) K ++ [(o, .inl (g.2 3, 1, .inr (.inl f)))]) ++ mW g.2 mb R F V) rfl ?_
  refine z_aln (pc := 1163) hC 2 rfl dL_law_1163 ?_
  refine z_vi (pc := 1164) (rest := []) (As := []) hC vX5_nextReel lL_151 dL_law_1164 (k_nextReel hG hX) [] ([(o, .inl (g.2 3, 1, .inr (.inl f)))] ++ mW g.2 mb R F V) (by rw [List.append_assoc, List.nil_append]) 0 5 rfl rfl rfl rfl rfl (Nat.le_of_ble_eq_true rfl) (Nat.le_of_ble_eq_true rfl) ⟨Nat.le_of_succ_le hk.1, Nat.le_trans (Nat.le_add_right n 6) hk.2⟩ (fun r1 _ hp1 => ?_)
  refine z_w (ws' := (xW g.2 x u c a h e Q P T R (nI s) (nI p) K ++ [(o, .inl (g.2 3, 1, .inr (.inl f)))]) ++ mW g.2 mb R F V) (by rw [List.nil_append, List.append_assoc]) ?_
  refine z_aln (pc := 1167) hC 3 rfl dL_law_1167 ?_
  refine z_vi (pc := 1168) (rest := [.int r1]) (As := []) hC vX6_nextReel lL_154 dL_law_1168 (m_nextReel hG hM) (xW g.2 x u c a h e Q P T R (nI s) (nI p) K ++ [(o, .inl (g.2 3, 1, .inr (.inl f)))]) [] (by rw [List.append_nil]) 0 6 rfl rfl rfl rfl rfl (Nat.le_of_ble_eq_true rfl) (Nat.le_of_ble_eq_true rfl) ⟨Nat.le_of_succ_le hk.1, Nat.le_trans (Nat.le_add_right n 6) hk.2⟩ (fun r2 S2 hp2 => ?_)
  obtain ⟨e1, e2, e3⟩ := hp2
  refine z_w (ws' := (xW g.2 x u c a h e Q P T R (nI s) (nI p) K ++ [(o, .inl (g.2 3, 1, .inr (.inl f)))]) ++ mW g.2 mb R S2.1 S2.2) (by rw [List.append_nil]) ?_
  refine z_iceq (pc := 1171) hC 1355 (by decide) dL_law_1171 (fun _ => ?_) (fun q => absurd (hp1.trans (e2 rfl).2.symm) q)
  refine z_widen (k' := k + 1) (n' := n + 6) (by omega) (by omega) ?_
  exact kk _ ⟨Q, P, T, R, s, p, K, H, t, Lt, f, S2.1, S2.2, hG, hX, (e2 rfl).1, hH, rfl⟩

set_option maxRecDepth 100000 in
set_option maxHeartbeats 4000000 in
theorem lc_savedStates {g : zG} {C : zC} {b L : Nat} {xs : Nat → Int32} {x : Nat} {u c a h : Nat → Nat} {e : Nat → Nat → Nat} {mb : Nat → Nat} {o : Nat} (hO : lOK g C b L xs) {i : Nat} (hi : i + 5 ≤ L) {k n : Nat} (hk : k + 1 ≤ 601024 ∧ n + 6 ≤ 7293034) {ws : va_W} (hI : lI g.2 x u c a h e mb o ws) (kk : ∀ ws', lI g.2 x u c a h e mb o ws' → Z g C (k + 1) (n + 6) ws' (lL b x (mb 0) o i) 1355 []) : Z g C k n ws (lL b x (mb 0) o i) 1329 [] := by
  obtain ⟨Q, P, T, R, s, p, K, H, t, Lt, f, F, V, hG, hX, hM, hH, rfl⟩ := hI
  obtain ⟨hC, hm, hXs, hbl, hbA, h0, hZX, hNc, hL⟩ := id hO
  refine z_w (ws' := (xW g.2 x u c a h e Q P T R (nI s) (nI p) K ++ [(o, .inl (g.2 3, 1, .inr (.inl f)))]) ++ mW g.2 mb R F V) rfl ?_
  refine z_aln (pc := 1329) hC 2 rfl dL_law_1329 ?_
  refine z_vi (pc := 1330) (rest := []) (As := []) hC vX5_savedStates lL_166 dL_law_1330 (k_savedStates hG hX) [] ([(o, .inl (g.2 3, 1, .inr (.inl f)))] ++ mW g.2 mb R F V) (by rw [List.append_assoc, List.nil_append]) 0 5 rfl rfl rfl rfl rfl (Nat.le_of_ble_eq_true rfl) (Nat.le_of_ble_eq_true rfl) ⟨Nat.le_of_succ_le hk.1, Nat.le_trans (Nat.le_add_right n 6) hk.2⟩ (fun r1 _ hp1 => ?_)
  refine z_w (ws' := (xW g.2 x u c a h e Q P T R (nI s) (nI p) K ++ [(o, .inl (g.2 3, 1, .inr (.inl f)))]) ++ mW g.2 mb R F V) (by rw [List.nil_append, List.append_assoc]) ?_
  refine z_aln (pc := 1333) hC 3 rfl dL_law_1333 ?_
  refine z_vi (pc := 1334) (rest := [.int r1]) (As := []) hC vX6_savedStates lL_169 dL_law_1334 (m_savedStates hG hM) (xW g.2 x u c a h e Q P T R (nI s) (nI p) K ++ [(o, .inl (g.2 3, 1, .inr (.inl f)))]) [] (by rw [List.append_nil]) 0 6 rfl rfl rfl rfl rfl (Nat.le_of_ble_eq_true rfl) (Nat.le_of_ble_eq_true rfl) ⟨Nat.le_of_succ_le hk.1, Nat.le_trans (Nat.le_add_right n 6) hk.2⟩ (fun r2 S2 hp2 => ?_)
  obtain ⟨e1, e2, e3⟩ := hp2
  refine z_w (ws' := (xW g.2 x u c a h e Q P T R (nI s) (nI p) K ++ [(o, .inl (g.2 3, 1, .inr (.inl f)))]) ++ mW g.2 mb R S2.1 S2.2) (by rw [List.append_nil]) ?_
  refine z_iceq (pc := 1337) hC 1355 (by decide) dL_law_1337 (fun _ => ?_) (fun q => absurd (hp1.trans (e2 rfl).2.symm) q)
  refine z_widen (k' := k + 1) (n' := n + 6) (by omega) (by omega) ?_
  exact kk _ ⟨Q, P, T, R, s, p, K, H, t, Lt, f, S2.1, S2.2, hG, hX, (e2 rfl).1, hH, rfl⟩

set_option maxRecDepth 100000 in
set_option maxHeartbeats 4000000 in
theorem lc_textLength {g : zG} {C : zC} {b L : Nat} {xs : Nat → Int32} {x : Nat} {u c a h : Nat → Nat} {e : Nat → Nat → Nat} {mb : Nat → Nat} {o : Nat} (hO : lOK g C b L xs) {i : Nat} (hi : i + 5 ≤ L) {k n : Nat} (hk : k + 1 ≤ 601024 ∧ n + 6 ≤ 7293034) {ws : va_W} (hI : lI g.2 x u c a h e mb o ws) (kk : ∀ ws', lI g.2 x u c a h e mb o ws' → Z g C (k + 1) (n + 6) ws' (lL b x (mb 0) o i) 1355 []) : Z g C k n ws (lL b x (mb 0) o i) 1342 [] := by
  obtain ⟨Q, P, T, R, s, p, K, H, t, Lt, f, F, V, hG, hX, hM, hH, rfl⟩ := hI
  obtain ⟨hC, hm, hXs, hbl, hbA, h0, hZX, hNc, hL⟩ := id hO
  refine z_w (ws' := (xW g.2 x u c a h e Q P T R (nI s) (nI p) K ++ [(o, .inl (g.2 3, 1, .inr (.inl f)))]) ++ mW g.2 mb R F V) rfl ?_
  refine z_aln (pc := 1342) hC 2 rfl dL_law_1342 ?_
  refine z_vi (pc := 1343) (rest := []) (As := []) hC vX5_textLength lL_170 dL_law_1343 (k_textLength hG hX) [] ([(o, .inl (g.2 3, 1, .inr (.inl f)))] ++ mW g.2 mb R F V) (by rw [List.append_assoc, List.nil_append]) 0 5 rfl rfl rfl rfl rfl (Nat.le_of_ble_eq_true rfl) (Nat.le_of_ble_eq_true rfl) ⟨Nat.le_of_succ_le hk.1, Nat.le_trans (Nat.le_add_right n 6) hk.2⟩ (fun r1 _ hp1 => ?_)
  refine z_w (ws' := (xW g.2 x u c a h e Q P T R (nI s) (nI p) K ++ [(o, .inl (g.2 3, 1, .inr (.inl f)))]) ++ mW g.2 mb R F V) (by rw [List.nil_append, List.append_assoc]) ?_
  refine z_aln (pc := 1346) hC 3 rfl dL_law_1346 ?_
  refine z_vi (pc := 1347) (rest := [.int r1]) (As := []) hC vX6_textLength lL_173 dL_law_1347 (m_textLength hG hM) (xW g.2 x u c a h e Q P T R (nI s) (nI p) K ++ [(o, .inl (g.2 3, 1, .inr (.inl f)))]) [] (by rw [List.append_nil]) 0 6 rfl rfl rfl rfl rfl (Nat.le_of_ble_eq_true rfl) (Nat.le_of_ble_eq_true rfl) ⟨Nat.le_of_succ_le hk.1, Nat.le_trans (Nat.le_add_right n 6) hk.2⟩ (fun r2 S2 hp2 => ?_)
  obtain ⟨e1, e2, e3⟩ := hp2
  refine z_w (ws' := (xW g.2 x u c a h e Q P T R (nI s) (nI p) K ++ [(o, .inl (g.2 3, 1, .inr (.inl f)))]) ++ mW g.2 mb R S2.1 S2.2) (by rw [List.append_nil]) ?_
  refine z_iceq (pc := 1350) hC 1355 (by decide) dL_law_1350 (fun _ => ?_) (fun q => absurd (hp1.trans (e2 rfl).2.symm) q)
  refine z_widen (k' := k + 1) (n' := n + 6) (by omega) (by omega) ?_
  exact kk _ ⟨Q, P, T, R, s, p, K, H, t, Lt, f, S2.1, S2.2, hG, hX, (e2 rfl).1, hH, rfl⟩

