section LLAW
variable {g : zG} {C : zC} {b L : Nat} {xs : Nat → Int32} {x : Nat} {u c a h : Nat → Nat} {e : Nat → Nat → Nat} {v : Nat → Nat}

set_option maxRecDepth 100000 in
set_option maxHeartbeats 4000000 in
theorem lc_turns (hO : lOK g C b L xs) (hE : ∀ (k n : Nat) (ws : va_W) (lv : List (Nat × Value)), k ≤ 600104 → n ≤ 7301314 → Z g C k n ws lv 286 [.int 1]) : ∀ (kt t kc nc : Nat) (S : St × Nat × XS), t + kt = 42 → kc + 6 * kt ≤ 600104 → nc + 147 * kt ≤ 7301314 → LI t S → Z g C kc nc (bW g.2 x u c a h e v S) [(8, .int (nI t)), (7, .int 1), (0, .ref b), (1, .ref x), (2, .ref (v 0)), (3, .ref (v 1)), (4, .ref (v 2)), (5, .ref (v 3)), (6, .ref (v 4))] 163 [] := by
  obtain ⟨hC, hm, hXs, hbl, hbA, hL0⟩ := id hO
  intro kt
  induction kt with
  | zero =>
    intro t kc nc S ht hk1 hn1 hL
    obtain ⟨R, s, Q, P, T, p, K⟩ := S
    refine z_w (ws' := lgW g.2 v R ++ xW g.2 x u c a h e Q P T R (nI s) (nI p) K) rfl ?_
    refine z_il (pc := 163) hC 0 rfl dL_law_163 ?_
    refine z_bipush (pc := 165) (v := nI 42) hC dL_law_165 (by decide) ?_
    refine z_icge (pc := 167) hC 284 (by decide) dL_law_167 (fun c167 => ?_) (fun c167 => absurd (nI_le (by omega) (by omega)) c167)
    refine z_il (pc := 284) hC 1 rfl dL_law_284 ?_
    exact hE _ _ _ _ (by omega) (by omega)
  | succ kt ih =>
    intro t kc nc S ht hk1 hn1 hL
    obtain ⟨R, s, Q, P, T, p, K⟩ := S
    refine z_w (ws' := lgW g.2 v R ++ xW g.2 x u c a h e Q P T R (nI s) (nI p) K) rfl ?_
    have tail : ∀ (q : Int32) (kk : Nat), kk < 16 → Z g C kc nc (lgW g.2 v R ++ xW g.2 x u c a h e Q P T R (nI s) (nI p) K) [(8, .int (nI t)), (7, .int 1), (0, .ref b), (1, .ref x), (2, .ref (v 0)), (3, .ref (v 1)), (4, .ref (v 2)), (5, .ref (v 3)), (6, .ref (v 4)), (9, .int q)] 214 [.int (nI kk), .ref (v 4), .ref (v 3), .ref (v 2), .ref (v 1), .ref (v 0), .ref x] := by
      intro q kk hkk
      refine z_il (pc := 214) hC 9 rfl dL_law_214 ?_
      refine z_sk (pc := 216) (rest := []) hC sL_acts lL_134 dL_law_216 (l_acts (v := v) hL (by omega) hkk) (fun w => w) isCtx_id rfl rfl rfl (by decide) (Nat.le_of_ble_eq_true rfl) ⟨by omega, by omega⟩ (fun r2 S3 hp3 => ?_)
      obtain ⟨rfl, hL3⟩ := hp3
      obtain ⟨R3, s3, Q3, P3, T3, p3, K3⟩ := S3
      obtain ⟨hG3, hK3, hd3, H3, t3, L3, hX3⟩ := id hL3
      have hG3 : GR R3 := hG3
      have hK3 : KI R3 (nn R3) := hK3
      have hX3 : xR H3 s3 t3 L3 (Q3, P3, T3, p3, K3) := hX3
      refine z_w (ws' := lgW g.2 v R3 ++ xW g.2 x u c a h e Q3 P3 T3 R3 (nI s3) (nI p3) K3) rfl ?_
      refine z_ifeq (pc := 219) hC 275 (by decide) dL_law_219 (fun c219 => absurd c219 (by decide)) (fun c219 => ?_)
      refine z_aln (pc := 222) hC 3 rfl dL_law_222 ?_
      refine z_aln (pc := 223) hC 4 rfl dL_law_223 ?_
      refine z_aln (pc := 224) hC 5 rfl dL_law_224 ?_
      refine z_al (pc := 225) hC 8 rfl dL_law_225 ?_
      refine z_sg (pc := 227) (rest := []) hC sL_areReels lL_123 dL_law_227 (l_areReels (v := v) hG3 hX3 hK3) (fun w => w) isCtx_id rfl rfl rfl (by decide) (Nat.le_of_ble_eq_true rfl) ⟨by omega, by omega⟩ ?_
      refine z_ifeq (pc := 230) hC 275 (by decide) dL_law_230 (fun c230 => absurd c230 (by decide)) (fun c230 => ?_)
      refine z_aln (pc := 233) hC 3 rfl dL_law_233 ?_
      refine z_aln (pc := 234) hC 4 rfl dL_law_234 ?_
      refine z_aln (pc := 235) hC 5 rfl dL_law_235 ?_
      refine z_al (pc := 236) hC 6 rfl dL_law_236 ?_
      refine z_al (pc := 238) hC 7 rfl dL_law_238 ?_
      refine z_al (pc := 240) hC 8 rfl dL_law_240 ?_
      refine z_sk (pc := 242) (rest := []) hC sL_areJobs lL_127 dL_law_242 (l_areJobs (v := v) hG3 hX3 hK3) (fun w => w) isCtx_id rfl rfl rfl (by decide) (Nat.le_of_ble_eq_true rfl) ⟨by omega, by omega⟩ (fun r4 _ hp4 => ?_)
      subst hp4
      refine z_ifeq (pc := 245) hC 275 (by decide) dL_law_245 (fun c245 => absurd c245 (by decide)) (fun c245 => ?_)
      refine z_il (pc := 248) hC 0 rfl dL_law_248 ?_
      refine z_iconst (pc := 250) (v := nI 4) hC dL_law_250 (by decide) ?_
      refine z_irem (pc := 251) (v := nI (t % 4)) hC (by decide) (pk_rem (by omega) (by omega) (by omega)) dL_law_251 ?_
      refine z_iconst (pc := 252) (v := 1) hC dL_law_252 (by decide) ?_
      refine z_icne (pc := 253) hC 271 (by decide) dL_law_253 (fun c253 => ?_) (fun c253 => ?_)
      · refine z_iconst (pc := 271) (v := 1) hC dL_law_271 (by decide) ?_
        refine z_goto (pc := 272) hC 276 (by decide) dL_law_272 ?_
        refine z_is (pc := 276) (lv' := [(7, .int 1), (8, .int (nI t)), (0, .ref b), (1, .ref x), (2, .ref (v 0)), (3, .ref (v 1)), (4, .ref (v 2)), (5, .ref (v 3)), (6, .ref (v 4)), (9, .int q)]) hC hm (by decide) rfl dL_law_276 ?_
        refine z_iinc (pc := 278) (v := nI (t + 1)) (j := 1) (lv' := [(8, .int (nI (t + 1))), (7, .int 1), (0, .ref b), (1, .ref x), (2, .ref (v 0)), (3, .ref (v 1)), (4, .ref (v 2)), (5, .ref (v 3)), (6, .ref (v 4)), (9, .int q)]) hC hm (by decide) rfl (up_step _) rfl dL_law_278 ?_
        refine z_goto (pc := 281) hC 163 (by decide) dL_law_281 ?_
        refine z_lv (lv' := [(8, .int (nI (t + 1))), (7, .int 1), (0, .ref b), (1, .ref x), (2, .ref (v 0)), (3, .ref (v 1)), (4, .ref (v 2)), (5, .ref (v 3)), (6, .ref (v 4))]) [0, 1, 2, 3, 4, 5, 6, 7, 8] rfl ?_
        exact ih (t + 1) _ _ (R3, s3, (Q3, P3, T3, p3, K3)) (by omega) (by omega) (by omega) hL3
      · refine z_aln (pc := 256) hC 3 rfl dL_law_256 ?_
        refine z_aln (pc := 257) hC 4 rfl dL_law_257 ?_
        refine z_aln (pc := 258) hC 5 rfl dL_law_258 ?_
        refine z_al (pc := 259) hC 6 rfl dL_law_259 ?_
        refine z_al (pc := 261) hC 7 rfl dL_law_261 ?_
        refine z_al (pc := 263) hC 8 rfl dL_law_263 ?_
        refine z_sk (pc := 265) (rest := []) hC sL_would lL_138 dL_law_265 (l_would (v := v) hG3 hX3 hK3) (fun w => w) isCtx_id rfl rfl rfl (by decide) (Nat.le_of_ble_eq_true rfl) ⟨by omega, by omega⟩ (fun r5 S5 hp5 => ?_)
        obtain ⟨rfl, hX5⟩ := hp5
        refine z_ifeq (pc := 268) hC 275 (by decide) dL_law_268 (fun c268 => absurd c268 (by decide)) (fun c268 => ?_)
        refine z_iconst (pc := 271) (v := 1) hC dL_law_271 (by decide) ?_
        refine z_goto (pc := 272) hC 276 (by decide) dL_law_272 ?_
        refine z_is (pc := 276) (lv' := [(7, .int 1), (8, .int (nI t)), (0, .ref b), (1, .ref x), (2, .ref (v 0)), (3, .ref (v 1)), (4, .ref (v 2)), (5, .ref (v 3)), (6, .ref (v 4)), (9, .int q)]) hC hm (by decide) rfl dL_law_276 ?_
        refine z_iinc (pc := 278) (v := nI (t + 1)) (j := 1) (lv' := [(8, .int (nI (t + 1))), (7, .int 1), (0, .ref b), (1, .ref x), (2, .ref (v 0)), (3, .ref (v 1)), (4, .ref (v 2)), (5, .ref (v 3)), (6, .ref (v 4)), (9, .int q)]) hC hm (by decide) rfl (up_step _) rfl dL_law_278 ?_
        refine z_goto (pc := 281) hC 163 (by decide) dL_law_281 ?_
        refine z_lv (lv' := [(8, .int (nI (t + 1))), (7, .int 1), (0, .ref b), (1, .ref x), (2, .ref (v 0)), (3, .ref (v 1)), (4, .ref (v 2)), (5, .ref (v 3)), (6, .ref (v 4))]) [0, 1, 2, 3, 4, 5, 6, 7, 8] rfl ?_
        exact ih (t + 1) _ _ (R3, s3, S5) (by omega) (by omega) (by omega) ⟨hG3, hK3, hd3, H3, t3, L3, hX5⟩
    refine z_il (pc := 163) hC 0 rfl dL_law_163 ?_
    refine z_bipush (pc := 165) (v := nI 42) hC dL_law_165 (by decide) ?_
    refine z_icge (pc := 167) hC 284 (by decide) dL_law_167 (fun c167 => absurd c167 (nI_ge (by omega) (by omega))) (fun c167 => ?_)
    refine z_il (pc := 170) hC 1 rfl dL_law_170 ?_
    refine z_ifeq (pc := 172) hC 284 (by decide) dL_law_172 (fun c172 => absurd c172 (by decide)) (fun c172 => ?_)
    refine z_aln (pc := 175) hC 2 rfl dL_law_175 ?_
    refine z_iconst (pc := 176) (v := nI 1) hC dL_law_176 (by decide) ?_
    refine z_il (pc := 177) hC 0 rfl dL_law_177 ?_
    refine z_iadd (pc := 179) (v := nI (1 + t)) hC (nI_add _ _) dL_law_179 ?_
    refine z_sc (pc := 180) (kk := 1 + t) (rest := []) hO (by omega) dL_law_180 rfl (Nat.le_of_ble_eq_true rfl) ⟨by omega, by omega⟩ (fun q => ?_)
    refine z_is (pc := 183) (lv' := [(9, .int q), (8, .int (nI t)), (7, .int 1), (0, .ref b), (1, .ref x), (2, .ref (v 0)), (3, .ref (v 1)), (4, .ref (v 2)), (5, .ref (v 3)), (6, .ref (v 4))]) hC hm (by decide) rfl dL_law_183 ?_
    refine z_aln (pc := 185) hC 4 rfl dL_law_185 ?_
    refine z_aln (pc := 186) hC 5 rfl dL_law_186 ?_
    refine z_aln (pc := 187) hC 6 rfl dL_law_187 ?_
    refine z_al (pc := 188) hC 7 rfl dL_law_188 ?_
    refine z_al (pc := 190) hC 8 rfl dL_law_190 ?_
    refine z_al (pc := 192) hC 9 rfl dL_law_192 ?_
    refine z_il (pc := 194) hC 1 rfl dL_law_194 ?_
    refine z_iconst (pc := 196) (v := nI 3) hC dL_law_196 (by decide) ?_
    refine z_icge (pc := 197) hC 204 (by decide) dL_law_197 (fun c197 => ?_) (fun c197 => ?_)
    · refine z_il (pc := 204) hC 0 rfl dL_law_204 ?_
      refine z_bipush (pc := 206) (v := 18) hC dL_law_206 (by decide) ?_
      refine z_ishr (pc := 208) (v := q >>> (18 &&& 31)) hC rfl dL_law_208 ?_
      refine z_bipush (pc := 209) (v := nI 16) hC dL_law_209 (by decide) ?_
      refine z_gs (pc := 211) (rest := [.ref (v 4), .ref (v 3), .ref (v 2), .ref (v 1), .ref (v 0), .ref x]) hC sL_low lL_88 dL_law_211 (l_low (x := q >>> (18 &&& 31)) (n := 16) (by omega) (by omega)) rfl rfl (by decide) (Nat.le_of_ble_eq_true rfl) ⟨by omega, by omega⟩ ?_
      refine z_lv (lv' := [(8, .int (nI t)), (7, .int 1), (0, .ref b), (1, .ref x), (2, .ref (v 0)), (3, .ref (v 1)), (4, .ref (v 2)), (5, .ref (v 3)), (6, .ref (v 4)), (9, .int q)]) [1, 2, 3, 4, 5, 6, 7, 8, 9, 0] rfl ?_
      exact tail q _ (lo_lt _ (by omega))
    · refine z_iconst (pc := 200) (v := nI 0) hC dL_law_200 (by decide) ?_
      refine z_goto (pc := 201) hC 214 (by decide) dL_law_201 ?_
      refine z_lv (lv' := [(8, .int (nI t)), (7, .int 1), (0, .ref b), (1, .ref x), (2, .ref (v 0)), (3, .ref (v 1)), (4, .ref (v 2)), (5, .ref (v 3)), (6, .ref (v 4)), (9, .int q)]) [1, 2, 3, 4, 5, 6, 7, 8, 9, 0] rfl ?_
      exact tail q _ (by omega)

set_option maxRecDepth 100000 in
set_option maxHeartbeats 4000000 in
theorem lc_fill (hO : lOK g C b L xs) (hE : ∀ (k n : Nat) (ws : va_W) (lv : List (Nat × Value)), k ≤ 600104 → n ≤ 7301314 → Z g C k n ws lv 286 [.int 1]) : Z g C 146 1840 (lgW g.2 v (fun _ _ => 0) ++ xW g.2 x u c a h e (fun _ => 0) (fun _ => 0) (RI_ 12) (RI_ 12) (nI 0) (nI 0) (fun _ => RI_ 12)) [(6, .ref (v 4)), (5, .ref (v 3)), (4, .ref (v 2)), (3, .ref (v 1)), (2, .ref (v 0)), (1, .ref x), (0, .ref b)] 36 [] := by
  obtain ⟨hC, hm, hXs, hbl, hbA, hL0⟩ := id hO
  have loop : ∀ k m : Nat, m + k = 12 → Z g C 146 1840 (lgW g.2 v (RI_ m) ++ xW g.2 x u c a h e (fun _ => 0) (fun _ => 0) (RI_ 12) (RI_ 12) (nI 0) (nI 0) (fun _ => RI_ 12)) [(7, .int (nI m)), (6, .ref (v 4)), (5, .ref (v 3)), (4, .ref (v 2)), (3, .ref (v 1)), (2, .ref (v 0)), (1, .ref x), (0, .ref b)] 46 [] := by
    intro k
    induction k with
    | zero =>
      intro m hm2
      have e12 : m = 12 := by omega
      subst e12
      have hL := li_new (fun _ => RI_ 12)
      obtain ⟨hG, hK, hd, H, t, L1, hX⟩ := id hL
      have hG : GR (RI_ 12) := hG
      have hK : KI (RI_ 12) (nn (RI_ 12)) := hK
      have hX : xR H 0 t L1 (fun _ => 0, fun _ => 0, RI_ 12, 0, fun _ => RI_ 12) := hX
      refine z_il (pc := 46) hC 0 rfl dL_law_46 ?_
      refine z_bipush (pc := 48) (v := nI 12) hC dL_law_48 (by decide) ?_
      refine z_icge (pc := 50) hC 103 (by decide) dL_law_50 (fun c50 => ?_) (fun c50 => absurd (nI_le (by omega) (by omega)) c50)
      refine z_aln (pc := 103) hC 6 rfl dL_law_103 ?_
      refine z_aln (pc := 104) hC 5 rfl dL_law_104 ?_
      refine z_aln (pc := 105) hC 4 rfl dL_law_105 ?_
      refine z_al (pc := 106) hC 1 rfl dL_law_106 ?_
      refine z_sg (pc := 108) (rest := []) hC sL_areReels lL_123 dL_law_108 (l_areReels (v := v) hG hX hK) (fun w => w) isCtx_id rfl rfl rfl (by decide) (Nat.le_of_ble_eq_true rfl) ⟨by omega, by omega⟩ ?_
      refine z_ifeq (pc := 111) hC 157 (by decide) dL_law_111 (fun c111 => absurd c111 (by decide)) (fun c111 => ?_)
      refine z_aln (pc := 114) hC 6 rfl dL_law_114 ?_
      refine z_aln (pc := 115) hC 5 rfl dL_law_115 ?_
      refine z_aln (pc := 116) hC 4 rfl dL_law_116 ?_
      refine z_al (pc := 117) hC 3 rfl dL_law_117 ?_
      refine z_al (pc := 119) hC 2 rfl dL_law_119 ?_
      refine z_al (pc := 121) hC 1 rfl dL_law_121 ?_
      refine z_sk (pc := 123) (rest := []) hC sL_areJobs lL_127 dL_law_123 (l_areJobs (v := v) hG hX hK) (fun w => w) isCtx_id rfl rfl rfl (by decide) (Nat.le_of_ble_eq_true rfl) ⟨by omega, by omega⟩ (fun r4 _ hp4 => ?_)
      subst hp4
      refine z_ifeq (pc := 126) hC 157 (by decide) dL_law_126 (fun c126 => absurd c126 (by decide)) (fun c126 => ?_)
      refine z_aln (pc := 129) hC 6 rfl dL_law_129 ?_
      refine z_aln (pc := 130) hC 5 rfl dL_law_130 ?_
      refine z_aln (pc := 131) hC 4 rfl dL_law_131 ?_
      refine z_al (pc := 132) hC 3 rfl dL_law_132 ?_
      refine z_al (pc := 134) hC 2 rfl dL_law_134 ?_
      refine z_al (pc := 136) hC 1 rfl dL_law_136 ?_
      refine z_aln (pc := 138) hC 7 rfl dL_law_138 ?_
      refine z_iconst (pc := 139) (v := nI 0) hC dL_law_139 (by decide) ?_
      refine z_sc (pc := 140) (kk := 0) (rest := [.ref (v 4), .ref (v 3), .ref (v 2), .ref (v 1), .ref (v 0), .ref x]) hO (by omega) dL_law_140 rfl (Nat.le_of_ble_eq_true rfl) ⟨by omega, by omega⟩ (fun q => ?_)
      refine z_iconst (pc := 143) (v := 3) hC dL_law_143 (by decide) ?_
      refine z_idiv (pc := 144) (v := q / 3) hC (by decide) rfl dL_law_144 ?_
      refine z_iconst (pc := 145) (v := 3) hC dL_law_145 (by decide) ?_
      refine z_imul (pc := 146) (v := (q / 3) * 3) hC rfl dL_law_146 ?_
      refine z_sk (pc := 147) (rest := []) hC sL_submits lL_99 dL_law_147 (l_submits (v := v) hL) (fun w => w) isCtx_id rfl rfl rfl (by decide) (Nat.le_of_ble_eq_true rfl) ⟨by omega, by omega⟩ (fun r2 S3 hp3 => ?_)
      obtain ⟨rfl, hL3⟩ := hp3
      refine z_ifeq (pc := 150) hC 157 (by decide) dL_law_150 (fun c150 => absurd c150 (by decide)) (fun c150 => ?_)
      refine z_iconst (pc := 153) (v := 1) hC dL_law_153 (by decide) ?_
      refine z_goto (pc := 154) hC 158 (by decide) dL_law_154 ?_
      refine z_is (pc := 158) (lv' := [(7, .int 1), (6, .ref (v 4)), (5, .ref (v 3)), (4, .ref (v 2)), (3, .ref (v 1)), (2, .ref (v 0)), (1, .ref x), (0, .ref b)]) hC hm (by decide) rfl dL_law_158 ?_
      refine z_iconst (pc := 160) (v := nI 0) hC dL_law_160 (by decide) ?_
      refine z_is (pc := 161) (lv' := [(8, .int (nI 0)), (7, .int 1), (6, .ref (v 4)), (5, .ref (v 3)), (4, .ref (v 2)), (3, .ref (v 1)), (2, .ref (v 0)), (1, .ref x), (0, .ref b)]) hC hm (by decide) rfl dL_law_161 ?_
      refine z_lv (lv' := [(8, .int (nI 0)), (7, .int 1), (0, .ref b), (1, .ref x), (2, .ref (v 0)), (3, .ref (v 1)), (4, .ref (v 2)), (5, .ref (v 3)), (6, .ref (v 4))]) [0, 1, 8, 7, 6, 5, 4, 3, 2] rfl ?_
      exact lc_turns hO hE 42 0 _ _ S3 rfl (Nat.le_of_ble_eq_true rfl) (Nat.le_of_ble_eq_true rfl) hL3
    | succ k ih =>
      intro m hm2
      have hm12 : m < 12 := by omega
      refine z_il (pc := 46) hC 0 rfl dL_law_46 ?_
      refine z_bipush (pc := 48) (v := nI 12) hC dL_law_48 (by decide) ?_
      refine z_icge (pc := 50) hC 103 (by decide) dL_law_50 (fun c50 => absurd c50 (nI_ge (by omega) (by omega))) (fun c50 => ?_)
      refine z_aln (pc := 53) hC 5 rfl dL_law_53 ?_
      refine z_iconst (pc := 54) (v := nI 3) hC dL_law_54 (by decide) ?_
      refine z_il (pc := 55) hC 0 rfl dL_law_55 ?_
      refine z_imul (pc := 57) (v := nI (3 * m)) hC (pk_mul _ _) dL_law_57 ?_
      refine z_il (pc := 58) hC 0 rfl dL_law_58 ?_
      refine z_bipush (pc := 60) (v := nI 6) hC dL_law_60 (by decide) ?_
      refine z_icge (pc := 62) hC 72 (by decide) dL_law_62 (fun c62 => ?_) (fun c62 => ?_)
      · refine z_iconst (pc := 72) (v := 0) hC dL_law_72 (by decide) ?_
        refine z_is_ (y := lab m) (by rw [lab, if_neg (Nat.not_lt.mpr ((nI_leI (by omega) (by omega)).mp c62))]) ?_
        refine z_iast (pc := 73) (ws' := lgW g.2 v (setS (RI_ m) 0 m (lab m)) ++ xW g.2 x u c a h e (fun _ => 0) (fun _ => 0) (RI_ 12) (RI_ 12) (nI 0) (nI 0) (fun _ => RI_ 12)) hC 0 rfl dL_law_73 (3 * m + 0) rfl (by omega) (by decide) (set_appl (Nat.le_of_ble_eq_true rfl) (lg_A (by decide))) ?_
        refine z_aln (pc := 74) hC 5 rfl dL_law_74 ?_
        refine z_iconst (pc := 75) (v := nI 3) hC dL_law_75 (by decide) ?_
        refine z_il (pc := 76) hC 0 rfl dL_law_76 ?_
        refine z_imul (pc := 78) (v := nI (3 * m)) hC (pk_mul _ _) dL_law_78 ?_
        refine z_iconst (pc := 79) (v := nI 1) hC dL_law_79 (by decide) ?_
        refine z_iadd (pc := 80) (v := nI (3 * m + 1)) hC (nI_add _ _) dL_law_80 ?_
        refine z_aln (pc := 81) hC 5 rfl dL_law_81 ?_
        refine z_iconst (pc := 82) (v := nI 3) hC dL_law_82 (by decide) ?_
        refine z_il (pc := 83) hC 0 rfl dL_law_83 ?_
        refine z_imul (pc := 85) (v := nI (3 * m)) hC (pk_mul _ _) dL_law_85 ?_
        refine z_iald (pc := 86) hC 0 rfl dL_law_86 (3 * m + 0) rfl (by omega) (by decide) ?_
        refine z_is_ (y := (setS (RI_ m) 0 m (lab m)) 0 m) (fA_at (by decide) _) ?_
        refine z_is_ (y := lab m) (setS_eq (RI_ m) 0 m _) ?_
        refine z_iast (pc := 87) (ws' := lgW g.2 v (setS (setS (RI_ m) 0 m (lab m)) 1 m (lab m)) ++ xW g.2 x u c a h e (fun _ => 0) (fun _ => 0) (RI_ 12) (RI_ 12) (nI 0) (nI 0) (fun _ => RI_ 12)) hC 0 rfl dL_law_87 (3 * m + 1) rfl (by omega) (by decide) (set_appl (Nat.le_of_ble_eq_true rfl) (lg_A (by decide))) ?_
        refine z_aln (pc := 88) hC 4 rfl dL_law_88 ?_
        refine z_iconst (pc := 89) (v := nI 3) hC dL_law_89 (by decide) ?_
        refine z_il (pc := 90) hC 0 rfl dL_law_90 ?_
        refine z_imul (pc := 92) (v := nI (3 * m)) hC (pk_mul _ _) dL_law_92 ?_
        refine z_iconst (pc := 93) (v := nI 2) hC dL_law_93 (by decide) ?_
        refine z_iadd (pc := 94) (v := nI (3 * m + 2)) hC (nI_add _ _) dL_law_94 ?_
        refine z_iconst (pc := 95) (v := -1) hC dL_law_95 (by decide) ?_
        refine z_iast (pc := 96) (ws' := lgW g.2 v (setS (setS (setS (RI_ m) 0 m (lab m)) 1 m (lab m)) 5 m (-1)) ++ xW g.2 x u c a h e (fun _ => 0) (fun _ => 0) (RI_ 12) (RI_ 12) (nI 0) (nI 0) (fun _ => RI_ 12)) hC 1 rfl dL_law_96 (3 * m + 2) rfl (by omega) (by decide) (set_appl (Nat.le_of_ble_eq_true rfl) (lg_B (by decide))) ?_
        refine z_w (ws' := lgW g.2 v (RI_ (m + 1)) ++ xW g.2 x u c a h e (fun _ => 0) (fun _ => 0) (RI_ 12) (RI_ 12) (nI 0) (nI 0) (fun _ => RI_ 12)) (congrArg (fun z => lgW g.2 v z ++ _) (RI_s m)) ?_
        refine z_iinc (pc := 97) (v := nI (m + 1)) (j := 0) (lv' := [(7, .int (nI (m + 1))), (6, .ref (v 4)), (5, .ref (v 3)), (4, .ref (v 2)), (3, .ref (v 1)), (2, .ref (v 0)), (1, .ref x), (0, .ref b)]) hC hm (by decide) rfl (up_step _) rfl dL_law_97 ?_
        refine z_goto (pc := 100) hC 46 (by decide) dL_law_100 ?_
        refine z_lv (lv' := [(7, .int (nI (m + 1))), (6, .ref (v 4)), (5, .ref (v 3)), (4, .ref (v 2)), (3, .ref (v 1)), (2, .ref (v 0)), (1, .ref x), (0, .ref b)]) [0, 1, 2, 3, 4, 5, 6, 7] rfl ?_
        exact ih (m + 1) (by omega)
      · refine z_il (pc := 65) hC 0 rfl dL_law_65 ?_
        refine z_iconst (pc := 67) (v := nI 1) hC dL_law_67 (by decide) ?_
        refine z_iadd (pc := 68) (v := nI (m + 1)) hC (nI_add _ _) dL_law_68 ?_
        refine z_goto (pc := 69) hC 73 (by decide) dL_law_69 ?_
        refine z_is_ (y := lab m) (lab_t hm12 c62) ?_
        refine z_iast (pc := 73) (ws' := lgW g.2 v (setS (RI_ m) 0 m (lab m)) ++ xW g.2 x u c a h e (fun _ => 0) (fun _ => 0) (RI_ 12) (RI_ 12) (nI 0) (nI 0) (fun _ => RI_ 12)) hC 0 rfl dL_law_73 (3 * m + 0) rfl (by omega) (by decide) (set_appl (Nat.le_of_ble_eq_true rfl) (lg_A (by decide))) ?_
        refine z_aln (pc := 74) hC 5 rfl dL_law_74 ?_
        refine z_iconst (pc := 75) (v := nI 3) hC dL_law_75 (by decide) ?_
        refine z_il (pc := 76) hC 0 rfl dL_law_76 ?_
        refine z_imul (pc := 78) (v := nI (3 * m)) hC (pk_mul _ _) dL_law_78 ?_
        refine z_iconst (pc := 79) (v := nI 1) hC dL_law_79 (by decide) ?_
        refine z_iadd (pc := 80) (v := nI (3 * m + 1)) hC (nI_add _ _) dL_law_80 ?_
        refine z_aln (pc := 81) hC 5 rfl dL_law_81 ?_
        refine z_iconst (pc := 82) (v := nI 3) hC dL_law_82 (by decide) ?_
        refine z_il (pc := 83) hC 0 rfl dL_law_83 ?_
        refine z_imul (pc := 85) (v := nI (3 * m)) hC (pk_mul _ _) dL_law_85 ?_
        refine z_iald (pc := 86) hC 0 rfl dL_law_86 (3 * m + 0) rfl (by omega) (by decide) ?_
        refine z_is_ (y := (setS (RI_ m) 0 m (lab m)) 0 m) (fA_at (by decide) _) ?_
        refine z_is_ (y := lab m) (setS_eq (RI_ m) 0 m _) ?_
        refine z_iast (pc := 87) (ws' := lgW g.2 v (setS (setS (RI_ m) 0 m (lab m)) 1 m (lab m)) ++ xW g.2 x u c a h e (fun _ => 0) (fun _ => 0) (RI_ 12) (RI_ 12) (nI 0) (nI 0) (fun _ => RI_ 12)) hC 0 rfl dL_law_87 (3 * m + 1) rfl (by omega) (by decide) (set_appl (Nat.le_of_ble_eq_true rfl) (lg_A (by decide))) ?_
        refine z_aln (pc := 88) hC 4 rfl dL_law_88 ?_
        refine z_iconst (pc := 89) (v := nI 3) hC dL_law_89 (by decide) ?_
        refine z_il (pc := 90) hC 0 rfl dL_law_90 ?_
        refine z_imul (pc := 92) (v := nI (3 * m)) hC (pk_mul _ _) dL_law_92 ?_
        refine z_iconst (pc := 93) (v := nI 2) hC dL_law_93 (by decide) ?_
        refine z_iadd (pc := 94) (v := nI (3 * m + 2)) hC (nI_add _ _) dL_law_94 ?_
        refine z_iconst (pc := 95) (v := -1) hC dL_law_95 (by decide) ?_
        refine z_iast (pc := 96) (ws' := lgW g.2 v (setS (setS (setS (RI_ m) 0 m (lab m)) 1 m (lab m)) 5 m (-1)) ++ xW g.2 x u c a h e (fun _ => 0) (fun _ => 0) (RI_ 12) (RI_ 12) (nI 0) (nI 0) (fun _ => RI_ 12)) hC 1 rfl dL_law_96 (3 * m + 2) rfl (by omega) (by decide) (set_appl (Nat.le_of_ble_eq_true rfl) (lg_B (by decide))) ?_
        refine z_w (ws' := lgW g.2 v (RI_ (m + 1)) ++ xW g.2 x u c a h e (fun _ => 0) (fun _ => 0) (RI_ 12) (RI_ 12) (nI 0) (nI 0) (fun _ => RI_ 12)) (congrArg (fun z => lgW g.2 v z ++ _) (RI_s m)) ?_
        refine z_iinc (pc := 97) (v := nI (m + 1)) (j := 0) (lv' := [(7, .int (nI (m + 1))), (6, .ref (v 4)), (5, .ref (v 3)), (4, .ref (v 2)), (3, .ref (v 1)), (2, .ref (v 0)), (1, .ref x), (0, .ref b)]) hC hm (by decide) rfl (up_step _) rfl dL_law_97 ?_
        refine z_goto (pc := 100) hC 46 (by decide) dL_law_100 ?_
        refine z_lv (lv' := [(7, .int (nI (m + 1))), (6, .ref (v 4)), (5, .ref (v 3)), (4, .ref (v 2)), (3, .ref (v 1)), (2, .ref (v 0)), (1, .ref x), (0, .ref b)]) [0, 1, 2, 3, 4, 5, 6, 7] rfl ?_
        exact ih (m + 1) (by omega)
  refine z_al (pc := 36) hC 0 rfl dL_law_36 ?_
  refine z_bipush (pc := 38) (v := 9) hC dL_law_38 (by decide) ?_
  refine z_bipush (pc := 40) (v := 10) hC dL_law_40 (by decide) ?_
  refine z_iast (pc := 42) (ws' := lgW g.2 v (setS (fun _ _ => 0) 14 9 10) ++ xW g.2 x u c a h e (fun _ => 0) (fun _ => 0) (RI_ 12) (RI_ 12) (nI 0) (nI 0) (fun _ => RI_ 12)) hC 4 rfl dL_law_42 9 rfl (by omega) (by decide) (set_appl (Nat.le_of_ble_eq_true rfl) lg_N) ?_
  refine z_w (ws' := lgW g.2 v (RI_ 0) ++ xW g.2 x u c a h e (fun _ => 0) (fun _ => 0) (RI_ 12) (RI_ 12) (nI 0) (nI 0) (fun _ => RI_ 12)) (by rw [RI_0]) ?_
  refine z_iconst (pc := 43) (v := nI 0) hC dL_law_43 (by decide) ?_
  refine z_is (pc := 44) (lv' := [(7, .int (nI 0)), (6, .ref (v 4)), (5, .ref (v 3)), (4, .ref (v 2)), (3, .ref (v 1)), (2, .ref (v 0)), (1, .ref x), (0, .ref b)]) hC hm (by decide) rfl dL_law_44 ?_
  refine z_lv (lv' := [(7, .int (nI 0)), (6, .ref (v 4)), (5, .ref (v 3)), (4, .ref (v 2)), (3, .ref (v 1)), (2, .ref (v 0)), (1, .ref x), (0, .ref b)]) [0, 1, 2, 3, 4, 5, 6, 7] rfl ?_
  exact loop 12 0 rfl

end LLAW

theorem perm_5 {A B J K N : Nat × va_E} {X : va_W} : (((((X ++ [A]) ++ [B]) ++ [J]) ++ [K]) ++ [N]).Perm ([A, B, J, K, N] ++ X) := by
  have e : (((((X ++ [A]) ++ [B]) ++ [J]) ++ [K]) ++ [N]) = X ++ [A, B, J, K, N] := by simp
  rw [e]
  exact List.perm_append_comm

set_option maxRecDepth 100000 in
set_option maxHeartbeats 4000000 in
theorem lc_start {g : zG} {C : zC} {b L : Nat} {xs : Nat → Int32} (hO : lOK g C b L xs) (hE : ∀ (k n : Nat) (ws : va_W) (lv : List (Nat × Value)), k ≤ 600104 → n ≤ 7301314 → Z g C k n ws lv 286 [.int 1]) : Z g C 0 0 [] [(0, .ref b)] 0 [] := by
  obtain ⟨hC, hm, hXs, hbl, hbA, hL0⟩ := id hO
  refine z_new (pc := 0) (ci := 5) hC uX5 tyX5 tyX5_ok (in_aw 16 (by decide +kernel) (by decide +kernel)) (in_aw 17 (by decide +kernel) (by decide +kernel)) (in_aw 2 (by decide +kernel) (by decide +kernel)) rfl (fs := [.null, .null, .null, .null]) (fun j hj => by rcases (show j = 0 ∨ j = 1 ∨ j = 2 ∨ j = 3 by omega) with h | h | h | h <;> subst h <;> rfl) ⟨Nat.le_of_ble_eq_true rfl, Nat.le_of_ble_eq_true rfl⟩ dL_law_0 (fun x => ?_)
  refine z_w (ws' := [(x, .inr (5, [.null, .null, .null, .null]))]) rfl ?_
  refine z_dup (pc := 3) hC rfl dL_law_3 ?_
  refine z_iv (pc := 4) (rest := [.ref x]) hC iX5_init lL_122 dL_law_4 i_console [] [] rfl rfl rfl (by decide) (Nat.le_of_ble_eq_true rfl) ⟨Nat.le_of_ble_eq_true rfl, Nat.le_of_ble_eq_true rfl⟩ (fun S _ => ?_)
  obtain ⟨u, c, a, h, e⟩ := S
  refine z_w (ws' := xW g.2 x u c a h e (fun _ => 0) (fun _ => 0) (RI_ 12) (RI_ 12) (nI 0) (nI 0) (fun _ => RI_ 12)) (by rw [List.append_nil]; rfl) ?_
  refine z_asn (pc := 7) (lv' := [(1, .ref x), (0, .ref b)]) hC hm (by decide) rfl dL_law_7 ?_
  refine z_bipush (pc := 8) (v := nI 36) hC dL_law_8 (by decide) ?_
  refine z_newa (pc := 10) hC 0 rfl (fun _ _ h => h) rfl aw_int dL_law_10 36 rfl (by decide) (by decide) ⟨Nat.le_of_ble_eq_true rfl, Nat.le_of_ble_eq_true rfl⟩ (a0 := (36, .inl (fun _ => 0))) (fun _ => rfl) (fun v0 => ?_)
  refine z_asn (pc := 12) (lv' := [(2, .ref v0), (1, .ref x), (0, .ref b)]) hC hm (by decide) rfl dL_law_12 ?_
  refine z_bipush (pc := 13) (v := nI 36) hC dL_law_13 (by decide) ?_
  refine z_newa (pc := 15) hC 0 rfl (fun _ _ h => h) rfl aw_int dL_law_15 36 rfl (by decide) (by decide) ⟨Nat.le_of_ble_eq_true rfl, Nat.le_of_ble_eq_true rfl⟩ (a0 := (36, .inl (fun _ => 0))) (fun _ => rfl) (fun v1 => ?_)
  refine z_asn (pc := 17) (lv' := [(3, .ref v1), (2, .ref v0), (1, .ref x), (0, .ref b)]) hC hm (by decide) rfl dL_law_17 ?_
  refine z_bipush (pc := 18) (v := nI 48) hC dL_law_18 (by decide) ?_
  refine z_newa (pc := 20) hC 0 rfl (fun _ _ h => h) rfl aw_int dL_law_20 48 rfl (by decide) (by decide) ⟨Nat.le_of_ble_eq_true rfl, Nat.le_of_ble_eq_true rfl⟩ (a0 := (48, .inl (fun _ => 0))) (fun _ => rfl) (fun v2 => ?_)
  refine z_as (pc := 22) (lv' := [(4, .ref v2), (3, .ref v1), (2, .ref v0), (1, .ref x), (0, .ref b)]) hC hm (by decide) rfl dL_law_22 ?_
  refine z_bipush (pc := 24) (v := nI 48) hC dL_law_24 (by decide) ?_
  refine z_newa (pc := 26) hC 0 rfl (fun _ _ h => h) rfl aw_int dL_law_26 48 rfl (by decide) (by decide) ⟨Nat.le_of_ble_eq_true rfl, Nat.le_of_ble_eq_true rfl⟩ (a0 := (48, .inl (fun _ => 0))) (fun _ => rfl) (fun v3 => ?_)
  refine z_as (pc := 28) (lv' := [(5, .ref v3), (4, .ref v2), (3, .ref v1), (2, .ref v0), (1, .ref x), (0, .ref b)]) hC hm (by decide) rfl dL_law_28 ?_
  refine z_bipush (pc := 30) (v := nI 11) hC dL_law_30 (by decide) ?_
  refine z_newa (pc := 32) hC 0 rfl (fun _ _ h => h) rfl aw_int dL_law_32 11 rfl (by decide) (by decide) ⟨Nat.le_of_ble_eq_true rfl, Nat.le_of_ble_eq_true rfl⟩ (a0 := (11, .inl (fun _ => 0))) (fun _ => rfl) (fun v4 => ?_)
  refine z_as (pc := 34) (lv' := [(6, .ref v4), (5, .ref v3), (4, .ref v2), (3, .ref v1), (2, .ref v0), (1, .ref x), (0, .ref b)]) hC hm (by decide) rfl dL_law_34 ?_
  refine z_perm (ws' := lgW g.2 (adr [v0, v1, v2, v3, v4]) (fun _ _ => 0) ++ xW g.2 x u c a h e (fun _ => 0) (fun _ => 0) (RI_ 12) (RI_ 12) (nI 0) (nI 0) (fun _ => RI_ 12)) perm_5 ?_
  exact lc_fill (v := adr [v0, v1, v2, v3, v4]) hO hE
