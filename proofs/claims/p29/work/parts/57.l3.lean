set_option maxRecDepth 100000 in
set_option maxHeartbeats 4000000 in
theorem l_areReels {g : zG} {x : Nat} {u c a h v : Nat → Nat} {e : Nat → Nat → Nat} {Q P : Nat → Int32} {T R : St} {s p : Nat} {K : Nat → St} {H : Nat → St} {t : Nat → Nat} {L : Nat} (hG : GR R) (hX : xR H s t L (Q, P, T, p, K)) (hK : KI R (nn R)) : Gi g yL_areReels cL_areReels 8 .boolean 9 [.ref x, .ref (v 0), .ref (v 1), .ref (v 4)] (lgW g.2 v R ++ xW g.2 x u c a h e Q P T R (nI s) (nI p) K) 1 (lgW g.2 v R ++ xW g.2 x u c a h e Q P T R (nI s) (nI p) K) := by
  refine fi_entry (by decide) (Nat.le_of_ble_eq_true rfl) (fun C hC hm hE => ?_)
  have loop : ∀ (k m : Nat) (y : Int32), m + k = 12 → cntR R m k y = cntR R 0 12 0 → Z g C 0 0 (lgW g.2 v R ++ xW g.2 x u c a h e Q P T R (nI s) (nI p) K) [(4, .int y), (5, .int 1), (6, .int (nI m)), (0, .ref x), (1, .ref (v 0)), (2, .ref (v 1)), (3, .ref (v 4))] 9 [] := by
    intro k
    induction k with
    | zero =>
      intro m y hm2 hp
      refine z_il (pc := 9) hC 2 rfl dL_areReels_9 ?_
      refine z_bipush (pc := 11) (v := nI 12) hC dL_areReels_11 (by decide) ?_
      refine z_icge (pc := 13) hC 176 (by decide) dL_areReels_13 (fun c13 => ?_) (fun c13 => absurd (nI_le (by omega) (by omega)) c13)
      refine z_il (pc := 176) hC 1 rfl dL_areReels_176 ?_
      refine z_ifeq (pc := 178) hC 233 (by decide) dL_areReels_178 (fun c178 => absurd c178 (by decide)) (fun c178 => ?_)
      refine z_aln (pc := 181) hC 3 rfl dL_areReels_181 ?_
      refine z_g (pc := 182) (rest := []) hC vX5_scratchReels lL_44 dL_areReels_182 (k_scratchReels hG hX) (fun zw => lgW g.2 v R ++ zw) (ctx_r _) rfl 0 5 rfl rfl rfl rfl rfl (by decide) (Nat.le_of_ble_eq_true rfl) ⟨Nat.zero_le _, Nat.zero_le _⟩ ?_
      refine z_il (pc := 185) hC 0 rfl dL_areReels_185 ?_
      refine z_icne (pc := 187) hC 233 (by decide) dL_areReels_187 (fun c187 => absurd hp.symm c187) (fun c187 => ?_)
      refine z_aln (pc := 190) hC 3 rfl dL_areReels_190 ?_
      refine z_iconst (pc := 191) (v := 0) hC dL_areReels_191 (by decide) ?_
      refine z_g (pc := 192) (rest := []) hC vX5_reelOn lL_48 dL_areReels_192 (g_reelOn hG hX (y := 0) (by decide)) (fun zw => lgW g.2 v R ++ zw) (ctx_r _) rfl 0 5 rfl rfl rfl rfl rfl (by decide) (Nat.le_of_ble_eq_true rfl) ⟨Nat.zero_le _, Nat.zero_le _⟩ ?_
      refine z_aln (pc := 195) hC 5 rfl dL_areReels_195 ?_
      refine z_iconst (pc := 196) (v := 0) hC dL_areReels_196 (by decide) ?_
      refine z_sg (pc := 197) (rest := [.int (onDr R 0)]) hC sL_on lL_30 dL_areReels_197 (l_on (v := v) hG.1.2.2.2.2 (x := 0) (by decide)) (fun zw => zw ++ xW g.2 x u c a h e Q P T R (nI s) (nI p) K) (ctx_l _) rfl rfl rfl (by decide) (Nat.le_of_ble_eq_true rfl) ⟨Nat.zero_le _, Nat.zero_le _⟩ ?_
      refine z_icne (pc := 200) hC 233 (by decide) dL_areReels_200 (fun c200 => absurd rfl c200) (fun c200 => ?_)
      refine z_aln (pc := 203) hC 3 rfl dL_areReels_203 ?_
      refine z_iconst (pc := 204) (v := 1) hC dL_areReels_204 (by decide) ?_
      refine z_g (pc := 205) (rest := []) hC vX5_reelOn lL_48 dL_areReels_205 (g_reelOn hG hX (y := 1) (by decide)) (fun zw => lgW g.2 v R ++ zw) (ctx_r _) rfl 0 5 rfl rfl rfl rfl rfl (by decide) (Nat.le_of_ble_eq_true rfl) ⟨Nat.zero_le _, Nat.zero_le _⟩ ?_
      refine z_aln (pc := 208) hC 5 rfl dL_areReels_208 ?_
      refine z_iconst (pc := 209) (v := 1) hC dL_areReels_209 (by decide) ?_
      refine z_sg (pc := 210) (rest := [.int (onDr R 1)]) hC sL_on lL_30 dL_areReels_210 (l_on (v := v) hG.1.2.2.2.2 (x := 1) (by decide)) (fun zw => zw ++ xW g.2 x u c a h e Q P T R (nI s) (nI p) K) (ctx_l _) rfl rfl rfl (by decide) (Nat.le_of_ble_eq_true rfl) ⟨Nat.zero_le _, Nat.zero_le _⟩ ?_
      refine z_icne (pc := 213) hC 233 (by decide) dL_areReels_213 (fun c213 => absurd rfl c213) (fun c213 => ?_)
      refine z_aln (pc := 216) hC 3 rfl dL_areReels_216 ?_
      refine z_iconst (pc := 217) (v := 2) hC dL_areReels_217 (by decide) ?_
      refine z_g (pc := 218) (rest := []) hC vX5_reelOn lL_48 dL_areReels_218 (g_reelOn hG hX (y := 2) (by decide)) (fun zw => lgW g.2 v R ++ zw) (ctx_r _) rfl 0 5 rfl rfl rfl rfl rfl (by decide) (Nat.le_of_ble_eq_true rfl) ⟨Nat.zero_le _, Nat.zero_le _⟩ ?_
      refine z_aln (pc := 221) hC 5 rfl dL_areReels_221 ?_
      refine z_iconst (pc := 222) (v := 2) hC dL_areReels_222 (by decide) ?_
      refine z_sg (pc := 223) (rest := [.int (onDr R 2)]) hC sL_on lL_30 dL_areReels_223 (l_on (v := v) hG.1.2.2.2.2 (x := 2) (by decide)) (fun zw => zw ++ xW g.2 x u c a h e Q P T R (nI s) (nI p) K) (ctx_l _) rfl rfl rfl (by decide) (Nat.le_of_ble_eq_true rfl) ⟨Nat.zero_le _, Nat.zero_le _⟩ ?_
      refine z_icne (pc := 226) hC 233 (by decide) dL_areReels_226 (fun c226 => absurd rfl c226) (fun c226 => ?_)
      refine z_iconst (pc := 229) (v := 1) hC dL_areReels_229 (by decide) ?_
      refine z_goto (pc := 230) hC 234 (by decide) dL_areReels_230 ?_
      exact hE _ _ _ () _ _ _ dL_areReels_234 rfl rfl rfl (Nat.zero_le _) (Nat.zero_le _)
    | succ k ih =>
      intro m y hm2 hp
      have hm12 : m < 12 := by omega
      have tail : Z g C 0 0 (lgW g.2 v R ++ xW g.2 x u c a h e Q P T R (nI s) (nI p) K) [(4, .int y), (5, .int 1), (6, .int (nI m)), (0, .ref x), (1, .ref (v 0)), (2, .ref (v 1)), (3, .ref (v 4)), (7, .int (bI (scr R m)))] 39 [] := by
        refine z_aln (pc := 39) hC 3 rfl dL_areReels_39 ?_
        refine z_il (pc := 40) hC 2 rfl dL_areReels_40 ?_
        refine z_iconst (pc := 42) (v := nI 0) hC dL_areReels_42 (by decide) ?_
        refine z_g (pc := 43) (rest := []) hC vX5_reel lL_38 dL_areReels_43 (g_reel hG hX (cReel_0 hm12 (q := 0) (by omega))) (fun zw => lgW g.2 v R ++ zw) (ctx_r _) rfl 0 5 rfl rfl rfl rfl rfl (by decide) (Nat.le_of_ble_eq_true rfl) ⟨Nat.zero_le _, Nat.zero_le _⟩ ?_
        refine z_is_ (y := R 0 m) (vReel_at hm12 (by omega)) ?_
        refine z_aln (pc := 46) hC 4 rfl dL_areReels_46 ?_
        refine z_iconst (pc := 47) (v := nI 3) hC dL_areReels_47 (by decide) ?_
        refine z_il (pc := 48) hC 2 rfl dL_areReels_48 ?_
        refine z_imul (pc := 50) (v := nI (3 * m)) hC (pk_mul _ _) dL_areReels_50 ?_
        refine z_iald (pc := 51) hC 0 rfl dL_areReels_51 (3 * m + 0) rfl (by omega) (by decide) ?_
        refine z_is_ (y := R 0 m) (fA_at (by decide) _) ?_
        refine z_icne (pc := 52) hC 160 (by decide) dL_areReels_52 (fun c52 => absurd rfl c52) (fun c52 => ?_)
        refine z_aln (pc := 55) hC 3 rfl dL_areReels_55 ?_
        refine z_il (pc := 56) hC 2 rfl dL_areReels_56 ?_
        refine z_iconst (pc := 58) (v := nI 1) hC dL_areReels_58 (by decide) ?_
        refine z_g (pc := 59) (rest := []) hC vX5_reel lL_38 dL_areReels_59 (g_reel hG hX (cReel_0 hm12 (q := 1) (by omega))) (fun zw => lgW g.2 v R ++ zw) (ctx_r _) rfl 0 5 rfl rfl rfl rfl rfl (by decide) (Nat.le_of_ble_eq_true rfl) ⟨Nat.zero_le _, Nat.zero_le _⟩ ?_
        refine z_is_ (y := R 1 m) (vReel_at hm12 (by omega)) ?_
        refine z_aln (pc := 62) hC 4 rfl dL_areReels_62 ?_
        refine z_iconst (pc := 63) (v := nI 3) hC dL_areReels_63 (by decide) ?_
        refine z_il (pc := 64) hC 2 rfl dL_areReels_64 ?_
        refine z_imul (pc := 66) (v := nI (3 * m)) hC (pk_mul _ _) dL_areReels_66 ?_
        refine z_iconst (pc := 67) (v := nI 1) hC dL_areReels_67 (by decide) ?_
        refine z_iadd (pc := 68) (v := nI (3 * m + 1)) hC (nI_add _ _) dL_areReels_68 ?_
        refine z_iald (pc := 69) hC 0 rfl dL_areReels_69 (3 * m + 1) rfl (by omega) (by decide) ?_
        refine z_is_ (y := R 1 m) (fA_at (by decide) _) ?_
        refine z_icne (pc := 70) hC 160 (by decide) dL_areReels_70 (fun c70 => absurd rfl c70) (fun c70 => ?_)
        refine z_aln (pc := 73) hC 3 rfl dL_areReels_73 ?_
        refine z_il (pc := 74) hC 2 rfl dL_areReels_74 ?_
        refine z_iconst (pc := 76) (v := nI 2) hC dL_areReels_76 (by decide) ?_
        refine z_g (pc := 77) (rest := []) hC vX5_reel lL_38 dL_areReels_77 (g_reel hG hX (cReel_0 hm12 (q := 2) (by omega))) (fun zw => lgW g.2 v R ++ zw) (ctx_r _) rfl 0 5 rfl rfl rfl rfl rfl (by decide) (Nat.le_of_ble_eq_true rfl) ⟨Nat.zero_le _, Nat.zero_le _⟩ ?_
        refine z_is_ (y := R 2 m) (vReel_at hm12 (by omega)) ?_
        refine z_aln (pc := 80) hC 4 rfl dL_areReels_80 ?_
        refine z_iconst (pc := 81) (v := nI 3) hC dL_areReels_81 (by decide) ?_
        refine z_il (pc := 82) hC 2 rfl dL_areReels_82 ?_
        refine z_imul (pc := 84) (v := nI (3 * m)) hC (pk_mul _ _) dL_areReels_84 ?_
        refine z_iconst (pc := 85) (v := nI 2) hC dL_areReels_85 (by decide) ?_
        refine z_iadd (pc := 86) (v := nI (3 * m + 2)) hC (nI_add _ _) dL_areReels_86 ?_
        refine z_iald (pc := 87) hC 0 rfl dL_areReels_87 (3 * m + 2) rfl (by omega) (by decide) ?_
        refine z_is_ (y := R 2 m) (fA_at (by decide) _) ?_
        refine z_icne (pc := 88) hC 160 (by decide) dL_areReels_88 (fun c88 => absurd rfl c88) (fun c88 => ?_)
        refine z_aln (pc := 91) hC 3 rfl dL_areReels_91 ?_
        refine z_il (pc := 92) hC 2 rfl dL_areReels_92 ?_
        refine z_iconst (pc := 94) (v := nI 3) hC dL_areReels_94 (by decide) ?_
        refine z_g (pc := 95) (rest := []) hC vX5_reel lL_38 dL_areReels_95 (g_reel hG hX (cReel_0 hm12 (q := 3) (by omega))) (fun zw => lgW g.2 v R ++ zw) (ctx_r _) rfl 0 5 rfl rfl rfl rfl rfl (by decide) (Nat.le_of_ble_eq_true rfl) ⟨Nat.zero_le _, Nat.zero_le _⟩ ?_
        refine z_is_ (y := R 3 m) (vReel_at hm12 (by omega)) ?_
        refine z_aln (pc := 98) hC 5 rfl dL_areReels_98 ?_
        refine z_iconst (pc := 99) (v := nI 3) hC dL_areReels_99 (by decide) ?_
        refine z_il (pc := 100) hC 2 rfl dL_areReels_100 ?_
        refine z_imul (pc := 102) (v := nI (3 * m)) hC (pk_mul _ _) dL_areReels_102 ?_
        refine z_iald (pc := 103) hC 1 rfl dL_areReels_103 (3 * m + 0) rfl (by omega) (by decide) ?_
        refine z_is_ (y := R 3 m) (fB_at (by decide) _) ?_
        refine z_icne (pc := 104) hC 160 (by decide) dL_areReels_104 (fun c104 => absurd rfl c104) (fun c104 => ?_)
        refine z_aln (pc := 107) hC 3 rfl dL_areReels_107 ?_
        refine z_il (pc := 108) hC 2 rfl dL_areReels_108 ?_
        refine z_iconst (pc := 110) (v := nI 4) hC dL_areReels_110 (by decide) ?_
        refine z_g (pc := 111) (rest := []) hC vX5_reel lL_38 dL_areReels_111 (g_reel hG hX (cReel_0 hm12 (q := 4) (by omega))) (fun zw => lgW g.2 v R ++ zw) (ctx_r _) rfl 0 5 rfl rfl rfl rfl rfl (by decide) (Nat.le_of_ble_eq_true rfl) ⟨Nat.zero_le _, Nat.zero_le _⟩ ?_
        refine z_is_ (y := R 4 m) (vReel_at hm12 (by omega)) ?_
        refine z_aln (pc := 114) hC 5 rfl dL_areReels_114 ?_
        refine z_iconst (pc := 115) (v := nI 3) hC dL_areReels_115 (by decide) ?_
        refine z_il (pc := 116) hC 2 rfl dL_areReels_116 ?_
        refine z_imul (pc := 118) (v := nI (3 * m)) hC (pk_mul _ _) dL_areReels_118 ?_
        refine z_iconst (pc := 119) (v := nI 1) hC dL_areReels_119 (by decide) ?_
        refine z_iadd (pc := 120) (v := nI (3 * m + 1)) hC (nI_add _ _) dL_areReels_120 ?_
        refine z_iald (pc := 121) hC 1 rfl dL_areReels_121 (3 * m + 1) rfl (by omega) (by decide) ?_
        refine z_is_ (y := R 4 m) (fB_at (by decide) _) ?_
        refine z_icne (pc := 122) hC 160 (by decide) dL_areReels_122 (fun c122 => absurd rfl c122) (fun c122 => ?_)
        refine z_aln (pc := 125) hC 3 rfl dL_areReels_125 ?_
        refine z_il (pc := 126) hC 2 rfl dL_areReels_126 ?_
        refine z_iconst (pc := 128) (v := nI 5) hC dL_areReels_128 (by decide) ?_
        refine z_g (pc := 129) (rest := []) hC vX5_reel lL_38 dL_areReels_129 (g_reel hG hX (cReel_0 hm12 (q := 5) (by omega))) (fun zw => lgW g.2 v R ++ zw) (ctx_r _) rfl 0 5 rfl rfl rfl rfl rfl (by decide) (Nat.le_of_ble_eq_true rfl) ⟨Nat.zero_le _, Nat.zero_le _⟩ ?_
        refine z_is_ (y := R 5 m) (vReel_at hm12 (by omega)) ?_
        refine z_aln (pc := 132) hC 5 rfl dL_areReels_132 ?_
        refine z_iconst (pc := 133) (v := nI 3) hC dL_areReels_133 (by decide) ?_
        refine z_il (pc := 134) hC 2 rfl dL_areReels_134 ?_
        refine z_imul (pc := 136) (v := nI (3 * m)) hC (pk_mul _ _) dL_areReels_136 ?_
        refine z_iconst (pc := 137) (v := nI 2) hC dL_areReels_137 (by decide) ?_
        refine z_iadd (pc := 138) (v := nI (3 * m + 2)) hC (nI_add _ _) dL_areReels_138 ?_
        refine z_iald (pc := 139) hC 1 rfl dL_areReels_139 (3 * m + 2) rfl (by omega) (by decide) ?_
        refine z_is_ (y := R 5 m) (fB_at (by decide) _) ?_
        refine z_icne (pc := 140) hC 160 (by decide) dL_areReels_140 (fun c140 => absurd rfl c140) (fun c140 => ?_)
        refine z_aln (pc := 143) hC 3 rfl dL_areReels_143 ?_
        refine z_il (pc := 144) hC 2 rfl dL_areReels_144 ?_
        refine z_bipush (pc := 146) (v := nI 6) hC dL_areReels_146 (by decide) ?_
        refine z_g (pc := 148) (rest := []) hC vX5_reel lL_38 dL_areReels_148 (g_reel hG hX (cReel_0 hm12 (q := 6) (by omega))) (fun zw => lgW g.2 v R ++ zw) (ctx_r _) rfl 0 5 rfl rfl rfl rfl rfl (by decide) (Nat.le_of_ble_eq_true rfl) ⟨Nat.zero_le _, Nat.zero_le _⟩ ?_
        refine z_is_ (y := bI (scr R m)) (vReel_6 hm12) ?_
        refine z_il (pc := 151) hC 7 rfl dL_areReels_151 ?_
        refine z_icne (pc := 153) hC 160 (by decide) dL_areReels_153 (fun c153 => absurd rfl c153) (fun c153 => ?_)
        refine z_iconst (pc := 156) (v := 1) hC dL_areReels_156 (by decide) ?_
        refine z_goto (pc := 157) hC 161 (by decide) dL_areReels_157 ?_
        refine z_is (pc := 161) (lv' := [(5, .int 1), (4, .int y), (6, .int (nI m)), (0, .ref x), (1, .ref (v 0)), (2, .ref (v 1)), (3, .ref (v 4)), (7, .int (bI (scr R m)))]) hC hm (by decide) rfl dL_areReels_161 ?_
        refine z_il (pc := 163) hC 1 rfl dL_areReels_163 ?_
        refine z_il (pc := 165) hC 7 rfl dL_areReels_165 ?_
        refine z_iadd (pc := 167) (v := y + (bI (scr R m))) hC rfl dL_areReels_167 ?_
        refine z_is (pc := 168) (lv' := [(4, .int (y + (bI (scr R m)))), (5, .int 1), (6, .int (nI m)), (0, .ref x), (1, .ref (v 0)), (2, .ref (v 1)), (3, .ref (v 4)), (7, .int (bI (scr R m)))]) hC hm (by decide) rfl dL_areReels_168 ?_
        refine z_iinc (pc := 170) (v := nI (m + 1)) (j := 2) (lv' := [(6, .int (nI (m + 1))), (4, .int (y + (bI (scr R m)))), (5, .int 1), (0, .ref x), (1, .ref (v 0)), (2, .ref (v 1)), (3, .ref (v 4)), (7, .int (bI (scr R m)))]) hC hm (by decide) rfl (up_step _) rfl dL_areReels_170 ?_
        refine z_goto (pc := 173) hC 9 (by decide) dL_areReels_173 ?_
        refine z_lv [1, 2, 0, 3, 4, 5, 6] rfl ?_
        exact ih (m + 1) (y + bI (scr R m)) (by omega) hp
      refine z_il (pc := 9) hC 2 rfl dL_areReels_9 ?_
      refine z_bipush (pc := 11) (v := nI 12) hC dL_areReels_11 (by decide) ?_
      refine z_icge (pc := 13) hC 176 (by decide) dL_areReels_13 (fun c13 => absurd c13 (nI_ge (by omega) (by omega))) (fun c13 => ?_)
      refine z_il (pc := 16) hC 1 rfl dL_areReels_16 ?_
      refine z_ifeq (pc := 18) hC 176 (by decide) dL_areReels_18 (fun c18 => absurd c18 (by decide)) (fun c18 => ?_)
      refine z_aln (pc := 21) hC 4 rfl dL_areReels_21 ?_
      refine z_aln (pc := 22) hC 5 rfl dL_areReels_22 ?_
      refine z_aln (pc := 23) hC 6 rfl dL_areReels_23 ?_
      refine z_il (pc := 24) hC 2 rfl dL_areReels_24 ?_
      refine z_sg (pc := 26) (rest := []) hC sL_scratch lL_15 dL_areReels_26 (l_scratch (v := v) hm12) (fun zw => zw ++ xW g.2 x u c a h e Q P T R (nI s) (nI p) K) (ctx_l _) rfl rfl rfl (by decide) (Nat.le_of_ble_eq_true rfl) ⟨Nat.zero_le _, Nat.zero_le _⟩ ?_
      refine z_ifeq (pc := 29) hC 36 (by decide) dL_areReels_29 (fun c29 => ?_) (fun c29 => ?_)
      · refine z_iconst (pc := 36) (v := 0) hC dL_areReels_36 (by decide) ?_
        refine z_is_ (y := bI (scr R m)) (bI_f (bI_0.mp c29)) ?_
        refine z_is (pc := 37) (lv' := [(7, .int (bI (scr R m))), (4, .int y), (5, .int 1), (6, .int (nI m)), (0, .ref x), (1, .ref (v 0)), (2, .ref (v 1)), (3, .ref (v 4))]) hC hm (by decide) rfl dL_areReels_37 ?_
        refine z_lv (lv' := [(4, .int y), (5, .int 1), (6, .int (nI m)), (0, .ref x), (1, .ref (v 0)), (2, .ref (v 1)), (3, .ref (v 4)), (7, .int (bI (scr R m)))]) [1, 2, 3, 4, 5, 6, 7, 0] rfl ?_
        exact tail
      · refine z_iconst (pc := 32) (v := 1) hC dL_areReels_32 (by decide) ?_
        refine z_goto (pc := 33) hC 37 (by decide) dL_areReels_33 ?_
        refine z_is_ (y := bI (scr R m)) (bI_t (bI_n.mp c29)) ?_
        refine z_is (pc := 37) (lv' := [(7, .int (bI (scr R m))), (4, .int y), (5, .int 1), (6, .int (nI m)), (0, .ref x), (1, .ref (v 0)), (2, .ref (v 1)), (3, .ref (v 4))]) hC hm (by decide) rfl dL_areReels_37 ?_
        refine z_lv (lv' := [(4, .int y), (5, .int 1), (6, .int (nI m)), (0, .ref x), (1, .ref (v 0)), (2, .ref (v 1)), (3, .ref (v 4)), (7, .int (bI (scr R m)))]) [1, 2, 3, 4, 5, 6, 7, 0] rfl ?_
        exact tail
  refine z_iconst (pc := 0) (v := 0) hC dL_areReels_0 (by decide) ?_
  refine z_is (pc := 1) (lv' := [(4, .int 0), (0, .ref x), (1, .ref (v 0)), (2, .ref (v 1)), (3, .ref (v 4))]) hC hm (by decide) rfl dL_areReels_1 ?_
  refine z_iconst (pc := 3) (v := 1) hC dL_areReels_3 (by decide) ?_
  refine z_is (pc := 4) (lv' := [(5, .int 1), (4, .int 0), (0, .ref x), (1, .ref (v 0)), (2, .ref (v 1)), (3, .ref (v 4))]) hC hm (by decide) rfl dL_areReels_4 ?_
  refine z_iconst (pc := 6) (v := nI 0) hC dL_areReels_6 (by decide) ?_
  refine z_is (pc := 7) (lv' := [(6, .int (nI 0)), (5, .int 1), (4, .int 0), (0, .ref x), (1, .ref (v 0)), (2, .ref (v 1)), (3, .ref (v 4))]) hC hm (by decide) rfl dL_areReels_7 ?_
  refine z_lv [2, 1, 0, 3, 4, 5, 6] rfl ?_
  exact loop 12 0 0 rfl rfl

theorem st_nI {x : Int32} (h : x = 0 ∨ x = 1 ∨ x = 2 ∨ x = 3) : ∃ j : Nat, j < 4 ∧ x = nI j := by
  rcases h with h | h | h | h
  · exact ⟨0, by omega, h⟩
  · exact ⟨1, by omega, h⟩
  · exact ⟨2, by omega, h⟩
  · exact ⟨3, by omega, h⟩
theorem cmp_suc {R : St} {y : UInt64} (h : sucD R = y) : Op.cmpValue (FP.dcmp (sucD R) y) CmpOp.l = 0 := by
  subst h
  rw [suc_cmp]; rfl

theorem perm_q (A B : va_W) (q : Nat × va_E) : ((A ++ B) ++ [q]).Perm (A ++ ([q] ++ B)) := by
  rw [List.append_assoc]
  exact List.Perm.append_left A List.perm_append_comm

theorem drop_q (A B : va_W) (q : Nat × va_E) : (A ++ B).Sublist (A ++ ([q] ++ B)) := List.Sublist.append_left (List.sublist_append_right [q] B) A

set_option maxRecDepth 100000 in
set_option maxHeartbeats 4000000 in
theorem l_areJobs {g : zG} {x : Nat} {u c a h v : Nat → Nat} {e : Nat → Nat → Nat} {Q P : Nat → Int32} {T R : St} {s p : Nat} {K : Nat → St} {H : Nat → St} {t : Nat → Nat} {L : Nat} (hG : GR R) (hX : xR H s t L (Q, P, T, p, K)) (hK : KI R (nn R)) : FI (S := Unit) g yL_areJobs cL_areJobs 10 .boolean 9 1 4 [.ref x, .ref (v 0), .ref (v 1), .ref (v 2), .ref (v 3), .ref (v 4)] (lgW g.2 v R ++ xW g.2 x u c a h e Q P T R (nI s) (nI p) K) (fun r _ => r = 1) (fun _ => lgW g.2 v R ++ xW g.2 x u c a h e Q P T R (nI s) (nI p) K) := by
  refine fi_entry (by decide) (Nat.le_of_ble_eq_true rfl) (fun C hC hm hE => ?_)
  have hn12 := hG.n12
  have fin2 : ∀ q : Nat, Z g C 1 4 (lgW g.2 v R ++ ([(q, .inl (g.2 0, 4, .inl (cw R (nn R))))] ++ xW g.2 x u c a h e Q P T R (nI s) (nI p) K)) [(7, .int 1), (6, .ref q), (0, .ref x), (1, .ref (v 0)), (2, .ref (v 1)), (3, .ref (v 2)), (4, .ref (v 3)), (5, .ref (v 4))] 337 [] := by
    intro q
    refine z_il (pc := 337) hC 0 rfl dL_areJobs_337 ?_
    refine z_ifeq (pc := 339) hC 420 (by decide) dL_areJobs_339 (fun c339 => absurd c339 (by decide)) (fun c339 => ?_)
    refine z_aln (pc := 342) hC 2 rfl dL_areJobs_342 ?_
    refine z_bipush (pc := 343) (v := 8) hC dL_areJobs_343 (by decide) ?_
    refine z_g (pc := 345) (rest := []) hC vX5_count lL_71 dL_areJobs_345 (g_count hG hX (y := 8) (by decide)) (fun zw => lgW g.2 v R ++ ([(q, .inl (g.2 0, 4, .inl (cw R (nn R))))] ++ zw)) (ctx_rr _ _) rfl 0 5 rfl rfl rfl rfl rfl (by decide) (Nat.le_of_ble_eq_true rfl) ⟨Nat.le_of_ble_eq_true rfl, Nat.le_of_ble_eq_true rfl⟩ ?_
    refine z_is_ (y := cw R (nn R) 0) vCnt_8 ?_
    refine z_al (pc := 348) hC 1 rfl dL_areJobs_348 ?_
    refine z_iconst (pc := 350) (v := 0) hC dL_areJobs_350 (by decide) ?_
    refine z_iald (pc := 351) hC 5 rfl dL_areJobs_351 0 rfl (by omega) (by decide) ?_
    refine z_icne (pc := 352) hC 420 (by decide) dL_areJobs_352 (fun c352 => absurd rfl c352) (fun c352 => ?_)
    refine z_aln (pc := 355) hC 2 rfl dL_areJobs_355 ?_
    refine z_bipush (pc := 356) (v := 9) hC dL_areJobs_356 (by decide) ?_
    refine z_g (pc := 358) (rest := []) hC vX5_count lL_71 dL_areJobs_358 (g_count hG hX (y := 9) (by decide)) (fun zw => lgW g.2 v R ++ ([(q, .inl (g.2 0, 4, .inl (cw R (nn R))))] ++ zw)) (ctx_rr _ _) rfl 0 5 rfl rfl rfl rfl rfl (by decide) (Nat.le_of_ble_eq_true rfl) ⟨Nat.le_of_ble_eq_true rfl, Nat.le_of_ble_eq_true rfl⟩ ?_
    refine z_is_ (y := cw R (nn R) 1) vCnt_9 ?_
    refine z_al (pc := 361) hC 1 rfl dL_areJobs_361 ?_
    refine z_iconst (pc := 363) (v := 1) hC dL_areJobs_363 (by decide) ?_
    refine z_iald (pc := 364) hC 5 rfl dL_areJobs_364 1 rfl (by omega) (by decide) ?_
    refine z_icne (pc := 365) hC 420 (by decide) dL_areJobs_365 (fun c365 => absurd rfl c365) (fun c365 => ?_)
    refine z_aln (pc := 368) hC 2 rfl dL_areJobs_368 ?_
    refine z_bipush (pc := 369) (v := 10) hC dL_areJobs_369 (by decide) ?_
    refine z_g (pc := 371) (rest := []) hC vX5_count lL_71 dL_areJobs_371 (g_count hG hX (y := 10) (by decide)) (fun zw => lgW g.2 v R ++ ([(q, .inl (g.2 0, 4, .inl (cw R (nn R))))] ++ zw)) (ctx_rr _ _) rfl 0 5 rfl rfl rfl rfl rfl (by decide) (Nat.le_of_ble_eq_true rfl) ⟨Nat.le_of_ble_eq_true rfl, Nat.le_of_ble_eq_true rfl⟩ ?_
    refine z_is_ (y := cw R (nn R) 2) vCnt_10 ?_
    refine z_al (pc := 374) hC 1 rfl dL_areJobs_374 ?_
    refine z_iconst (pc := 376) (v := 2) hC dL_areJobs_376 (by decide) ?_
    refine z_iald (pc := 377) hC 5 rfl dL_areJobs_377 2 rfl (by omega) (by decide) ?_
    refine z_icne (pc := 378) hC 420 (by decide) dL_areJobs_378 (fun c378 => absurd rfl c378) (fun c378 => ?_)
    refine z_aln (pc := 381) hC 2 rfl dL_areJobs_381 ?_
    refine z_vdn (pc := 382) (rest := []) (As := []) hC vX5_success lL_74 dL_areJobs_382 n_success (fun zw => lgW g.2 v R ++ ([(q, .inl (g.2 0, 4, .inl (cw R (nn R))))] ++ zw)) (ctx_rr _ _) rfl 0 5 rfl rfl rfl rfl rfl (by decide) (Nat.le_of_ble_eq_true rfl) ⟨Nat.le_of_ble_eq_true rfl, Nat.le_of_ble_eq_true rfl⟩ (fun r _ hr => ?_)
    subst hr
    refine z_al (pc := 385) hC 7 rfl dL_areJobs_385 ?_
    refine z_iconst (pc := 387) (v := 2) hC dL_areJobs_387 (by decide) ?_
    refine z_iald (pc := 388) hC 4 rfl dL_areJobs_388 2 rfl (by omega) (by decide) ?_
    refine z_ifne (pc := 389) hC 396 (by decide) dL_areJobs_389 (fun c389 => ?_) (fun c389 => ?_)
    · refine z_al (pc := 396) hC 7 rfl dL_areJobs_396 ?_
      refine z_iconst (pc := 398) (v := 2) hC dL_areJobs_398 (by decide) ?_
      refine z_iald (pc := 399) hC 4 rfl dL_areJobs_399 2 rfl (by omega) (by decide) ?_
      refine z_al (pc := 400) hC 7 rfl dL_areJobs_400 ?_
      refine z_iconst (pc := 402) (v := 4) hC dL_areJobs_402 (by decide) ?_
      refine z_iald (pc := 403) hC 4 rfl dL_areJobs_403 4 rfl (by omega) (by decide) ?_
      refine z_isub (pc := 404) (v := (R 14 2) - (R 14 4)) hC rfl dL_areJobs_404 ?_
      refine z_i2d (pc := 405) hC dL_areJobs_405 ?_
      refine z_al (pc := 406) hC 7 rfl dL_areJobs_406 ?_
      refine z_iconst (pc := 408) (v := 2) hC dL_areJobs_408 (by decide) ?_
      refine z_iald (pc := 409) hC 4 rfl dL_areJobs_409 2 rfl (by omega) (by decide) ?_
      refine z_i2d (pc := 410) hC dL_areJobs_410 ?_
      refine z_ddiv (pc := 411) hC (suc_n64 c389) dL_areJobs_411 ?_
      refine z_dcmp (pc := 412) hC dL_areJobs_412 ?_
      refine z_ifne (pc := 413) hC 420 (by decide) dL_areJobs_413 (fun c413 => absurd (cmp_suc (by rw [sucD, if_neg c389])) c413) (fun c413 => ?_)
      refine z_iconst (pc := 416) (v := 1) hC dL_areJobs_416 (by decide) ?_
      refine z_goto (pc := 417) hC 421 (by decide) dL_areJobs_417 ?_
      refine z_drop (ws' := lgW g.2 v R ++ xW g.2 x u c a h e Q P T R (nI s) (nI p) K) (drop_q _ _ _) ?_
      exact hE _ _ _ () _ _ _ dL_areJobs_421 rfl rfl rfl (Nat.le_refl _) (Nat.le_refl _)
    · refine z_dconst1 (pc := 392) hC dL_areJobs_392 ?_
      refine z_goto (pc := 393) hC 412 (by decide) dL_areJobs_393 ?_
      refine z_dcmp (pc := 412) hC dL_areJobs_412 ?_
      refine z_ifne (pc := 413) hC 420 (by decide) dL_areJobs_413 (fun c413 => absurd (cmp_suc (by rw [sucD, if_pos c389])) c413) (fun c413 => ?_)
      refine z_iconst (pc := 416) (v := 1) hC dL_areJobs_416 (by decide) ?_
      refine z_goto (pc := 417) hC 421 (by decide) dL_areJobs_417 ?_
      refine z_drop (ws' := lgW g.2 v R ++ xW g.2 x u c a h e Q P T R (nI s) (nI p) K) (drop_q _ _ _) ?_
      exact hE _ _ _ () _ _ _ dL_areJobs_421 rfl rfl rfl (Nat.le_refl _) (Nat.le_refl _)
  have cl : ∀ q : Nat, ∀ k w : Nat, w + k = 8 → Z g C 1 4 (lgW g.2 v R ++ ([(q, .inl (g.2 0, 4, .inl (cw R (nn R))))] ++ xW g.2 x u c a h e Q P T R (nI s) (nI p) K)) [(9, .int (nI w)), (7, .int 1), (6, .ref q), (0, .ref x), (1, .ref (v 0)), (2, .ref (v 1)), (3, .ref (v 2)), (4, .ref (v 3)), (5, .ref (v 4))] 298 [] := by
    intro q k
    induction k with
    | zero =>
      intro w hw2
      refine z_il (pc := 298) hC 0 rfl dL_areJobs_298 ?_
      refine z_bipush (pc := 300) (v := nI 8) hC dL_areJobs_300 (by decide) ?_
      refine z_icge (pc := 302) hC 337 (by decide) dL_areJobs_302 (fun c302 => ?_) (fun c302 => absurd (nI_le (by omega) (by omega)) c302)
      refine z_lv (lv' := [(7, .int 1), (6, .ref q), (0, .ref x), (1, .ref (v 0)), (2, .ref (v 1)), (3, .ref (v 2)), (4, .ref (v 3)), (5, .ref (v 4))]) [1, 2, 3, 4, 5, 6, 7, 8] rfl ?_
      exact fin2 q
    | succ k ih =>
      intro w hw2
      have hw8 : w < 8 := by omega
      refine z_il (pc := 298) hC 0 rfl dL_areJobs_298 ?_
      refine z_bipush (pc := 300) (v := nI 8) hC dL_areJobs_300 (by decide) ?_
      refine z_icge (pc := 302) hC 337 (by decide) dL_areJobs_302 (fun c302 => absurd c302 (nI_ge (by omega) (by omega))) (fun c302 => ?_)
      refine z_il (pc := 305) hC 1 rfl dL_areJobs_305 ?_
      refine z_ifeq (pc := 307) hC 328 (by decide) dL_areJobs_307 (fun c307 => absurd c307 (by decide)) (fun c307 => ?_)
      refine z_aln (pc := 310) hC 3 rfl dL_areJobs_310 ?_
      refine z_il (pc := 311) hC 0 rfl dL_areJobs_311 ?_
      refine z_g (pc := 313) (rest := []) hC vX5_count lL_71 dL_areJobs_313 (g_count hG hX (cCnt_0 (q := w) (by omega))) (fun zw => lgW g.2 v R ++ ([(q, .inl (g.2 0, 4, .inl (cw R (nn R))))] ++ zw)) (ctx_rr _ _) rfl 0 5 rfl rfl rfl rfl rfl (by decide) (Nat.le_of_ble_eq_true rfl) ⟨Nat.le_of_ble_eq_true rfl, Nat.le_of_ble_eq_true rfl⟩ ?_
      refine z_is_ (y := R 14 w) (vCnt_at hw8) ?_
      refine z_al (pc := 316) hC 8 rfl dL_areJobs_316 ?_
      refine z_il (pc := 318) hC 0 rfl dL_areJobs_318 ?_
      refine z_iald (pc := 320) hC 4 rfl dL_areJobs_320 w rfl (by omega) (by decide) ?_
      refine z_icne (pc := 321) hC 328 (by decide) dL_areJobs_321 (fun c321 => absurd rfl c321) (fun c321 => ?_)
      refine z_iconst (pc := 324) (v := 1) hC dL_areJobs_324 (by decide) ?_
      refine z_goto (pc := 325) hC 329 (by decide) dL_areJobs_325 ?_
      refine z_is (pc := 329) (lv' := [(7, .int 1), (9, .int (nI w)), (6, .ref q), (0, .ref x), (1, .ref (v 0)), (2, .ref (v 1)), (3, .ref (v 2)), (4, .ref (v 3)), (5, .ref (v 4))]) hC hm (by decide) rfl dL_areJobs_329 ?_
      refine z_iinc (pc := 331) (v := nI (w + 1)) (j := 1) (lv' := [(9, .int (nI (w + 1))), (7, .int 1), (6, .ref q), (0, .ref x), (1, .ref (v 0)), (2, .ref (v 1)), (3, .ref (v 2)), (4, .ref (v 3)), (5, .ref (v 4))]) hC hm (by decide) rfl (up_step _) rfl dL_areJobs_331 ?_
      refine z_goto (pc := 334) hC 298 (by decide) dL_areJobs_334 ?_
      refine z_lv (lv' := [(9, .int (nI (w + 1))), (7, .int 1), (6, .ref q), (0, .ref x), (1, .ref (v 0)), (2, .ref (v 1)), (3, .ref (v 2)), (4, .ref (v 3)), (5, .ref (v 4))]) [0, 1, 2, 3, 4, 5, 6, 7, 8] rfl ?_
      exact ih (w + 1) (by omega)
  have fin : ∀ q : Nat, Z g C 1 4 (lgW g.2 v R ++ ([(q, .inl (g.2 0, 4, .inl (cw R (nn R))))] ++ xW g.2 x u c a h e Q P T R (nI s) (nI p) K)) [(7, .int 1), (6, .ref q), (0, .ref x), (1, .ref (v 0)), (2, .ref (v 1)), (3, .ref (v 2)), (4, .ref (v 3)), (5, .ref (v 4))] 230 [] := by
    intro q
    refine z_aln (pc := 230) hC 3 rfl dL_areJobs_230 ?_
    refine z_aln (pc := 231) hC 4 rfl dL_areJobs_231 ?_
    refine z_aln (pc := 232) hC 5 rfl dL_areJobs_232 ?_
    refine z_al (pc := 233) hC 6 rfl dL_areJobs_233 ?_
    refine z_al (pc := 235) hC 7 rfl dL_areJobs_235 ?_
    refine z_sg (pc := 237) (rest := []) hC sL_next lL_26 dL_areJobs_237 (l_next (v := v) hG.1 hK) (fun zw => zw ++ ([(q, .inl (g.2 0, 4, .inl (cw R (nn R))))] ++ xW g.2 x u c a h e Q P T R (nI s) (nI p) K)) (ctx_l _) rfl rfl rfl (by decide) (Nat.le_of_ble_eq_true rfl) ⟨Nat.le_of_ble_eq_true rfl, Nat.le_of_ble_eq_true rfl⟩ ?_
    refine z_is (pc := 240) (lv' := [(8, .int (nxt R (nn R))), (7, .int 1), (6, .ref q), (0, .ref x), (1, .ref (v 0)), (2, .ref (v 1)), (3, .ref (v 2)), (4, .ref (v 3)), (5, .ref (v 4))]) hC hm (by decide) rfl dL_areJobs_240 ?_
    refine z_il (pc := 242) hC 1 rfl dL_areJobs_242 ?_
    refine z_ifeq (pc := 244) hC 292 (by decide) dL_areJobs_244 (fun c244 => absurd c244 (by decide)) (fun c244 => ?_)
    refine z_aln (pc := 247) hC 3 rfl dL_areJobs_247 ?_
    refine z_g (pc := 248) (rest := []) hC vX5_nextJob lL_65 dL_areJobs_248 (k_nextJob hG hX) (fun zw => lgW g.2 v R ++ ([(q, .inl (g.2 0, 4, .inl (cw R (nn R))))] ++ zw)) (ctx_rr _ _) rfl 0 5 rfl rfl rfl rfl rfl (by decide) (Nat.le_of_ble_eq_true rfl) ⟨Nat.le_of_ble_eq_true rfl, Nat.le_of_ble_eq_true rfl⟩ ?_
    refine z_il (pc := 251) hC 0 rfl dL_areJobs_251 ?_
    refine z_icne (pc := 253) hC 292 (by decide) dL_areJobs_253 (fun c253 => absurd rfl c253) (fun c253 => ?_)
    refine z_aln (pc := 256) hC 3 rfl dL_areJobs_256 ?_
    refine z_g (pc := 257) (rest := []) hC vX5_nextReel lL_68 dL_areJobs_257 (k_nextReel hG hX) (fun zw => lgW g.2 v R ++ ([(q, .inl (g.2 0, 4, .inl (cw R (nn R))))] ++ zw)) (ctx_rr _ _) rfl 0 5 rfl rfl rfl rfl rfl (by decide) (Nat.le_of_ble_eq_true rfl) ⟨Nat.le_of_ble_eq_true rfl, Nat.le_of_ble_eq_true rfl⟩ ?_
    refine z_il (pc := 260) hC 0 rfl dL_areJobs_260 ?_
    refine z_ifge (pc := 262) hC 269 (by decide) dL_areJobs_262 (fun c262 => ?_) (fun c262 => ?_)
    · obtain ⟨z, hz, he, hz10, hzf⟩ := nxt_ok (fun e : nxt R (nn R) = -1 => by rw [e] at c262; exact absurd c262 (by decide))
      refine z_aln (pc := 269) hC 4 rfl dL_areJobs_269 ?_
      refine z_aln (pc := 270) hC 5 rfl dL_areJobs_270 ?_
      refine z_aln (pc := 271) hC 6 rfl dL_areJobs_271 ?_
      refine z_al (pc := 272) hC 8 rfl dL_areJobs_272 ?_
      refine z_il (pc := 274) hC 0 rfl dL_areJobs_274 ?_
      refine z_is_ (y := nI z) he ?_
      refine z_al (pc := 276) hC 8 rfl dL_areJobs_276 ?_
      refine z_iconst (pc := 278) (v := 2) hC dL_areJobs_278 (by decide) ?_
      refine z_iald (pc := 279) hC 4 rfl dL_areJobs_279 2 rfl (by omega) (by decide) ?_
      refine z_iconst (pc := 280) (v := 1) hC dL_areJobs_280 (by decide) ?_
      refine z_iadd (pc := 281) (v := (R 14 2) + 1) hC rfl dL_areJobs_281 ?_
      refine z_sg (pc := 282) (rest := [.int (vNextR R)]) hC sL_takes lL_19 dL_areJobs_282 (l_takes (v := v) (q := R 14 2 + 1) hK (show z < 12 by omega) hzf) (fun zw => zw ++ ([(q, .inl (g.2 0, 4, .inl (cw R (nn R))))] ++ xW g.2 x u c a h e Q P T R (nI s) (nI p) K)) (ctx_l _) rfl rfl rfl (by decide) (Nat.le_of_ble_eq_true rfl) ⟨Nat.le_of_ble_eq_true rfl, Nat.le_of_ble_eq_true rfl⟩ ?_
      refine z_icne (pc := 285) hC 292 (by decide) dL_areJobs_285 (fun c285 => absurd (vNext_q he (by omega)) c285) (fun c285 => ?_)
      refine z_iconst (pc := 288) (v := 1) hC dL_areJobs_288 (by decide) ?_
      refine z_goto (pc := 289) hC 293 (by decide) dL_areJobs_289 ?_
      refine z_is (pc := 293) (lv' := [(7, .int 1), (8, .int (nxt R (nn R))), (6, .ref q), (0, .ref x), (1, .ref (v 0)), (2, .ref (v 1)), (3, .ref (v 2)), (4, .ref (v 3)), (5, .ref (v 4))]) hC hm (by decide) rfl dL_areJobs_293 ?_
      refine z_iconst (pc := 295) (v := nI 0) hC dL_areJobs_295 (by decide) ?_
      refine z_is (pc := 296) (lv' := [(9, .int (nI 0)), (7, .int 1), (8, .int (nxt R (nn R))), (6, .ref q), (0, .ref x), (1, .ref (v 0)), (2, .ref (v 1)), (3, .ref (v 2)), (4, .ref (v 3)), (5, .ref (v 4))]) hC hm (by decide) rfl dL_areJobs_296 ?_
      refine z_lv (lv' := [(9, .int (nI 0)), (7, .int 1), (6, .ref q), (0, .ref x), (1, .ref (v 0)), (2, .ref (v 1)), (3, .ref (v 2)), (4, .ref (v 3)), (5, .ref (v 4))]) [0, 1, 3, 4, 5, 6, 7, 8, 9] rfl ?_
      exact cl q 8 0 rfl
    · refine z_iconst (pc := 265) (v := -1) hC dL_areJobs_265 (by decide) ?_
      refine z_goto (pc := 266) hC 285 (by decide) dL_areJobs_266 ?_
      refine z_icne (pc := 285) hC 292 (by decide) dL_areJobs_285 (fun c285 => absurd (vNext_no (nxt_lt hn12 (Int32.not_le.mp c262))) c285) (fun c285 => ?_)
      refine z_iconst (pc := 288) (v := 1) hC dL_areJobs_288 (by decide) ?_
      refine z_goto (pc := 289) hC 293 (by decide) dL_areJobs_289 ?_
      refine z_is (pc := 293) (lv' := [(7, .int 1), (8, .int (nxt R (nn R))), (6, .ref q), (0, .ref x), (1, .ref (v 0)), (2, .ref (v 1)), (3, .ref (v 2)), (4, .ref (v 3)), (5, .ref (v 4))]) hC hm (by decide) rfl dL_areJobs_293 ?_
      refine z_iconst (pc := 295) (v := nI 0) hC dL_areJobs_295 (by decide) ?_
      refine z_is (pc := 296) (lv' := [(9, .int (nI 0)), (7, .int 1), (8, .int (nxt R (nn R))), (6, .ref q), (0, .ref x), (1, .ref (v 0)), (2, .ref (v 1)), (3, .ref (v 2)), (4, .ref (v 3)), (5, .ref (v 4))]) hC hm (by decide) rfl dL_areJobs_296 ?_
      refine z_lv (lv' := [(9, .int (nI 0)), (7, .int 1), (6, .ref q), (0, .ref x), (1, .ref (v 0)), (2, .ref (v 1)), (3, .ref (v 2)), (4, .ref (v 3)), (5, .ref (v 4))]) [0, 1, 3, 4, 5, 6, 7, 8, 9] rfl ?_
      exact cl q 8 0 rfl
  have loop : ∀ q : Nat, ∀ k m : Nat, m + k = nn R → Z g C 1 4 (lgW g.2 v R ++ ([(q, .inl (g.2 0, 4, .inl (cw R m)))] ++ xW g.2 x u c a h e Q P T R (nI s) (nI p) K)) [(7, .int 1), (8, .int (nI m)), (6, .ref q), (0, .ref x), (1, .ref (v 0)), (2, .ref (v 1)), (3, .ref (v 2)), (4, .ref (v 3)), (5, .ref (v 4))] 27 [] := by
    intro q k
    induction k with
    | zero =>
      intro m hm2
      have em : m = nn R := by omega
      subst em
      refine z_il (pc := 27) hC 1 rfl dL_areJobs_27 ?_
      refine z_al (pc := 29) hC 8 rfl dL_areJobs_29 ?_
      refine z_bipush (pc := 31) (v := 10) hC dL_areJobs_31 (by decide) ?_
      refine z_iald (pc := 33) hC 4 rfl dL_areJobs_33 10 rfl (by omega) (by decide) ?_
      refine z_is_ (y := nI (nn R)) hG.num ?_
      refine z_icge (pc := 34) hC 230 (by decide) dL_areJobs_34 (fun c34 => ?_) (fun c34 => absurd (nI_le (by omega) (by omega)) c34)
      refine z_lv (lv' := [(7, .int 1), (6, .ref q), (0, .ref x), (1, .ref (v 0)), (2, .ref (v 1)), (3, .ref (v 2)), (4, .ref (v 3)), (5, .ref (v 4))]) [0, 2, 3, 4, 5, 6, 7, 8] rfl ?_
      exact fin q
    | succ k ih =>
      intro m hm2
      have hmn : m < nn R := by omega
      have hm12 : m < 12 := by omega
      have vl : ∀ k r : Nat, r + k = 12 → Z g C 1 4 (lgW g.2 v R ++ ([(q, .inl (g.2 0, 4, .inl (cw R m)))] ++ xW g.2 x u c a h e Q P T R (nI s) (nI p) K)) [(9, .int (nI r)), (7, .int 1), (8, .int (nI m)), (6, .ref q), (0, .ref x), (1, .ref (v 0)), (2, .ref (v 1)), (3, .ref (v 2)), (4, .ref (v 3)), (5, .ref (v 4))] 162 [] := by
        intro k2
        induction k2 with
        | zero =>
          intro r hr2
          obtain ⟨j0, hj0, hst⟩ := st_nI (hG.1.2.2.1 m hmn).2.2.2.2
          refine z_il (pc := 162) hC 0 rfl dL_areJobs_162 ?_
          refine z_bipush (pc := 164) (v := nI 12) hC dL_areJobs_164 (by decide) ?_
          refine z_icge (pc := 166) hC 210 (by decide) dL_areJobs_166 (fun c166 => ?_) (fun c166 => absurd (nI_le (by omega) (by omega)) c166)
          refine z_al (pc := 210) hC 3 rfl dL_areJobs_210 ?_
          refine z_al (pc := 212) hC 8 rfl dL_areJobs_212 ?_
          refine z_iconst (pc := 214) (v := nI 4) hC dL_areJobs_214 (by decide) ?_
          refine z_il (pc := 215) hC 2 rfl dL_areJobs_215 ?_
          refine z_imul (pc := 217) (v := nI (4 * m)) hC (pk_mul _ _) dL_areJobs_217 ?_
          refine z_iald (pc := 218) hC 3 rfl dL_areJobs_218 (4 * m + 0) rfl (by omega) (by decide) ?_
          refine z_is_ (y := R 10 m) (fK_at (by decide) _) ?_
          refine z_is_ (y := nI j0) hst ?_
          refine z_dup2 (pc := 219) hC rfl rfl dL_areJobs_219 ?_
          refine z_iald (pc := 220) hC 5 rfl dL_areJobs_220 j0 rfl (by omega) (by decide) ?_
          refine z_iconst (pc := 221) (v := 1) hC dL_areJobs_221 (by decide) ?_
          refine z_iadd (pc := 222) (v := (cw R m j0) + 1) hC rfl dL_areJobs_222 ?_
          refine z_iast (pc := 223) (ws' := lgW g.2 v R ++ ([(q, .inl (g.2 0, 4, .inl (upd (cw R m) j0 ((cw R m j0) + 1))))] ++ xW g.2 x u c a h e Q P T R (nI s) (nI p) K)) hC 5 rfl dL_areJobs_223 j0 rfl (by omega) (by decide) (set_app (q := 0) rfl rfl) ?_
          refine z_cell (ws' := lgW g.2 v R ++ ([(q, .inl (g.2 0, 4, .inl (cw R (m + 1))))] ++ xW g.2 x u c a h e Q P T R (nI s) (nI p) K)) 5 rfl (cw_up hst hj0) (set_app (q := 0) rfl rfl) ?_
          refine z_iinc (pc := 224) (v := nI (m + 1)) (j := 2) (lv' := [(8, .int (nI (m + 1))), (9, .int (nI r)), (7, .int 1), (6, .ref q), (0, .ref x), (1, .ref (v 0)), (2, .ref (v 1)), (3, .ref (v 2)), (4, .ref (v 3)), (5, .ref (v 4))]) hC hm (by decide) rfl (up_step _) rfl dL_areJobs_224 ?_
          refine z_goto (pc := 227) hC 27 (by decide) dL_areJobs_227 ?_
          refine z_lv (lv' := [(7, .int 1), (8, .int (nI (m + 1))), (6, .ref q), (0, .ref x), (1, .ref (v 0)), (2, .ref (v 1)), (3, .ref (v 2)), (4, .ref (v 3)), (5, .ref (v 4))]) [2, 0, 3, 4, 5, 6, 7, 8, 9] rfl ?_
          exact ih (m + 1) (by omega)
        | succ k2 ih2 =>
          intro r hr2
          have hr12 : r < 12 := by omega
          refine z_il (pc := 162) hC 0 rfl dL_areJobs_162 ?_
          refine z_bipush (pc := 164) (v := nI 12) hC dL_areJobs_164 (by decide) ?_
          refine z_icge (pc := 166) hC 210 (by decide) dL_areJobs_166 (fun c166 => absurd c166 (nI_ge (by omega) (by omega))) (fun c166 => ?_)
          refine z_il (pc := 169) hC 1 rfl dL_areJobs_169 ?_
          refine z_ifeq (pc := 171) hC 201 (by decide) dL_areJobs_171 (fun c171 => absurd c171 (by decide)) (fun c171 => ?_)
          refine z_aln (pc := 174) hC 4 rfl dL_areJobs_174 ?_
          refine z_il (pc := 175) hC 2 rfl dL_areJobs_175 ?_
          refine z_il (pc := 177) hC 0 rfl dL_areJobs_177 ?_
          refine z_g (pc := 179) (rest := []) hC vX5_verdict lL_62 dL_areJobs_179 (g_verdict hG hX (cVer_0 hG hmn hr12)) (fun zw => lgW g.2 v R ++ ([(q, .inl (g.2 0, 4, .inl (cw R m)))] ++ zw)) (ctx_rr _ _) rfl 0 5 rfl rfl rfl rfl rfl (by decide) (Nat.le_of_ble_eq_true rfl) ⟨Nat.le_of_ble_eq_true rfl, Nat.le_of_ble_eq_true rfl⟩ ?_
          refine z_is_ (y := chk R m r) (by rw [ix_nI (by omega), ix_nI (by omega)]) ?_
          refine z_aln (pc := 182) hC 5 rfl dL_areJobs_182 ?_
          refine z_aln (pc := 183) hC 6 rfl dL_areJobs_183 ?_
          refine z_aln (pc := 184) hC 7 rfl dL_areJobs_184 ?_
          refine z_al (pc := 185) hC 9 rfl dL_areJobs_185 ?_
          refine z_il (pc := 187) hC 2 rfl dL_areJobs_187 ?_
          refine z_il (pc := 189) hC 0 rfl dL_areJobs_189 ?_
          refine z_sg (pc := 191) (rest := [.int (chk R m r)]) hC sL_checks lL_23 dL_areJobs_191 (l_checks (v := v) hm12 hr12 (hK.1 m hmn).1 (hG.1.2.2.2.1 r hr12).1) (fun zw => zw ++ ([(q, .inl (g.2 0, 4, .inl (cw R m)))] ++ xW g.2 x u c a h e Q P T R (nI s) (nI p) K)) (ctx_l _) rfl rfl rfl (by decide) (Nat.le_of_ble_eq_true rfl) ⟨Nat.le_of_ble_eq_true rfl, Nat.le_of_ble_eq_true rfl⟩ ?_
          refine z_icne (pc := 194) hC 201 (by decide) dL_areJobs_194 (fun c194 => absurd rfl c194) (fun c194 => ?_)
          refine z_iconst (pc := 197) (v := 1) hC dL_areJobs_197 (by decide) ?_
          refine z_goto (pc := 198) hC 202 (by decide) dL_areJobs_198 ?_
          refine z_is (pc := 202) (lv' := [(7, .int 1), (9, .int (nI r)), (8, .int (nI m)), (6, .ref q), (0, .ref x), (1, .ref (v 0)), (2, .ref (v 1)), (3, .ref (v 2)), (4, .ref (v 3)), (5, .ref (v 4))]) hC hm (by decide) rfl dL_areJobs_202 ?_
          refine z_iinc (pc := 204) (v := nI (r + 1)) (j := 1) (lv' := [(9, .int (nI (r + 1))), (7, .int 1), (8, .int (nI m)), (6, .ref q), (0, .ref x), (1, .ref (v 0)), (2, .ref (v 1)), (3, .ref (v 2)), (4, .ref (v 3)), (5, .ref (v 4))]) hC hm (by decide) rfl (up_step _) rfl dL_areJobs_204 ?_
          refine z_goto (pc := 207) hC 162 (by decide) dL_areJobs_207 ?_
          refine z_lv (lv' := [(9, .int (nI (r + 1))), (7, .int 1), (8, .int (nI m)), (6, .ref q), (0, .ref x), (1, .ref (v 0)), (2, .ref (v 1)), (3, .ref (v 2)), (4, .ref (v 3)), (5, .ref (v 4))]) [0, 1, 2, 3, 4, 5, 6, 7, 8, 9] rfl ?_
          exact ih2 (r + 1) (by omega)
      have tail : Z g C 1 4 (lgW g.2 v R ++ ([(q, .inl (g.2 0, 4, .inl (cw R m)))] ++ xW g.2 x u c a h e Q P T R (nI s) (nI p) K)) [(7, .int 1), (8, .int (nI m)), (6, .ref q), (0, .ref x), (1, .ref (v 0)), (2, .ref (v 1)), (3, .ref (v 2)), (4, .ref (v 3)), (5, .ref (v 4))] 159 [] := by
        refine z_iconst (pc := 159) (v := nI 0) hC dL_areJobs_159 (by decide) ?_
        refine z_is (pc := 160) (lv' := [(9, .int (nI 0)), (7, .int 1), (8, .int (nI m)), (6, .ref q), (0, .ref x), (1, .ref (v 0)), (2, .ref (v 1)), (3, .ref (v 2)), (4, .ref (v 3)), (5, .ref (v 4))]) hC hm (by decide) rfl dL_areJobs_160 ?_
        refine z_lv (lv' := [(9, .int (nI 0)), (7, .int 1), (8, .int (nI m)), (6, .ref q), (0, .ref x), (1, .ref (v 0)), (2, .ref (v 1)), (3, .ref (v 2)), (4, .ref (v 3)), (5, .ref (v 4))]) [0, 1, 2, 3, 4, 5, 6, 7, 8, 9] rfl ?_
        exact vl 12 0 rfl
      refine z_il (pc := 27) hC 1 rfl dL_areJobs_27 ?_
      refine z_al (pc := 29) hC 8 rfl dL_areJobs_29 ?_
      refine z_bipush (pc := 31) (v := 10) hC dL_areJobs_31 (by decide) ?_
      refine z_iald (pc := 33) hC 4 rfl dL_areJobs_33 10 rfl (by omega) (by decide) ?_
      refine z_is_ (y := nI (nn R)) hG.num ?_
      refine z_icge (pc := 34) hC 230 (by decide) dL_areJobs_34 (fun c34 => absurd c34 (nI_ge (by omega) (by omega))) (fun c34 => ?_)
      refine z_il (pc := 37) hC 0 rfl dL_areJobs_37 ?_
      refine z_ifeq (pc := 39) hC 230 (by decide) dL_areJobs_39 (fun c39 => absurd c39 (by decide)) (fun c39 => ?_)
      refine z_iconst (pc := 42) (v := nI 0) hC dL_areJobs_42 (by decide) ?_
      refine z_is (pc := 43) (lv' := [(9, .int (nI 0)), (7, .int 1), (8, .int (nI m)), (6, .ref q), (0, .ref x), (1, .ref (v 0)), (2, .ref (v 1)), (3, .ref (v 2)), (4, .ref (v 3)), (5, .ref (v 4))]) hC hm (by decide) rfl dL_areJobs_43 ?_
      refine z_il (pc := 45) hC 0 rfl dL_areJobs_45 ?_
      refine z_iconst (pc := 47) (v := 4) hC dL_areJobs_47 (by decide) ?_
      refine z_icge (pc := 48) hC 112 (by decide) dL_areJobs_48 (fun c48 => absurd c48 (by decide)) (fun c48 => ?_)
      refine z_il (pc := 51) hC 1 rfl dL_areJobs_51 ?_
      refine z_ifeq (pc := 53) hC 103 (by decide) dL_areJobs_53 (fun c53 => absurd c53 (by decide)) (fun c53 => ?_)
      refine z_aln (pc := 56) hC 4 rfl dL_areJobs_56 ?_
      refine z_il (pc := 57) hC 2 rfl dL_areJobs_57 ?_
      refine z_il (pc := 59) hC 0 rfl dL_areJobs_59 ?_
      refine z_g (pc := 61) (rest := []) hC vX5_job lL_55 dL_areJobs_61 (g_job hG hX (cJob_0 hG hmn (q := 0) (by omega))) (fun zw => lgW g.2 v R ++ ([(q, .inl (g.2 0, 4, .inl (cw R m)))] ++ zw)) (ctx_rr _ _) rfl 0 5 rfl rfl rfl rfl rfl (by decide) (Nat.le_of_ble_eq_true rfl) ⟨Nat.le_of_ble_eq_true rfl, Nat.le_of_ble_eq_true rfl⟩ ?_
      refine z_is_ (y := R 6 m) (vJob_at hm12 (by omega)) ?_
      refine z_aln (pc := 64) hC 7 rfl dL_areJobs_64 ?_
      refine z_iconst (pc := 65) (v := nI 4) hC dL_areJobs_65 (by decide) ?_
      refine z_il (pc := 66) hC 2 rfl dL_areJobs_66 ?_
      refine z_imul (pc := 68) (v := nI (4 * m)) hC (pk_mul _ _) dL_areJobs_68 ?_
      refine z_il (pc := 69) hC 0 rfl dL_areJobs_69 ?_
      refine z_iadd (pc := 71) (v := nI (4 * m + 0)) hC (nI_add _ _) dL_areJobs_71 ?_
      refine z_iald (pc := 72) hC 2 rfl dL_areJobs_72 (4 * m + 0) rfl (by omega) (by decide) ?_
      refine z_is_ (y := R 6 m) (fJ_at (by decide) _) ?_
      refine z_icne (pc := 73) hC 103 (by decide) dL_areJobs_73 (fun c73 => absurd rfl c73) (fun c73 => ?_)
      refine z_aln (pc := 76) hC 4 rfl dL_areJobs_76 ?_
      refine z_il (pc := 77) hC 2 rfl dL_areJobs_77 ?_
      refine z_il (pc := 79) hC 0 rfl dL_areJobs_79 ?_
      refine z_iconst (pc := 81) (v := nI 4) hC dL_areJobs_81 (by decide) ?_
      refine z_iadd (pc := 82) (v := nI 4) hC (by decide) dL_areJobs_82 ?_
      refine z_g (pc := 83) (rest := []) hC vX5_job lL_55 dL_areJobs_83 (g_job hG hX (cJob_0 hG hmn (q := 4) (by omega))) (fun zw => lgW g.2 v R ++ ([(q, .inl (g.2 0, 4, .inl (cw R m)))] ++ zw)) (ctx_rr _ _) rfl 0 5 rfl rfl rfl rfl rfl (by decide) (Nat.le_of_ble_eq_true rfl) ⟨Nat.le_of_ble_eq_true rfl, Nat.le_of_ble_eq_true rfl⟩ ?_
      refine z_is_ (y := R 10 m) (vJob_at hm12 (by omega)) ?_
      refine z_al (pc := 86) hC 8 rfl dL_areJobs_86 ?_
      refine z_iconst (pc := 88) (v := nI 4) hC dL_areJobs_88 (by decide) ?_
      refine z_il (pc := 89) hC 2 rfl dL_areJobs_89 ?_
      refine z_imul (pc := 91) (v := nI (4 * m)) hC (pk_mul _ _) dL_areJobs_91 ?_
      refine z_il (pc := 92) hC 0 rfl dL_areJobs_92 ?_
      refine z_iadd (pc := 94) (v := nI (4 * m + 0)) hC (nI_add _ _) dL_areJobs_94 ?_
      refine z_iald (pc := 95) hC 3 rfl dL_areJobs_95 (4 * m + 0) rfl (by omega) (by decide) ?_
      refine z_is_ (y := R 10 m) (fK_at (by decide) _) ?_
      refine z_icne (pc := 96) hC 103 (by decide) dL_areJobs_96 (fun c96 => absurd rfl c96) (fun c96 => ?_)
      refine z_iconst (pc := 99) (v := 1) hC dL_areJobs_99 (by decide) ?_
      refine z_goto (pc := 100) hC 104 (by decide) dL_areJobs_100 ?_
      refine z_is (pc := 104) (lv' := [(7, .int 1), (9, .int (nI 0)), (8, .int (nI m)), (6, .ref q), (0, .ref x), (1, .ref (v 0)), (2, .ref (v 1)), (3, .ref (v 2)), (4, .ref (v 3)), (5, .ref (v 4))]) hC hm (by decide) rfl dL_areJobs_104 ?_
      refine z_iinc (pc := 106) (v := nI 1) (j := 1) (lv' := [(9, .int (nI 1)), (7, .int 1), (8, .int (nI m)), (6, .ref q), (0, .ref x), (1, .ref (v 0)), (2, .ref (v 1)), (3, .ref (v 2)), (4, .ref (v 3)), (5, .ref (v 4))]) hC hm (by decide) rfl (by decide) rfl dL_areJobs_106 ?_
      refine z_goto (pc := 109) hC 45 (by decide) dL_areJobs_109 ?_
      refine z_il (pc := 45) hC 0 rfl dL_areJobs_45 ?_
      refine z_iconst (pc := 47) (v := 4) hC dL_areJobs_47 (by decide) ?_
      refine z_icge (pc := 48) hC 112 (by decide) dL_areJobs_48 (fun c48 => absurd c48 (by decide)) (fun c48 => ?_)
      refine z_il (pc := 51) hC 1 rfl dL_areJobs_51 ?_
      refine z_ifeq (pc := 53) hC 103 (by decide) dL_areJobs_53 (fun c53 => absurd c53 (by decide)) (fun c53 => ?_)
      refine z_aln (pc := 56) hC 4 rfl dL_areJobs_56 ?_
      refine z_il (pc := 57) hC 2 rfl dL_areJobs_57 ?_
      refine z_il (pc := 59) hC 0 rfl dL_areJobs_59 ?_
      refine z_g (pc := 61) (rest := []) hC vX5_job lL_55 dL_areJobs_61 (g_job hG hX (cJob_0 hG hmn (q := 1) (by omega))) (fun zw => lgW g.2 v R ++ ([(q, .inl (g.2 0, 4, .inl (cw R m)))] ++ zw)) (ctx_rr _ _) rfl 0 5 rfl rfl rfl rfl rfl (by decide) (Nat.le_of_ble_eq_true rfl) ⟨Nat.le_of_ble_eq_true rfl, Nat.le_of_ble_eq_true rfl⟩ ?_
      refine z_is_ (y := R 7 m) (vJob_at hm12 (by omega)) ?_
      refine z_aln (pc := 64) hC 7 rfl dL_areJobs_64 ?_
      refine z_iconst (pc := 65) (v := nI 4) hC dL_areJobs_65 (by decide) ?_
      refine z_il (pc := 66) hC 2 rfl dL_areJobs_66 ?_
      refine z_imul (pc := 68) (v := nI (4 * m)) hC (pk_mul _ _) dL_areJobs_68 ?_
      refine z_il (pc := 69) hC 0 rfl dL_areJobs_69 ?_
      refine z_iadd (pc := 71) (v := nI (4 * m + 1)) hC (nI_add _ _) dL_areJobs_71 ?_
      refine z_iald (pc := 72) hC 2 rfl dL_areJobs_72 (4 * m + 1) rfl (by omega) (by decide) ?_
      refine z_is_ (y := R 7 m) (fJ_at (by decide) _) ?_
      refine z_icne (pc := 73) hC 103 (by decide) dL_areJobs_73 (fun c73 => absurd rfl c73) (fun c73 => ?_)
      refine z_aln (pc := 76) hC 4 rfl dL_areJobs_76 ?_
      refine z_il (pc := 77) hC 2 rfl dL_areJobs_77 ?_
      refine z_il (pc := 79) hC 0 rfl dL_areJobs_79 ?_
      refine z_iconst (pc := 81) (v := nI 4) hC dL_areJobs_81 (by decide) ?_
      refine z_iadd (pc := 82) (v := nI 5) hC (by decide) dL_areJobs_82 ?_
      refine z_g (pc := 83) (rest := []) hC vX5_job lL_55 dL_areJobs_83 (g_job hG hX (cJob_0 hG hmn (q := 5) (by omega))) (fun zw => lgW g.2 v R ++ ([(q, .inl (g.2 0, 4, .inl (cw R m)))] ++ zw)) (ctx_rr _ _) rfl 0 5 rfl rfl rfl rfl rfl (by decide) (Nat.le_of_ble_eq_true rfl) ⟨Nat.le_of_ble_eq_true rfl, Nat.le_of_ble_eq_true rfl⟩ ?_
      refine z_is_ (y := R 11 m) (vJob_at hm12 (by omega)) ?_
      refine z_al (pc := 86) hC 8 rfl dL_areJobs_86 ?_
      refine z_iconst (pc := 88) (v := nI 4) hC dL_areJobs_88 (by decide) ?_
      refine z_il (pc := 89) hC 2 rfl dL_areJobs_89 ?_
      refine z_imul (pc := 91) (v := nI (4 * m)) hC (pk_mul _ _) dL_areJobs_91 ?_
      refine z_il (pc := 92) hC 0 rfl dL_areJobs_92 ?_
      refine z_iadd (pc := 94) (v := nI (4 * m + 1)) hC (nI_add _ _) dL_areJobs_94 ?_
      refine z_iald (pc := 95) hC 3 rfl dL_areJobs_95 (4 * m + 1) rfl (by omega) (by decide) ?_
      refine z_is_ (y := R 11 m) (fK_at (by decide) _) ?_
      refine z_icne (pc := 96) hC 103 (by decide) dL_areJobs_96 (fun c96 => absurd rfl c96) (fun c96 => ?_)
      refine z_iconst (pc := 99) (v := 1) hC dL_areJobs_99 (by decide) ?_
      refine z_goto (pc := 100) hC 104 (by decide) dL_areJobs_100 ?_
      refine z_is (pc := 104) (lv' := [(7, .int 1), (9, .int (nI 1)), (8, .int (nI m)), (6, .ref q), (0, .ref x), (1, .ref (v 0)), (2, .ref (v 1)), (3, .ref (v 2)), (4, .ref (v 3)), (5, .ref (v 4))]) hC hm (by decide) rfl dL_areJobs_104 ?_
      refine z_iinc (pc := 106) (v := nI 2) (j := 1) (lv' := [(9, .int (nI 2)), (7, .int 1), (8, .int (nI m)), (6, .ref q), (0, .ref x), (1, .ref (v 0)), (2, .ref (v 1)), (3, .ref (v 2)), (4, .ref (v 3)), (5, .ref (v 4))]) hC hm (by decide) rfl (by decide) rfl dL_areJobs_106 ?_
      refine z_goto (pc := 109) hC 45 (by decide) dL_areJobs_109 ?_
      refine z_il (pc := 45) hC 0 rfl dL_areJobs_45 ?_
      refine z_iconst (pc := 47) (v := 4) hC dL_areJobs_47 (by decide) ?_
      refine z_icge (pc := 48) hC 112 (by decide) dL_areJobs_48 (fun c48 => absurd c48 (by decide)) (fun c48 => ?_)
      refine z_il (pc := 51) hC 1 rfl dL_areJobs_51 ?_
      refine z_ifeq (pc := 53) hC 103 (by decide) dL_areJobs_53 (fun c53 => absurd c53 (by decide)) (fun c53 => ?_)
      refine z_aln (pc := 56) hC 4 rfl dL_areJobs_56 ?_
      refine z_il (pc := 57) hC 2 rfl dL_areJobs_57 ?_
      refine z_il (pc := 59) hC 0 rfl dL_areJobs_59 ?_
      refine z_g (pc := 61) (rest := []) hC vX5_job lL_55 dL_areJobs_61 (g_job hG hX (cJob_0 hG hmn (q := 2) (by omega))) (fun zw => lgW g.2 v R ++ ([(q, .inl (g.2 0, 4, .inl (cw R m)))] ++ zw)) (ctx_rr _ _) rfl 0 5 rfl rfl rfl rfl rfl (by decide) (Nat.le_of_ble_eq_true rfl) ⟨Nat.le_of_ble_eq_true rfl, Nat.le_of_ble_eq_true rfl⟩ ?_
      refine z_is_ (y := R 8 m) (vJob_at hm12 (by omega)) ?_
      refine z_aln (pc := 64) hC 7 rfl dL_areJobs_64 ?_
      refine z_iconst (pc := 65) (v := nI 4) hC dL_areJobs_65 (by decide) ?_
      refine z_il (pc := 66) hC 2 rfl dL_areJobs_66 ?_
      refine z_imul (pc := 68) (v := nI (4 * m)) hC (pk_mul _ _) dL_areJobs_68 ?_
      refine z_il (pc := 69) hC 0 rfl dL_areJobs_69 ?_
      refine z_iadd (pc := 71) (v := nI (4 * m + 2)) hC (nI_add _ _) dL_areJobs_71 ?_
      refine z_iald (pc := 72) hC 2 rfl dL_areJobs_72 (4 * m + 2) rfl (by omega) (by decide) ?_
      refine z_is_ (y := R 8 m) (fJ_at (by decide) _) ?_
      refine z_icne (pc := 73) hC 103 (by decide) dL_areJobs_73 (fun c73 => absurd rfl c73) (fun c73 => ?_)
      refine z_aln (pc := 76) hC 4 rfl dL_areJobs_76 ?_
      refine z_il (pc := 77) hC 2 rfl dL_areJobs_77 ?_
      refine z_il (pc := 79) hC 0 rfl dL_areJobs_79 ?_
      refine z_iconst (pc := 81) (v := nI 4) hC dL_areJobs_81 (by decide) ?_
      refine z_iadd (pc := 82) (v := nI 6) hC (by decide) dL_areJobs_82 ?_
      refine z_g (pc := 83) (rest := []) hC vX5_job lL_55 dL_areJobs_83 (g_job hG hX (cJob_0 hG hmn (q := 6) (by omega))) (fun zw => lgW g.2 v R ++ ([(q, .inl (g.2 0, 4, .inl (cw R m)))] ++ zw)) (ctx_rr _ _) rfl 0 5 rfl rfl rfl rfl rfl (by decide) (Nat.le_of_ble_eq_true rfl) ⟨Nat.le_of_ble_eq_true rfl, Nat.le_of_ble_eq_true rfl⟩ ?_
      refine z_is_ (y := R 12 m) (vJob_at hm12 (by omega)) ?_
      refine z_al (pc := 86) hC 8 rfl dL_areJobs_86 ?_
      refine z_iconst (pc := 88) (v := nI 4) hC dL_areJobs_88 (by decide) ?_
      refine z_il (pc := 89) hC 2 rfl dL_areJobs_89 ?_
      refine z_imul (pc := 91) (v := nI (4 * m)) hC (pk_mul _ _) dL_areJobs_91 ?_
      refine z_il (pc := 92) hC 0 rfl dL_areJobs_92 ?_
      refine z_iadd (pc := 94) (v := nI (4 * m + 2)) hC (nI_add _ _) dL_areJobs_94 ?_
      refine z_iald (pc := 95) hC 3 rfl dL_areJobs_95 (4 * m + 2) rfl (by omega) (by decide) ?_
      refine z_is_ (y := R 12 m) (fK_at (by decide) _) ?_
      refine z_icne (pc := 96) hC 103 (by decide) dL_areJobs_96 (fun c96 => absurd rfl c96) (fun c96 => ?_)
      refine z_iconst (pc := 99) (v := 1) hC dL_areJobs_99 (by decide) ?_
      refine z_goto (pc := 100) hC 104 (by decide) dL_areJobs_100 ?_
      refine z_is (pc := 104) (lv' := [(7, .int 1), (9, .int (nI 2)), (8, .int (nI m)), (6, .ref q), (0, .ref x), (1, .ref (v 0)), (2, .ref (v 1)), (3, .ref (v 2)), (4, .ref (v 3)), (5, .ref (v 4))]) hC hm (by decide) rfl dL_areJobs_104 ?_
      refine z_iinc (pc := 106) (v := nI 3) (j := 1) (lv' := [(9, .int (nI 3)), (7, .int 1), (8, .int (nI m)), (6, .ref q), (0, .ref x), (1, .ref (v 0)), (2, .ref (v 1)), (3, .ref (v 2)), (4, .ref (v 3)), (5, .ref (v 4))]) hC hm (by decide) rfl (by decide) rfl dL_areJobs_106 ?_
      refine z_goto (pc := 109) hC 45 (by decide) dL_areJobs_109 ?_
      refine z_il (pc := 45) hC 0 rfl dL_areJobs_45 ?_
      refine z_iconst (pc := 47) (v := 4) hC dL_areJobs_47 (by decide) ?_
      refine z_icge (pc := 48) hC 112 (by decide) dL_areJobs_48 (fun c48 => absurd c48 (by decide)) (fun c48 => ?_)
      refine z_il (pc := 51) hC 1 rfl dL_areJobs_51 ?_
      refine z_ifeq (pc := 53) hC 103 (by decide) dL_areJobs_53 (fun c53 => absurd c53 (by decide)) (fun c53 => ?_)
      refine z_aln (pc := 56) hC 4 rfl dL_areJobs_56 ?_
      refine z_il (pc := 57) hC 2 rfl dL_areJobs_57 ?_
      refine z_il (pc := 59) hC 0 rfl dL_areJobs_59 ?_
      refine z_g (pc := 61) (rest := []) hC vX5_job lL_55 dL_areJobs_61 (g_job hG hX (cJob_0 hG hmn (q := 3) (by omega))) (fun zw => lgW g.2 v R ++ ([(q, .inl (g.2 0, 4, .inl (cw R m)))] ++ zw)) (ctx_rr _ _) rfl 0 5 rfl rfl rfl rfl rfl (by decide) (Nat.le_of_ble_eq_true rfl) ⟨Nat.le_of_ble_eq_true rfl, Nat.le_of_ble_eq_true rfl⟩ ?_
      refine z_is_ (y := R 9 m) (vJob_at hm12 (by omega)) ?_
      refine z_aln (pc := 64) hC 7 rfl dL_areJobs_64 ?_
      refine z_iconst (pc := 65) (v := nI 4) hC dL_areJobs_65 (by decide) ?_
      refine z_il (pc := 66) hC 2 rfl dL_areJobs_66 ?_
      refine z_imul (pc := 68) (v := nI (4 * m)) hC (pk_mul _ _) dL_areJobs_68 ?_
      refine z_il (pc := 69) hC 0 rfl dL_areJobs_69 ?_
      refine z_iadd (pc := 71) (v := nI (4 * m + 3)) hC (nI_add _ _) dL_areJobs_71 ?_
      refine z_iald (pc := 72) hC 2 rfl dL_areJobs_72 (4 * m + 3) rfl (by omega) (by decide) ?_
      refine z_is_ (y := R 9 m) (fJ_at (by decide) _) ?_
      refine z_icne (pc := 73) hC 103 (by decide) dL_areJobs_73 (fun c73 => absurd rfl c73) (fun c73 => ?_)
      refine z_aln (pc := 76) hC 4 rfl dL_areJobs_76 ?_
      refine z_il (pc := 77) hC 2 rfl dL_areJobs_77 ?_
      refine z_il (pc := 79) hC 0 rfl dL_areJobs_79 ?_
      refine z_iconst (pc := 81) (v := nI 4) hC dL_areJobs_81 (by decide) ?_
      refine z_iadd (pc := 82) (v := nI 7) hC (by decide) dL_areJobs_82 ?_
      refine z_g (pc := 83) (rest := []) hC vX5_job lL_55 dL_areJobs_83 (g_job hG hX (cJob_0 hG hmn (q := 7) (by omega))) (fun zw => lgW g.2 v R ++ ([(q, .inl (g.2 0, 4, .inl (cw R m)))] ++ zw)) (ctx_rr _ _) rfl 0 5 rfl rfl rfl rfl rfl (by decide) (Nat.le_of_ble_eq_true rfl) ⟨Nat.le_of_ble_eq_true rfl, Nat.le_of_ble_eq_true rfl⟩ ?_
      refine z_is_ (y := R 13 m) (vJob_at hm12 (by omega)) ?_
      refine z_al (pc := 86) hC 8 rfl dL_areJobs_86 ?_
      refine z_iconst (pc := 88) (v := nI 4) hC dL_areJobs_88 (by decide) ?_
      refine z_il (pc := 89) hC 2 rfl dL_areJobs_89 ?_
      refine z_imul (pc := 91) (v := nI (4 * m)) hC (pk_mul _ _) dL_areJobs_91 ?_
      refine z_il (pc := 92) hC 0 rfl dL_areJobs_92 ?_
      refine z_iadd (pc := 94) (v := nI (4 * m + 3)) hC (nI_add _ _) dL_areJobs_94 ?_
      refine z_iald (pc := 95) hC 3 rfl dL_areJobs_95 (4 * m + 3) rfl (by omega) (by decide) ?_
      refine z_is_ (y := R 13 m) (fK_at (by decide) _) ?_
      refine z_icne (pc := 96) hC 103 (by decide) dL_areJobs_96 (fun c96 => absurd rfl c96) (fun c96 => ?_)
      refine z_iconst (pc := 99) (v := 1) hC dL_areJobs_99 (by decide) ?_
      refine z_goto (pc := 100) hC 104 (by decide) dL_areJobs_100 ?_
      refine z_is (pc := 104) (lv' := [(7, .int 1), (9, .int (nI 3)), (8, .int (nI m)), (6, .ref q), (0, .ref x), (1, .ref (v 0)), (2, .ref (v 1)), (3, .ref (v 2)), (4, .ref (v 3)), (5, .ref (v 4))]) hC hm (by decide) rfl dL_areJobs_104 ?_
      refine z_iinc (pc := 106) (v := nI 4) (j := 1) (lv' := [(9, .int (nI 4)), (7, .int 1), (8, .int (nI m)), (6, .ref q), (0, .ref x), (1, .ref (v 0)), (2, .ref (v 1)), (3, .ref (v 2)), (4, .ref (v 3)), (5, .ref (v 4))]) hC hm (by decide) rfl (by decide) rfl dL_areJobs_106 ?_
      refine z_goto (pc := 109) hC 45 (by decide) dL_areJobs_109 ?_
      refine z_il (pc := 45) hC 0 rfl dL_areJobs_45 ?_
      refine z_iconst (pc := 47) (v := 4) hC dL_areJobs_47 (by decide) ?_
      refine z_icge (pc := 48) hC 112 (by decide) dL_areJobs_48 (fun c48 => ?_) (fun c48 => absurd c48 (by decide))
      refine z_il (pc := 112) hC 1 rfl dL_areJobs_112 ?_
      refine z_ifeq (pc := 114) hC 156 (by decide) dL_areJobs_114 (fun c114 => absurd c114 (by decide)) (fun c114 => ?_)
      refine z_aln (pc := 117) hC 4 rfl dL_areJobs_117 ?_
      refine z_il (pc := 118) hC 2 rfl dL_areJobs_118 ?_
      refine z_g (pc := 120) (rest := []) hC vX5_isStuck lL_58 dL_areJobs_120 (g_isStuck hG hX (cIs_0 hG hmn)) (fun zw => lgW g.2 v R ++ ([(q, .inl (g.2 0, 4, .inl (cw R m)))] ++ zw)) (ctx_rr _ _) rfl 0 5 rfl rfl rfl rfl rfl (by decide) (Nat.le_of_ble_eq_true rfl) ⟨Nat.le_of_ble_eq_true rfl, Nat.le_of_ble_eq_true rfl⟩ ?_
      refine z_is_ (y := bI (decide (R 10 m = 0) && decide (fnd R m = -1))) (vStuck_at hm12) ?_
      refine z_al (pc := 123) hC 8 rfl dL_areJobs_123 ?_
      refine z_iconst (pc := 125) (v := nI 4) hC dL_areJobs_125 (by decide) ?_
      refine z_il (pc := 126) hC 2 rfl dL_areJobs_126 ?_
      refine z_imul (pc := 128) (v := nI (4 * m)) hC (pk_mul _ _) dL_areJobs_128 ?_
      refine z_iald (pc := 129) hC 3 rfl dL_areJobs_129 (4 * m + 0) rfl (by omega) (by decide) ?_
      refine z_is_ (y := R 10 m) (fK_at (by decide) _) ?_
      refine z_ifne (pc := 130) hC 148 (by decide) dL_areJobs_130 (fun c130 => ?_) (fun c130 => ?_)
      · refine z_iconst (pc := 148) (v := 0) hC dL_areJobs_148 (by decide) ?_
        refine z_icne (pc := 149) hC 156 (by decide) dL_areJobs_149 (fun c149 => absurd (bI_f (by first | (simp [c130]; done) | (simp [fnd_ge c141]; done))).symm c149) (fun c149 => ?_)
        refine z_iconst (pc := 152) (v := 1) hC dL_areJobs_152 (by decide) ?_
        refine z_goto (pc := 153) hC 157 (by decide) dL_areJobs_153 ?_
        refine z_is (pc := 157) (lv' := [(7, .int 1), (9, .int (nI 4)), (8, .int (nI m)), (6, .ref q), (0, .ref x), (1, .ref (v 0)), (2, .ref (v 1)), (3, .ref (v 2)), (4, .ref (v 3)), (5, .ref (v 4))]) hC hm (by decide) rfl dL_areJobs_157 ?_
        refine z_lv (lv' := [(7, .int 1), (8, .int (nI m)), (6, .ref q), (0, .ref x), (1, .ref (v 0)), (2, .ref (v 1)), (3, .ref (v 2)), (4, .ref (v 3)), (5, .ref (v 4))]) [0, 2, 3, 4, 5, 6, 7, 8, 9] rfl ?_
        exact tail
      · refine z_aln (pc := 133) hC 5 rfl dL_areJobs_133 ?_
        refine z_aln (pc := 134) hC 6 rfl dL_areJobs_134 ?_
        refine z_aln (pc := 135) hC 7 rfl dL_areJobs_135 ?_
        refine z_il (pc := 136) hC 2 rfl dL_areJobs_136 ?_
        refine z_sg (pc := 138) (rest := [.int (bI (decide (R 10 m = 0) && decide (fnd R m = -1)))]) hC sL_looks lL_11 dL_areJobs_138 (l_looks (v := v) hK hm12) (fun zw => zw ++ ([(q, .inl (g.2 0, 4, .inl (cw R m)))] ++ xW g.2 x u c a h e Q P T R (nI s) (nI p) K)) (ctx_l _) rfl rfl rfl (by decide) (Nat.le_of_ble_eq_true rfl) ⟨Nat.le_of_ble_eq_true rfl, Nat.le_of_ble_eq_true rfl⟩ ?_
        refine z_ifge (pc := 141) hC 148 (by decide) dL_areJobs_141 (fun c141 => ?_) (fun c141 => ?_)
        · refine z_iconst (pc := 148) (v := 0) hC dL_areJobs_148 (by decide) ?_
          refine z_icne (pc := 149) hC 156 (by decide) dL_areJobs_149 (fun c149 => absurd (bI_f (by first | (simp [c130]; done) | (simp [fnd_ge c141]; done))).symm c149) (fun c149 => ?_)
          refine z_iconst (pc := 152) (v := 1) hC dL_areJobs_152 (by decide) ?_
          refine z_goto (pc := 153) hC 157 (by decide) dL_areJobs_153 ?_
          refine z_is (pc := 157) (lv' := [(7, .int 1), (9, .int (nI 4)), (8, .int (nI m)), (6, .ref q), (0, .ref x), (1, .ref (v 0)), (2, .ref (v 1)), (3, .ref (v 2)), (4, .ref (v 3)), (5, .ref (v 4))]) hC hm (by decide) rfl dL_areJobs_157 ?_
          refine z_lv (lv' := [(7, .int 1), (8, .int (nI m)), (6, .ref q), (0, .ref x), (1, .ref (v 0)), (2, .ref (v 1)), (3, .ref (v 2)), (4, .ref (v 3)), (5, .ref (v 4))]) [0, 2, 3, 4, 5, 6, 7, 8, 9] rfl ?_
          exact tail
        · refine z_iconst (pc := 144) (v := 1) hC dL_areJobs_144 (by decide) ?_
          refine z_goto (pc := 145) hC 149 (by decide) dL_areJobs_145 ?_
          refine z_icne (pc := 149) hC 156 (by decide) dL_areJobs_149 (fun c149 => absurd (bI_t (by simp [c130, fnd_lt (Int32.not_le.mp c141)])).symm c149) (fun c149 => ?_)
          refine z_iconst (pc := 152) (v := 1) hC dL_areJobs_152 (by decide) ?_
          refine z_goto (pc := 153) hC 157 (by decide) dL_areJobs_153 ?_
          refine z_is (pc := 157) (lv' := [(7, .int 1), (9, .int (nI 4)), (8, .int (nI m)), (6, .ref q), (0, .ref x), (1, .ref (v 0)), (2, .ref (v 1)), (3, .ref (v 2)), (4, .ref (v 3)), (5, .ref (v 4))]) hC hm (by decide) rfl dL_areJobs_157 ?_
          refine z_lv (lv' := [(7, .int 1), (8, .int (nI m)), (6, .ref q), (0, .ref x), (1, .ref (v 0)), (2, .ref (v 1)), (3, .ref (v 2)), (4, .ref (v 3)), (5, .ref (v 4))]) [0, 2, 3, 4, 5, 6, 7, 8, 9] rfl ?_
          exact tail
  refine z_iconst (pc := 0) (v := nI 4) hC dL_areJobs_0 (by decide) ?_
  refine z_newa (pc := 1) hC 0 rfl (fun _ _ h => h) rfl aw_int dL_areJobs_1 4 rfl (by decide) (by decide) ⟨Nat.le_of_ble_eq_true rfl, Nat.le_of_ble_eq_true rfl⟩ (a0 := (4, .inl (fun _ => 0))) (fun _ => rfl) (fun q => ?_)
  refine z_perm (ws' := lgW g.2 v R ++ ([(q, .inl (g.2 0, 4, .inl (fun _ => 0)))] ++ xW g.2 x u c a h e Q P T R (nI s) (nI p) K)) (perm_q _ _ _) ?_
  refine z_as (pc := 3) (lv' := [(6, .ref q), (0, .ref x), (1, .ref (v 0)), (2, .ref (v 1)), (3, .ref (v 2)), (4, .ref (v 3)), (5, .ref (v 4))]) hC hm (by decide) rfl dL_areJobs_3 ?_
  refine z_aln (pc := 5) hC 1 rfl dL_areJobs_5 ?_
  refine z_g (pc := 6) (rest := []) hC vX5_jobs lL_52 dL_areJobs_6 (k_jobs hG hX) (fun zw => lgW g.2 v R ++ ([(q, .inl (g.2 0, 4, .inl (fun _ => 0)))] ++ zw)) (ctx_rr _ _) rfl 0 5 rfl rfl rfl rfl rfl (by decide) (Nat.le_of_ble_eq_true rfl) ⟨Nat.le_of_ble_eq_true rfl, Nat.le_of_ble_eq_true rfl⟩ ?_
  refine z_al (pc := 9) hC 6 rfl dL_areJobs_9 ?_
  refine z_bipush (pc := 11) (v := 10) hC dL_areJobs_11 (by decide) ?_
  refine z_iald (pc := 13) hC 4 rfl dL_areJobs_13 10 rfl (by omega) (by decide) ?_
  refine z_icne (pc := 14) hC 21 (by decide) dL_areJobs_14 (fun c14 => absurd rfl c14) (fun c14 => ?_)
  refine z_iconst (pc := 17) (v := 1) hC dL_areJobs_17 (by decide) ?_
  refine z_goto (pc := 18) hC 22 (by decide) dL_areJobs_18 ?_
  refine z_is (pc := 22) (lv' := [(7, .int 1), (6, .ref q), (0, .ref x), (1, .ref (v 0)), (2, .ref (v 1)), (3, .ref (v 2)), (4, .ref (v 3)), (5, .ref (v 4))]) hC hm (by decide) rfl dL_areJobs_22 ?_
  refine z_iconst (pc := 24) (v := nI 0) hC dL_areJobs_24 (by decide) ?_
  refine z_is (pc := 25) (lv' := [(8, .int (nI 0)), (7, .int 1), (6, .ref q), (0, .ref x), (1, .ref (v 0)), (2, .ref (v 1)), (3, .ref (v 2)), (4, .ref (v 3)), (5, .ref (v 4))]) hC hm (by decide) rfl dL_areJobs_25 ?_
  refine z_cell (ws' := lgW g.2 v R ++ ([(q, .inl (g.2 0, 4, .inl (cw R 0)))] ++ xW g.2 x u c a h e Q P T R (nI s) (nI p) K)) 5 rfl (fun _ _ => rfl) rfl ?_
  refine z_lv (lv' := [(7, .int 1), (8, .int (nI 0)), (6, .ref q), (0, .ref x), (1, .ref (v 0)), (2, .ref (v 1)), (3, .ref (v 2)), (4, .ref (v 3)), (5, .ref (v 4))]) [1, 0, 2, 3, 4, 5, 6, 7, 8] rfl ?_
  exact loop q (nn R) 0 (by omega)
