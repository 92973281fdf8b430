set_option maxRecDepth 100000 in
set_option maxHeartbeats 4000000 in
theorem l_serves {g : zG} {v : Nat → Nat} {R : St} {n i dr : Nat} (hI : Inv R n) (hK : KI R n) (hin : i < n) (hne : ¬ fnd R i = -1) : Gv g yL_serves cL_serves 9 2 [.ref (v 0), .ref (v 1), .ref (v 2), .ref (v 3), .ref (v 4), .int (nI i), .int (nI dr)] (lgW g.2 v R) (lgW g.2 v (srv R i (nI dr))) := by
  refine fv_entry (by decide) (Nat.le_of_ble_eq_true rfl) (fun C hC hm _ hE => ?_)
  obtain ⟨r, hr, hf, -⟩ := tk_ne (q := R 14 2 + 1) hne
  have hi : i < 12 := by have := hI.1; omega
  have hk := (hK.1 i hin).1
  have hr2 := (hI.2.2.2.1 r hr).1
  have tail : ∀ Q : St, srv2 Q i r (nI dr) = srv R i (nI dr) → (Q 6 i = 0 ∨ Q 6 i = 1 ∨ Q 6 i = 2) → (Q 2 r = 0 ∨ Q 2 r = 1) → Z g C 0 0 (lgW g.2 v Q) [(0, .ref (v 0)), (1, .ref (v 1)), (2, .ref (v 2)), (3, .ref (v 3)), (4, .ref (v 4)), (5, .int (nI i)), (6, .int (nI dr)), (7, .int (nI r))] 107 [] := by
    intro Q hQ hkQ hr2Q
    refine z_aln (pc := 107) hC 0 rfl dL_serves_107 ?_
    refine z_aln (pc := 108) hC 1 rfl dL_serves_108 ?_
    refine z_aln (pc := 109) hC 2 rfl dL_serves_109 ?_
    refine z_al (pc := 110) hC 4 rfl dL_serves_110 ?_
    refine z_il (pc := 112) hC 5 rfl dL_serves_112 ?_
    refine z_il (pc := 114) hC 7 rfl dL_serves_114 ?_
    refine z_sg (pc := 116) (rest := []) hC sL_checks lL_23 dL_serves_116 (l_checks hi hr hkQ hr2Q) (fun w => w) isCtx_id rfl rfl rfl (by decide) (Nat.le_of_ble_eq_true rfl) ⟨Nat.zero_le _, Nat.zero_le _⟩ ?_
    refine z_ifle (pc := 119) hC 173 (by decide) dL_serves_119 (fun c119 => ?_) (fun c119 => ?_)
    · have hc0 := chk_0 c119
      refine z_aln (pc := 173) hC 1 rfl dL_serves_173 ?_
      refine z_iconst (pc := 174) (v := nI 3) hC dL_serves_174 (by decide) ?_
      refine z_il (pc := 175) hC 7 rfl dL_serves_175 ?_
      refine z_imul (pc := 177) (v := nI (3 * r)) hC (pk_mul _ _) dL_serves_177 ?_
      refine z_iconst (pc := 178) (v := nI 2) hC dL_serves_178 (by decide) ?_
      refine z_iadd (pc := 179) (v := nI (3 * r + 2)) hC (nI_add _ _) dL_serves_179 ?_
      refine z_il (pc := 180) hC 6 rfl dL_serves_180 ?_
      refine z_iast (pc := 182) (ws' := lgW g.2 v (setS Q 5 r (nI dr))) hC 1 rfl dL_serves_182 (3 * r + 2) rfl (by omega) (by decide) (lg_B (by decide)) ?_
      refine z_aln (pc := 183) hC 3 rfl dL_serves_183 ?_
      refine z_iconst (pc := 184) (v := nI 4) hC dL_serves_184 (by decide) ?_
      refine z_il (pc := 185) hC 5 rfl dL_serves_185 ?_
      refine z_imul (pc := 187) (v := nI (4 * i)) hC (pk_mul _ _) dL_serves_187 ?_
      refine z_iconst (pc := 188) (v := 1) hC dL_serves_188 (by decide) ?_
      refine z_iast (pc := 189) (ws' := lgW g.2 v (setS (setS Q 5 r (nI dr)) 10 i 1)) hC 3 rfl dL_serves_189 (4 * i + 0) rfl (by omega) (by decide) (lg_K (by decide)) ?_
      refine z_aln (pc := 190) hC 3 rfl dL_serves_190 ?_
      refine z_iconst (pc := 191) (v := nI 4) hC dL_serves_191 (by decide) ?_
      refine z_il (pc := 192) hC 5 rfl dL_serves_192 ?_
      refine z_imul (pc := 194) (v := nI (4 * i)) hC (pk_mul _ _) dL_serves_194 ?_
      refine z_iconst (pc := 195) (v := nI 2) hC dL_serves_195 (by decide) ?_
      refine z_iadd (pc := 196) (v := nI (4 * i + 2)) hC (nI_add _ _) dL_serves_196 ?_
      refine z_il (pc := 197) hC 7 rfl dL_serves_197 ?_
      refine z_iast (pc := 199) (ws' := lgW g.2 v (setS (setS (setS Q 5 r (nI dr)) 10 i 1) 12 i (nI r))) hC 3 rfl dL_serves_199 (4 * i + 2) rfl (by omega) (by decide) (lg_K (by decide)) ?_
      refine z_aln (pc := 200) hC 2 rfl dL_serves_200 ?_
      refine z_iconst (pc := 201) (v := nI 4) hC dL_serves_201 (by decide) ?_
      refine z_il (pc := 202) hC 5 rfl dL_serves_202 ?_
      refine z_imul (pc := 204) (v := nI (4 * i)) hC (pk_mul _ _) dL_serves_204 ?_
      refine z_iald (pc := 205) hC 2 rfl dL_serves_205 (4 * i + 0) rfl (by omega) (by decide) ?_
      refine z_is_ (y := (setS (setS (setS Q 5 r (nI dr)) 10 i 1) 12 i (nI r)) 6 i) (fJ_at (by decide) _) ?_
      refine z_is_ (y := Q 6 i) rfl ?_
      refine z_iconst (pc := 206) (v := 2) hC dL_serves_206 (by decide) ?_
      refine z_icne (pc := 207) hC 265 (by decide) dL_serves_207 (fun c207 => ?_) (fun c207 => ?_)
      · exact hE _ _ () _ _ _ dL_serves_265 trivial (congrArg (lgW g.2 v) (by rw [← hQ, srv2, if_pos hc0, mnt]; first | rw [if_pos c207] | rw [if_neg c207])) (Nat.zero_le _) (Nat.zero_le _)
      · refine z_aln (pc := 210) hC 0 rfl dL_serves_210 ?_
        refine z_iconst (pc := 211) (v := nI 3) hC dL_serves_211 (by decide) ?_
        refine z_il (pc := 212) hC 7 rfl dL_serves_212 ?_
        refine z_imul (pc := 214) (v := nI (3 * r)) hC (pk_mul _ _) dL_serves_214 ?_
        refine z_aln (pc := 215) hC 2 rfl dL_serves_215 ?_
        refine z_iconst (pc := 216) (v := nI 4) hC dL_serves_216 (by decide) ?_
        refine z_il (pc := 217) hC 5 rfl dL_serves_217 ?_
        refine z_imul (pc := 219) (v := nI (4 * i)) hC (pk_mul _ _) dL_serves_219 ?_
        refine z_iconst (pc := 220) (v := nI 1) hC dL_serves_220 (by decide) ?_
        refine z_iadd (pc := 221) (v := nI (4 * i + 1)) hC (nI_add _ _) dL_serves_221 ?_
        refine z_iald (pc := 222) hC 2 rfl dL_serves_222 (4 * i + 1) rfl (by omega) (by decide) ?_
        refine z_is_ (y := (setS (setS (setS Q 5 r (nI dr)) 10 i 1) 12 i (nI r)) 7 i) (fJ_at (by decide) _) ?_
        refine z_is_ (y := Q 7 i) rfl ?_
        refine z_iast (pc := 223) (ws' := lgW g.2 v (setS (setS (setS (setS Q 5 r (nI dr)) 10 i 1) 12 i (nI r)) 0 r (Q 7 i))) hC 0 rfl dL_serves_223 (3 * r + 0) rfl (by omega) (by decide) (lg_A (by decide)) ?_
        refine z_aln (pc := 224) hC 0 rfl dL_serves_224 ?_
        refine z_iconst (pc := 225) (v := nI 3) hC dL_serves_225 (by decide) ?_
        refine z_il (pc := 226) hC 7 rfl dL_serves_226 ?_
        refine z_imul (pc := 228) (v := nI (3 * r)) hC (pk_mul _ _) dL_serves_228 ?_
        refine z_iconst (pc := 229) (v := nI 1) hC dL_serves_229 (by decide) ?_
        refine z_iadd (pc := 230) (v := nI (3 * r + 1)) hC (nI_add _ _) dL_serves_230 ?_
        refine z_aln (pc := 231) hC 2 rfl dL_serves_231 ?_
        refine z_iconst (pc := 232) (v := nI 4) hC dL_serves_232 (by decide) ?_
        refine z_il (pc := 233) hC 5 rfl dL_serves_233 ?_
        refine z_imul (pc := 235) (v := nI (4 * i)) hC (pk_mul _ _) dL_serves_235 ?_
        refine z_iconst (pc := 236) (v := nI 1) hC dL_serves_236 (by decide) ?_
        refine z_iadd (pc := 237) (v := nI (4 * i + 1)) hC (nI_add _ _) dL_serves_237 ?_
        refine z_iald (pc := 238) hC 2 rfl dL_serves_238 (4 * i + 1) rfl (by omega) (by decide) ?_
        refine z_is_ (y := (setS (setS (setS (setS Q 5 r (nI dr)) 10 i 1) 12 i (nI r)) 0 r (Q 7 i)) 7 i) (fJ_at (by decide) _) ?_
        refine z_is_ (y := Q 7 i) rfl ?_
        refine z_iast (pc := 239) (ws' := lgW g.2 v (setS (setS (setS (setS (setS Q 5 r (nI dr)) 10 i 1) 12 i (nI r)) 0 r (Q 7 i)) 1 r (Q 7 i))) hC 0 rfl dL_serves_239 (3 * r + 1) rfl (by omega) (by decide) (lg_A (by decide)) ?_
        refine z_aln (pc := 240) hC 1 rfl dL_serves_240 ?_
        refine z_iconst (pc := 241) (v := nI 3) hC dL_serves_241 (by decide) ?_
        refine z_il (pc := 242) hC 7 rfl dL_serves_242 ?_
        refine z_imul (pc := 244) (v := nI (3 * r)) hC (pk_mul _ _) dL_serves_244 ?_
        refine z_al (pc := 245) hC 4 rfl dL_serves_245 ?_
        refine z_iconst (pc := 247) (v := 0) hC dL_serves_247 (by decide) ?_
        refine z_iald (pc := 248) hC 4 rfl dL_serves_248 0 rfl (by omega) (by decide) ?_
        refine z_is_ (y := Q 14 0) rfl ?_
        refine z_al (pc := 249) hC 4 rfl dL_serves_249 ?_
        refine z_bipush (pc := 251) (v := 9) hC dL_serves_251 (by decide) ?_
        refine z_iald (pc := 253) hC 4 rfl dL_serves_253 9 rfl (by omega) (by decide) ?_
        refine z_is_ (y := Q 14 9) rfl ?_
        refine z_iadd (pc := 254) (v := (Q 14 0) + (Q 14 9)) hC rfl dL_serves_254 ?_
        refine z_iast (pc := 255) (ws' := lgW g.2 v (setS (setS (setS (setS (setS (setS Q 5 r (nI dr)) 10 i 1) 12 i (nI r)) 0 r (Q 7 i)) 1 r (Q 7 i)) 3 r ((Q 14 0) + (Q 14 9)))) hC 1 rfl dL_serves_255 (3 * r + 0) rfl (by omega) (by decide) (lg_B (by decide)) ?_
        refine z_aln (pc := 256) hC 1 rfl dL_serves_256 ?_
        refine z_iconst (pc := 257) (v := nI 3) hC dL_serves_257 (by decide) ?_
        refine z_il (pc := 258) hC 7 rfl dL_serves_258 ?_
        refine z_imul (pc := 260) (v := nI (3 * r)) hC (pk_mul _ _) dL_serves_260 ?_
        refine z_iconst (pc := 261) (v := nI 1) hC dL_serves_261 (by decide) ?_
        refine z_iadd (pc := 262) (v := nI (3 * r + 1)) hC (nI_add _ _) dL_serves_262 ?_
        refine z_iconst (pc := 263) (v := 0) hC dL_serves_263 (by decide) ?_
        refine z_iast (pc := 264) (ws' := lgW g.2 v (setS (setS (setS (setS (setS (setS (setS Q 5 r (nI dr)) 10 i 1) 12 i (nI r)) 0 r (Q 7 i)) 1 r (Q 7 i)) 3 r ((Q 14 0) + (Q 14 9))) 4 r 0)) hC 1 rfl dL_serves_264 (3 * r + 1) rfl (by omega) (by decide) (lg_B (by decide)) ?_
        exact hE _ _ () _ _ _ dL_serves_265 trivial (congrArg (lgW g.2 v) (by rw [← hQ, srv2, if_pos hc0, mnt]; first | rw [if_pos c207] | rw [if_neg c207])) (Nat.zero_le _) (Nat.zero_le _)
    · have hc0 : ¬ chk Q i r = 0 := fun e => c119 (by rw [e]; decide)
      refine z_al (pc := 122) hC 4 rfl dL_serves_122 ?_
      refine z_iconst (pc := 124) (v := 4) hC dL_serves_124 (by decide) ?_
      refine z_dup2 (pc := 125) hC rfl rfl dL_serves_125 ?_
      refine z_iald (pc := 126) hC 4 rfl dL_serves_126 4 rfl (by omega) (by decide) ?_
      refine z_is_ (y := Q 14 4) rfl ?_
      refine z_iconst (pc := 127) (v := 1) hC dL_serves_127 (by decide) ?_
      refine z_iadd (pc := 128) (v := (Q 14 4) + 1) hC rfl dL_serves_128 ?_
      refine z_iast (pc := 129) (ws' := lgW g.2 v (setS Q 14 4 ((Q 14 4) + 1))) hC 4 rfl dL_serves_129 4 rfl (by omega) (by decide) lg_N ?_
      refine z_aln (pc := 130) hC 3 rfl dL_serves_130 ?_
      refine z_iconst (pc := 131) (v := nI 4) hC dL_serves_131 (by decide) ?_
      refine z_il (pc := 132) hC 5 rfl dL_serves_132 ?_
      refine z_imul (pc := 134) (v := nI (4 * i)) hC (pk_mul _ _) dL_serves_134 ?_
      refine z_iconst (pc := 135) (v := nI 3) hC dL_serves_135 (by decide) ?_
      refine z_iadd (pc := 136) (v := nI (4 * i + 3)) hC (nI_add _ _) dL_serves_136 ?_
      refine z_dup2 (pc := 137) hC rfl rfl dL_serves_137 ?_
      refine z_iald (pc := 138) hC 3 rfl dL_serves_138 (4 * i + 3) rfl (by omega) (by decide) ?_
      refine z_is_ (y := (setS Q 14 4 ((Q 14 4) + 1)) 13 i) (fK_at (by decide) _) ?_
      refine z_is_ (y := Q 13 i) rfl ?_
      refine z_iconst (pc := 139) (v := 1) hC dL_serves_139 (by decide) ?_
      refine z_iadd (pc := 140) (v := (Q 13 i) + 1) hC rfl dL_serves_140 ?_
      refine z_iast (pc := 141) (ws' := lgW g.2 v (setS (setS Q 14 4 ((Q 14 4) + 1)) 13 i ((Q 13 i) + 1))) hC 3 rfl dL_serves_141 (4 * i + 3) rfl (by omega) (by decide) (lg_K (by decide)) ?_
      refine z_aln (pc := 142) hC 0 rfl dL_serves_142 ?_
      refine z_iconst (pc := 143) (v := nI 3) hC dL_serves_143 (by decide) ?_
      refine z_il (pc := 144) hC 7 rfl dL_serves_144 ?_
      refine z_imul (pc := 146) (v := nI (3 * r)) hC (pk_mul _ _) dL_serves_146 ?_
      refine z_iconst (pc := 147) (v := nI 1) hC dL_serves_147 (by decide) ?_
      refine z_iadd (pc := 148) (v := nI (3 * r + 1)) hC (nI_add _ _) dL_serves_148 ?_
      refine z_aln (pc := 149) hC 0 rfl dL_serves_149 ?_
      refine z_aln (pc := 150) hC 1 rfl dL_serves_150 ?_
      refine z_al (pc := 151) hC 4 rfl dL_serves_151 ?_
      refine z_il (pc := 153) hC 7 rfl dL_serves_153 ?_
      refine z_sg (pc := 155) (rest := [.int (nI (3 * r + 1)), .ref (v 0)]) hC sL_scratch lL_15 dL_serves_155 (l_scratch hr) (fun w => w) isCtx_id rfl rfl rfl (by decide) (Nat.le_of_ble_eq_true rfl) ⟨Nat.zero_le _, Nat.zero_le _⟩ ?_
      refine z_is_ (y := bI (scr Q r)) rfl ?_
      refine z_ifeq (pc := 158) hC 165 (by decide) dL_serves_158 (fun c158 => ?_) (fun c158 => ?_)
      · have hsc : (if scr Q r = true then (0 : Int32) else Q 0 r) = Q 0 r := if_neg (by rw [bI_0.mp c158]; decide)
        refine z_aln (pc := 165) hC 0 rfl dL_serves_165 ?_
        refine z_iconst (pc := 166) (v := nI 3) hC dL_serves_166 (by decide) ?_
        refine z_il (pc := 167) hC 7 rfl dL_serves_167 ?_
        refine z_imul (pc := 169) (v := nI (3 * r)) hC (pk_mul _ _) dL_serves_169 ?_
        refine z_iald (pc := 170) hC 0 rfl dL_serves_170 (3 * r + 0) rfl (by omega) (by decide) ?_
        refine z_is_ (y := (setS (setS Q 14 4 ((Q 14 4) + 1)) 13 i ((Q 13 i) + 1)) 0 r) (fA_at (by decide) _) ?_
        refine z_is_ (y := Q 0 r) rfl ?_
        refine z_iast (pc := 171) (ws' := lgW g.2 v (setS (setS (setS Q 14 4 ((Q 14 4) + 1)) 13 i ((Q 13 i) + 1)) 1 r (Q 0 r))) hC 0 rfl dL_serves_171 (3 * r + 1) rfl (by omega) (by decide) (lg_A (by decide)) ?_
        exact hE _ _ () _ _ _ dL_serves_172 trivial (congrArg (lgW g.2 v) (by rw [← hQ, srv2, if_neg hc0, sbk, hsc]; exact sbk_L)) (Nat.zero_le _) (Nat.zero_le _)
      · have hsc : (if scr Q r = true then (0 : Int32) else Q 0 r) = 0 := if_pos (bI_n.mp c158)
        refine z_iconst (pc := 161) (v := 0) hC dL_serves_161 (by decide) ?_
        refine z_goto (pc := 162) hC 171 (by decide) dL_serves_162 ?_
        refine z_iast (pc := 171) (ws' := lgW g.2 v (setS (setS (setS Q 14 4 ((Q 14 4) + 1)) 13 i ((Q 13 i) + 1)) 1 r 0)) hC 0 rfl dL_serves_171 (3 * r + 1) rfl (by omega) (by decide) (lg_A (by decide)) ?_
        exact hE _ _ () _ _ _ dL_serves_172 trivial (congrArg (lgW g.2 v) (by rw [← hQ, srv2, if_neg hc0, sbk, hsc]; exact sbk_L)) (Nat.zero_le _) (Nat.zero_le _)
  refine z_al (pc := 0) hC 4 rfl dL_serves_0 ?_
  refine z_iconst (pc := 2) (v := 2) hC dL_serves_2 (by decide) ?_
  refine z_dup2 (pc := 3) hC rfl rfl dL_serves_3 ?_
  refine z_iald (pc := 4) hC 4 rfl dL_serves_4 2 rfl (by omega) (by decide) ?_
  refine z_iconst (pc := 5) (v := 1) hC dL_serves_5 (by decide) ?_
  refine z_iadd (pc := 6) (v := (R 14 2) + 1) hC rfl dL_serves_6 ?_
  refine z_iast (pc := 7) (ws' := lgW g.2 v (setS R 14 2 ((R 14 2) + 1))) hC 4 rfl dL_serves_7 2 rfl (by omega) (by decide) lg_N ?_
  refine z_aln (pc := 8) hC 0 rfl dL_serves_8 ?_
  refine z_aln (pc := 9) hC 1 rfl dL_serves_9 ?_
  refine z_aln (pc := 10) hC 2 rfl dL_serves_10 ?_
  refine z_al (pc := 11) hC 4 rfl dL_serves_11 ?_
  refine z_il (pc := 13) hC 5 rfl dL_serves_13 ?_
  refine z_al (pc := 15) hC 4 rfl dL_serves_15 ?_
  refine z_iconst (pc := 17) (v := 2) hC dL_serves_17 (by decide) ?_
  refine z_iald (pc := 18) hC 4 rfl dL_serves_18 2 rfl (by omega) (by decide) ?_
  refine z_is_ (y := R 14 2 + 1) (setS_eq R 14 2 _) ?_
  refine z_sg (pc := 19) (rest := []) hC sL_takes lL_19 dL_serves_19 (l_takes (R := setS R 14 2 (R 14 2 + 1)) (ki_n (by decide) hK) hi hne) (fun w => w) isCtx_id rfl rfl rfl (by decide) (Nat.le_of_ble_eq_true rfl) ⟨Nat.zero_le _, Nat.zero_le _⟩ ?_
  refine z_is_ (y := nI r) hf ?_
  refine z_is (pc := 22) (lv' := [(7, .int (nI r)), (0, .ref (v 0)), (1, .ref (v 1)), (2, .ref (v 2)), (3, .ref (v 3)), (4, .ref (v 4)), (5, .int (nI i)), (6, .int (nI dr))]) hC hm (by decide) rfl dL_serves_22 ?_
  rcases hs : slp R (R 14 2 + 1) with _ | _
  · refine z_al (pc := 24) hC 5 rfl dL_serves_24 ?_
    refine z_bipush (pc := 26) (v := 8) hC dL_serves_26 (by decide) ?_
    refine z_iald (pc := 28) hC 4 rfl dL_serves_28 8 rfl (by omega) (by decide) ?_
    refine z_is_ (y := R 14 8) rfl ?_
    refine z_ifle (pc := 29) hC 49 (by decide) dL_serves_29 (fun c29 => ?_) (fun c29 => ?_)
    · refine z_iconst (pc := 49) (v := 0) hC dL_serves_49 (by decide) ?_
      refine z_is (pc := 50) (lv' := [(8, .int 0), (7, .int (nI r)), (0, .ref (v 0)), (1, .ref (v 1)), (2, .ref (v 2)), (3, .ref (v 3)), (4, .ref (v 4)), (5, .int (nI i)), (6, .int (nI dr))]) hC hm (by decide) rfl dL_serves_50 ?_
      refine z_al (pc := 52) hC 6 rfl dL_serves_52 ?_
      refine z_iconst (pc := 54) (v := 3) hC dL_serves_54 (by decide) ?_
      refine z_dup2 (pc := 55) hC rfl rfl dL_serves_55 ?_
      refine z_iald (pc := 56) hC 4 rfl dL_serves_56 3 rfl (by omega) (by decide) ?_
      refine z_is_ (y := R 14 3) rfl ?_
      refine z_il (pc := 57) hC 0 rfl dL_serves_57 ?_
      refine z_ifeq (pc := 59) hC 66 (by decide) dL_serves_59 (fun c59 => ?_) (fun c59 => absurd c59 (by decide))
      refine z_iconst (pc := 66) (v := 0) hC dL_serves_66 (by decide) ?_
      refine z_iadd (pc := 67) (v := (R 14 3) + 0) hC rfl dL_serves_67 ?_
      refine z_iast (pc := 68) (ws' := lgW g.2 v (setS (setS R 14 2 ((R 14 2) + 1)) 14 3 ((R 14 3) + 0))) hC 4 rfl dL_serves_68 3 rfl (by omega) (by decide) lg_N ?_
      refine z_w (ws' := lgW g.2 v (setS R 14 2 (R 14 2 + 1))) (congrArg (lgW g.2 v) (setS_id (i32_add0 _))) ?_
      refine z_aln (pc := 69) hC 2 rfl dL_serves_69 ?_
      refine z_iconst (pc := 70) (v := nI 3) hC dL_serves_70 (by decide) ?_
      refine z_il (pc := 71) hC 1 rfl dL_serves_71 ?_
      refine z_imul (pc := 73) (v := nI (3 * r)) hC (pk_mul _ _) dL_serves_73 ?_
      refine z_iconst (pc := 74) (v := nI 2) hC dL_serves_74 (by decide) ?_
      refine z_iadd (pc := 75) (v := nI (3 * r + 2)) hC (nI_add _ _) dL_serves_75 ?_
      refine z_il (pc := 76) hC 0 rfl dL_serves_76 ?_
      refine z_ifeq (pc := 78) hC 92 (by decide) dL_serves_78 (fun c78 => ?_) (fun c78 => absurd c78 (by decide))
      refine z_aln (pc := 92) hC 4 rfl dL_serves_92 ?_
      refine z_iconst (pc := 93) (v := nI 4) hC dL_serves_93 (by decide) ?_
      refine z_il (pc := 94) hC 7 rfl dL_serves_94 ?_
      refine z_imul (pc := 96) (v := nI (4 * i)) hC (pk_mul _ _) dL_serves_96 ?_
      refine z_iald (pc := 97) hC 2 rfl dL_serves_97 (4 * i + 0) rfl (by omega) (by decide) ?_
      refine z_is_ (y := (setS R 14 2 (R 14 2 + 1)) 6 i) (fJ_at (by decide) _) ?_
      refine z_is_ (y := R 6 i) rfl ?_
      refine z_ifle (pc := 98) hC 105 (by decide) dL_serves_98 (fun c98 => ?_) (fun c98 => ?_)
      · refine z_iconst (pc := 105) (v := 0) hC dL_serves_105 (by decide) ?_
        refine z_iast (pc := 106) (ws' := lgW g.2 v (setS (setS R 14 2 (R 14 2 + 1)) 2 r 0)) hC 0 rfl dL_serves_106 (3 * r + 2) rfl (by omega) (by decide) (lg_A (by decide)) ?_
        refine z_w (ws' := lgW g.2 v (setS (setS R 14 2 (R 14 2 + 1)) 2 r (if R 6 i = 0 then 0 else 1))) (congrArg (lgW g.2 v) (by rw [if_pos ((kd_pos hk).mp c98)])) ?_
        refine z_lv (lv' := [(0, .ref (v 0)), (1, .ref (v 1)), (2, .ref (v 2)), (3, .ref (v 3)), (4, .ref (v 4)), (5, .int (nI i)), (6, .int (nI dr)), (7, .int (nI r))]) [2, 3, 4, 5, 6, 7, 8, 1] rfl ?_
        exact tail _ (srv_L0 hs hf hr) hk (by rw [setS_eq]; split <;> simp)
      · refine z_iconst (pc := 101) (v := 1) hC dL_serves_101 (by decide) ?_
        refine z_goto (pc := 102) hC 106 (by decide) dL_serves_102 ?_
        refine z_iast (pc := 106) (ws' := lgW g.2 v (setS (setS R 14 2 (R 14 2 + 1)) 2 r 1)) hC 0 rfl dL_serves_106 (3 * r + 2) rfl (by omega) (by decide) (lg_A (by decide)) ?_
        refine z_w (ws' := lgW g.2 v (setS (setS R 14 2 (R 14 2 + 1)) 2 r (if R 6 i = 0 then 0 else 1))) (congrArg (lgW g.2 v) (by rw [if_neg (fun e => c98 ((kd_pos hk).mpr e))])) ?_
        refine z_lv (lv' := [(0, .ref (v 0)), (1, .ref (v 1)), (2, .ref (v 2)), (3, .ref (v 3)), (4, .ref (v 4)), (5, .int (nI i)), (6, .int (nI dr)), (7, .int (nI r))]) [2, 3, 4, 5, 6, 7, 8, 1] rfl ?_
        exact tail _ (srv_L0 hs hf hr) hk (by rw [setS_eq]; split <;> simp)
    · have hc0 : ¬ R 14 8 = 0 := fun e => c29 (by rw [e]; decide)
      refine z_al (pc := 32) hC 5 rfl dL_serves_32 ?_
      refine z_iconst (pc := 34) (v := 2) hC dL_serves_34 (by decide) ?_
      refine z_iald (pc := 35) hC 4 rfl dL_serves_35 2 rfl (by omega) (by decide) ?_
      refine z_is_ (y := R 14 2 + 1) (setS_eq R 14 2 _) ?_
      refine z_al (pc := 36) hC 5 rfl dL_serves_36 ?_
      refine z_bipush (pc := 38) (v := 8) hC dL_serves_38 (by decide) ?_
      refine z_iald (pc := 40) hC 4 rfl dL_serves_40 8 rfl (by omega) (by decide) ?_
      refine z_is_ (y := R 14 8) rfl ?_
      refine z_irem (pc := 41) (v := (R 14 2 + 1) - (R 14 2 + 1) / (R 14 8) * (R 14 8)) hC hc0 rfl dL_serves_41 ?_
      refine z_ifne (pc := 42) hC 49 (by decide) dL_serves_42 (fun c42 => ?_) (fun c42 => absurd (show slp R (R 14 2 + 1) = true by simp [slp, hc0, c42]) (by rw [hs]; decide))
      refine z_iconst (pc := 49) (v := 0) hC dL_serves_49 (by decide) ?_
      refine z_is (pc := 50) (lv' := [(8, .int 0), (7, .int (nI r)), (0, .ref (v 0)), (1, .ref (v 1)), (2, .ref (v 2)), (3, .ref (v 3)), (4, .ref (v 4)), (5, .int (nI i)), (6, .int (nI dr))]) hC hm (by decide) rfl dL_serves_50 ?_
      refine z_al (pc := 52) hC 6 rfl dL_serves_52 ?_
      refine z_iconst (pc := 54) (v := 3) hC dL_serves_54 (by decide) ?_
      refine z_dup2 (pc := 55) hC rfl rfl dL_serves_55 ?_
      refine z_iald (pc := 56) hC 4 rfl dL_serves_56 3 rfl (by omega) (by decide) ?_
      refine z_is_ (y := R 14 3) rfl ?_
      refine z_il (pc := 57) hC 0 rfl dL_serves_57 ?_
      refine z_ifeq (pc := 59) hC 66 (by decide) dL_serves_59 (fun c59 => ?_) (fun c59 => absurd c59 (by decide))
      refine z_iconst (pc := 66) (v := 0) hC dL_serves_66 (by decide) ?_
      refine z_iadd (pc := 67) (v := (R 14 3) + 0) hC rfl dL_serves_67 ?_
      refine z_iast (pc := 68) (ws' := lgW g.2 v (setS (setS R 14 2 ((R 14 2) + 1)) 14 3 ((R 14 3) + 0))) hC 4 rfl dL_serves_68 3 rfl (by omega) (by decide) lg_N ?_
      refine z_w (ws' := lgW g.2 v (setS R 14 2 (R 14 2 + 1))) (congrArg (lgW g.2 v) (setS_id (i32_add0 _))) ?_
      refine z_aln (pc := 69) hC 2 rfl dL_serves_69 ?_
      refine z_iconst (pc := 70) (v := nI 3) hC dL_serves_70 (by decide) ?_
      refine z_il (pc := 71) hC 1 rfl dL_serves_71 ?_
      refine z_imul (pc := 73) (v := nI (3 * r)) hC (pk_mul _ _) dL_serves_73 ?_
      refine z_iconst (pc := 74) (v := nI 2) hC dL_serves_74 (by decide) ?_
      refine z_iadd (pc := 75) (v := nI (3 * r + 2)) hC (nI_add _ _) dL_serves_75 ?_
      refine z_il (pc := 76) hC 0 rfl dL_serves_76 ?_
      refine z_ifeq (pc := 78) hC 92 (by decide) dL_serves_78 (fun c78 => ?_) (fun c78 => absurd c78 (by decide))
      refine z_aln (pc := 92) hC 4 rfl dL_serves_92 ?_
      refine z_iconst (pc := 93) (v := nI 4) hC dL_serves_93 (by decide) ?_
      refine z_il (pc := 94) hC 7 rfl dL_serves_94 ?_
      refine z_imul (pc := 96) (v := nI (4 * i)) hC (pk_mul _ _) dL_serves_96 ?_
      refine z_iald (pc := 97) hC 2 rfl dL_serves_97 (4 * i + 0) rfl (by omega) (by decide) ?_
      refine z_is_ (y := (setS R 14 2 (R 14 2 + 1)) 6 i) (fJ_at (by decide) _) ?_
      refine z_is_ (y := R 6 i) rfl ?_
      refine z_ifle (pc := 98) hC 105 (by decide) dL_serves_98 (fun c98 => ?_) (fun c98 => ?_)
      · refine z_iconst (pc := 105) (v := 0) hC dL_serves_105 (by decide) ?_
        refine z_iast (pc := 106) (ws' := lgW g.2 v (setS (setS R 14 2 (R 14 2 + 1)) 2 r 0)) hC 0 rfl dL_serves_106 (3 * r + 2) rfl (by omega) (by decide) (lg_A (by decide)) ?_
        refine z_w (ws' := lgW g.2 v (setS (setS R 14 2 (R 14 2 + 1)) 2 r (if R 6 i = 0 then 0 else 1))) (congrArg (lgW g.2 v) (by rw [if_pos ((kd_pos hk).mp c98)])) ?_
        refine z_lv (lv' := [(0, .ref (v 0)), (1, .ref (v 1)), (2, .ref (v 2)), (3, .ref (v 3)), (4, .ref (v 4)), (5, .int (nI i)), (6, .int (nI dr)), (7, .int (nI r))]) [2, 3, 4, 5, 6, 7, 8, 1] rfl ?_
        exact tail _ (srv_L0 hs hf hr) hk (by rw [setS_eq]; split <;> simp)
      · refine z_iconst (pc := 101) (v := 1) hC dL_serves_101 (by decide) ?_
        refine z_goto (pc := 102) hC 106 (by decide) dL_serves_102 ?_
        refine z_iast (pc := 106) (ws' := lgW g.2 v (setS (setS R 14 2 (R 14 2 + 1)) 2 r 1)) hC 0 rfl dL_serves_106 (3 * r + 2) rfl (by omega) (by decide) (lg_A (by decide)) ?_
        refine z_w (ws' := lgW g.2 v (setS (setS R 14 2 (R 14 2 + 1)) 2 r (if R 6 i = 0 then 0 else 1))) (congrArg (lgW g.2 v) (by rw [if_neg (fun e => c98 ((kd_pos hk).mpr e))])) ?_
        refine z_lv (lv' := [(0, .ref (v 0)), (1, .ref (v 1)), (2, .ref (v 2)), (3, .ref (v 3)), (4, .ref (v 4)), (5, .int (nI i)), (6, .int (nI dr)), (7, .int (nI r))]) [2, 3, 4, 5, 6, 7, 8, 1] rfl ?_
        exact tail _ (srv_L0 hs hf hr) hk (by rw [setS_eq]; split <;> simp)
  · have hc0 : ¬ R 14 8 = 0 := by simp only [slp, Bool.and_eq_true, decide_eq_true_eq] at hs; exact hs.1
    have hrem : R 14 2 + 1 - (R 14 2 + 1) / R 14 8 * R 14 8 = 0 := by simp only [slp, Bool.and_eq_true, decide_eq_true_eq] at hs; exact hs.2
    have hc1 : ¬ R 14 8 ≤ 0 := fun e => hc0 (Int32.le_antisymm e hK.2.2)
    refine z_al (pc := 24) hC 5 rfl dL_serves_24 ?_
    refine z_bipush (pc := 26) (v := 8) hC dL_serves_26 (by decide) ?_
    refine z_iald (pc := 28) hC 4 rfl dL_serves_28 8 rfl (by omega) (by decide) ?_
    refine z_is_ (y := R 14 8) rfl ?_
    refine z_ifle (pc := 29) hC 49 (by decide) dL_serves_29 (fun c29 => absurd c29 hc1) (fun c29 => ?_)
    refine z_al (pc := 32) hC 5 rfl dL_serves_32 ?_
    refine z_iconst (pc := 34) (v := 2) hC dL_serves_34 (by decide) ?_
    refine z_iald (pc := 35) hC 4 rfl dL_serves_35 2 rfl (by omega) (by decide) ?_
    refine z_is_ (y := R 14 2 + 1) (setS_eq R 14 2 _) ?_
    refine z_al (pc := 36) hC 5 rfl dL_serves_36 ?_
    refine z_bipush (pc := 38) (v := 8) hC dL_serves_38 (by decide) ?_
    refine z_iald (pc := 40) hC 4 rfl dL_serves_40 8 rfl (by omega) (by decide) ?_
    refine z_is_ (y := R 14 8) rfl ?_
    refine z_irem (pc := 41) (v := (R 14 2 + 1) - (R 14 2 + 1) / (R 14 8) * (R 14 8)) hC hc0 rfl dL_serves_41 ?_
    refine z_ifne (pc := 42) hC 49 (by decide) dL_serves_42 (fun c42 => absurd hrem c42) (fun c42 => ?_)
    refine z_iconst (pc := 45) (v := 1) hC dL_serves_45 (by decide) ?_
    refine z_goto (pc := 46) hC 50 (by decide) dL_serves_46 ?_
    refine z_is (pc := 50) (lv' := [(8, .int 1), (7, .int (nI r)), (0, .ref (v 0)), (1, .ref (v 1)), (2, .ref (v 2)), (3, .ref (v 3)), (4, .ref (v 4)), (5, .int (nI i)), (6, .int (nI dr))]) hC hm (by decide) rfl dL_serves_50 ?_
    refine z_al (pc := 52) hC 6 rfl dL_serves_52 ?_
    refine z_iconst (pc := 54) (v := 3) hC dL_serves_54 (by decide) ?_
    refine z_dup2 (pc := 55) hC rfl rfl dL_serves_55 ?_
    refine z_iald (pc := 56) hC 4 rfl dL_serves_56 3 rfl (by omega) (by decide) ?_
    refine z_is_ (y := R 14 3) rfl ?_
    refine z_il (pc := 57) hC 0 rfl dL_serves_57 ?_
    refine z_ifeq (pc := 59) hC 66 (by decide) dL_serves_59 (fun c59 => absurd c59 (by decide)) (fun c59 => ?_)
    refine z_iconst (pc := 62) (v := 1) hC dL_serves_62 (by decide) ?_
    refine z_goto (pc := 63) hC 67 (by decide) dL_serves_63 ?_
    refine z_iadd (pc := 67) (v := (R 14 3) + 1) hC rfl dL_serves_67 ?_
    refine z_iast (pc := 68) (ws' := lgW g.2 v (setS (setS R 14 2 ((R 14 2) + 1)) 14 3 ((R 14 3) + 1))) hC 4 rfl dL_serves_68 3 rfl (by omega) (by decide) lg_N ?_
    refine z_aln (pc := 69) hC 2 rfl dL_serves_69 ?_
    refine z_iconst (pc := 70) (v := nI 3) hC dL_serves_70 (by decide) ?_
    refine z_il (pc := 71) hC 1 rfl dL_serves_71 ?_
    refine z_imul (pc := 73) (v := nI (3 * r)) hC (pk_mul _ _) dL_serves_73 ?_
    refine z_iconst (pc := 74) (v := nI 2) hC dL_serves_74 (by decide) ?_
    refine z_iadd (pc := 75) (v := nI (3 * r + 2)) hC (nI_add _ _) dL_serves_75 ?_
    refine z_il (pc := 76) hC 0 rfl dL_serves_76 ?_
    refine z_ifeq (pc := 78) hC 92 (by decide) dL_serves_78 (fun c78 => absurd c78 (by decide)) (fun c78 => ?_)
    refine z_aln (pc := 81) hC 2 rfl dL_serves_81 ?_
    refine z_iconst (pc := 82) (v := nI 3) hC dL_serves_82 (by decide) ?_
    refine z_il (pc := 83) hC 1 rfl dL_serves_83 ?_
    refine z_imul (pc := 85) (v := nI (3 * r)) hC (pk_mul _ _) dL_serves_85 ?_
    refine z_iconst (pc := 86) (v := nI 2) hC dL_serves_86 (by decide) ?_
    refine z_iadd (pc := 87) (v := nI (3 * r + 2)) hC (nI_add _ _) dL_serves_87 ?_
    refine z_iald (pc := 88) hC 0 rfl dL_serves_88 (3 * r + 2) rfl (by omega) (by decide) ?_
    refine z_is_ (y := (setS (setS R 14 2 ((R 14 2) + 1)) 14 3 ((R 14 3) + 1)) 2 r) (fA_at (by decide) _) ?_
    refine z_is_ (y := R 2 r) rfl ?_
    refine z_goto (pc := 89) hC 106 (by decide) dL_serves_89 ?_
    refine z_iast (pc := 106) (ws' := lgW g.2 v (setS (setS (setS R 14 2 ((R 14 2) + 1)) 14 3 ((R 14 3) + 1)) 2 r (R 2 r))) hC 0 rfl dL_serves_106 (3 * r + 2) rfl (by omega) (by decide) (lg_A (by decide)) ?_
    refine z_w (ws' := lgW g.2 v (setS (setS R 14 2 (R 14 2 + 1)) 14 3 (R 14 3 + 1))) (congrArg (lgW g.2 v) (setS_id rfl)) ?_
    refine z_lv (lv' := [(0, .ref (v 0)), (1, .ref (v 1)), (2, .ref (v 2)), (3, .ref (v 3)), (4, .ref (v 4)), (5, .int (nI i)), (6, .int (nI dr)), (7, .int (nI r))]) [2, 3, 4, 5, 6, 7, 8, 1] rfl ?_
    exact tail _ (srv_L1 hs hf hr) hk hr2

theorem on_lt {R : St} {x : Int32} (h : onDr R x < 0) : onDr R x = -1 := by
  rcases lst_spec (fun r => decide (R 5 r = x)) 12 with ⟨h1, -⟩ | ⟨r, h1, h2, -⟩
  · exact h1
  · have h2 : onDr R x = nI r := h2
    rw [h2] at h; exact absurd h (nI_pos (by omega))
theorem on_ge {R : St} {x : Int32} (h : 0 ≤ onDr R x) : ¬ onDr R x = -1 := fun e => by rw [e] at h; exact absurd h (by decide)
theorem nxt_lt {R : St} {n : Nat} (hn : n ≤ 12) (h : nxt R n < 0) : nxt R n = -1 := by
  apply Classical.byContradiction
  intro e
  obtain ⟨q, hq, he, -⟩ := nxt_ok e
  rw [he] at h; exact nI_pos (by omega) h
theorem i32_99 {x : Int32} (h : x ≤ 99) (h1 : ¬ x = 99) : x < 99 := by
  rcases Int32.lt_or_eq_of_le h with q | q
  · exact q
  · exact absurd q h1
theorem toff_L {R : St} {j r : Nat} : setS (setS R 12 j (-1)) 5 r (-1) = toff R j r := by
  unfold toff; exact setS_comm _ _ _ (Or.inl (by decide))
theorem blk_L {R : St} {j r : Nat} : setS (setS (setS R 14 6 (R 14 6 + 1)) 4 r (R 4 r + 1)) 11 j (R 11 j + 1) = setS (setS (setS R 4 r (R 4 r + 1)) 14 6 (R 14 6 + 1)) 11 j (R 11 j + 1) := by
  rw [setS_comm R _ _ (Or.inl (by decide))]

set_option maxRecDepth 100000 in
set_option maxHeartbeats 4000000 in
theorem l_minutes {g : zG} {v : Nat → Nat} {R : St} {n : Nat} (hI : Inv R n) (hK : KI R n) : Gi g yL_minutes cL_minutes 8 .int 3 [.ref (v 0), .ref (v 1), .ref (v 2), .ref (v 3), .ref (v 4)] (lgW g.2 v R) ((minu R n).2) (lgW g.2 v ((minu R n).1)) := by
  refine fi_entry (by decide) (Nat.le_of_ble_eq_true rfl) (fun C hC hm hE => ?_)
  have hn := hI.1
  have fin : ∀ (Q : St) (y : Int32), Inv Q n → KI Q n → sstep Q n = (minu R n).1 → y = (minu R n).2 → Z g C 0 0 (lgW g.2 v Q) [(5, .int y), (0, .ref (v 0)), (1, .ref (v 1)), (2, .ref (v 2)), (3, .ref (v 3)), (4, .ref (v 4))] 238 [] := by
    intro Q y hIQ hKQ hS hy
    have stop : ∀ d : Nat, Z g C 0 0 (lgW g.2 v (sstep Q n)) [(7, .int (nI d)), (6, .int (-1)), (5, .int y), (0, .ref (v 0)), (1, .ref (v 1)), (2, .ref (v 2)), (3, .ref (v 3)), (4, .ref (v 4))] 252 [] := by
      intro d
      refine z_il (pc := 252) hC 0 rfl dL_minutes_252 ?_
      refine z_iconst (pc := 254) (v := nI 3) hC dL_minutes_254 (by decide) ?_
      refine z_icge (pc := 255) hC 294 (by decide) dL_minutes_255 (fun c255 => ?_) (fun c255 => ?_)
      · refine z_il (pc := 294) hC 2 rfl dL_minutes_294 ?_
        exact hE _ _ _ () _ _ _ dL_minutes_296 rfl hy (congrArg (lgW g.2 v) hS) (Nat.zero_le _) (Nat.zero_le _)
      · refine z_il (pc := 258) hC 1 rfl dL_minutes_258 ?_
        refine z_iflt (pc := 260) hC 294 (by decide) dL_minutes_260 (fun c260 => ?_) (fun c260 => absurd c260 (by decide))
        refine z_il (pc := 294) hC 2 rfl dL_minutes_294 ?_
        exact hE _ _ _ () _ _ _ dL_minutes_296 rfl hy (congrArg (lgW g.2 v) hS) (Nat.zero_le _) (Nat.zero_le _)
    have dl : ∀ k d : Nat, d + k = 3 → (∀ e, e < d → (fun e => decide (onDr Q (nI e) = -1)) e = false) → Z g C 0 0 (lgW g.2 v Q) [(7, .int (nI d)), (6, .int (nxt Q n)), (5, .int y), (0, .ref (v 0)), (1, .ref (v 1)), (2, .ref (v 2)), (3, .ref (v 3)), (4, .ref (v 4))] 252 [] := by
      intro k
      induction k with
      | zero =>
        intro d hm2 hp
        refine z_il (pc := 252) hC 0 rfl dL_minutes_252 ?_
        refine z_iconst (pc := 254) (v := nI 3) hC dL_minutes_254 (by decide) ?_
        refine z_icge (pc := 255) hC 294 (by decide) dL_minutes_255 (fun c255 => ?_) (fun c255 => absurd (nI_le (by omega) (by omega)) c255)
        refine z_il (pc := 294) hC 2 rfl dL_minutes_294 ?_
        exact hE _ _ _ () _ _ _ dL_minutes_296 rfl hy (congrArg (lgW g.2 v) ((sstep_0 (Or.inr (fst_miss (by rw [show (3 : Nat) = d by omega]; exact hp)))).symm.trans hS)) (Nat.zero_le _) (Nat.zero_le _)
      | succ k ih =>
        intro d hm2 hp
        refine z_il (pc := 252) hC 0 rfl dL_minutes_252 ?_
        refine z_iconst (pc := 254) (v := nI 3) hC dL_minutes_254 (by decide) ?_
        refine z_icge (pc := 255) hC 294 (by decide) dL_minutes_255 (fun c255 => absurd c255 (nI_ge (by omega) (by omega))) (fun c255 => ?_)
        refine z_il (pc := 258) hC 1 rfl dL_minutes_258 ?_
        refine z_iflt (pc := 260) hC 294 (by decide) dL_minutes_260 (fun c260 => ?_) (fun c260 => ?_)
        · refine z_il (pc := 294) hC 2 rfl dL_minutes_294 ?_
          exact hE _ _ _ () _ _ _ dL_minutes_296 rfl hy (congrArg (lgW g.2 v) ((sstep_0 (Or.inl (nxt_lt hIQ.1 c260))).symm.trans hS)) (Nat.zero_le _) (Nat.zero_le _)
        · obtain ⟨q, hq, he, hq10, hqf⟩ := nxt_ok (fun e : nxt Q n = -1 => c260 (by rw [e]; decide))
          refine z_aln (pc := 263) hC 4 rfl dL_minutes_263 ?_
          refine z_il (pc := 264) hC 0 rfl dL_minutes_264 ?_
          refine z_sg (pc := 266) (rest := []) hC sL_on lL_30 dL_minutes_266 (l_on hIQ.2.2.2.2 (nI_ne (by omega))) (fun w => w) isCtx_id rfl rfl rfl (by decide) (Nat.le_of_ble_eq_true rfl) ⟨Nat.zero_le _, Nat.zero_le _⟩ ?_
          refine z_ifge (pc := 269) hC 288 (by decide) dL_minutes_269 (fun c269 => ?_) (fun c269 => ?_)
          · refine z_iinc (pc := 288) (v := nI (d + 1)) (j := 0) (lv' := [(7, .int (nI (d + 1))), (6, .int (nxt Q n)), (5, .int y), (0, .ref (v 0)), (1, .ref (v 1)), (2, .ref (v 2)), (3, .ref (v 3)), (4, .ref (v 4))]) hC hm (by decide) rfl (up_step _) rfl dL_minutes_288 ?_
            refine z_goto (pc := 291) hC 252 (by decide) dL_minutes_291 ?_
            refine z_lv [0, 1, 2, 3, 4, 5, 6, 7] rfl ?_
            exact ih (d + 1) (by omega) (all_s hp (by simp [on_ge c269]))
          · have hon := on_lt (Int32.not_le.mp c269)
            have hed : edr Q = nI d := fst_hit hp (by simp [hon]) (by omega)
            refine z_aln (pc := 272) hC 3 rfl dL_minutes_272 ?_
            refine z_aln (pc := 273) hC 4 rfl dL_minutes_273 ?_
            refine z_aln (pc := 274) hC 5 rfl dL_minutes_274 ?_
            refine z_aln (pc := 275) hC 6 rfl dL_minutes_275 ?_
            refine z_al (pc := 276) hC 7 rfl dL_minutes_276 ?_
            refine z_il (pc := 278) hC 1 rfl dL_minutes_278 ?_
            refine z_is_ (y := nI q) he ?_
            refine z_il (pc := 280) hC 0 rfl dL_minutes_280 ?_
            refine z_sgv (pc := 282) (rest := []) hC sL_serves lL_34 dL_minutes_282 (l_serves hIQ hKQ hq hqf) (fun w => w) isCtx_id rfl rfl rfl (by decide) (Nat.le_of_ble_eq_true rfl) ⟨Nat.zero_le _, Nat.zero_le _⟩ ?_
            refine z_w (ws' := lgW g.2 v (sstep Q n)) (congrArg (lgW g.2 v) (by rw [sstep_1 (fun e => nI_ne (by omega) (he.symm.trans e)) (by rw [hed]; exact nI_ne (by omega)) he (by omega), hed])) ?_
            refine z_iconst (pc := 285) (v := -1) hC dL_minutes_285 (by decide) ?_
            refine z_is (pc := 286) (lv' := [(6, .int (-1)), (7, .int (nI d)), (5, .int y), (0, .ref (v 0)), (1, .ref (v 1)), (2, .ref (v 2)), (3, .ref (v 3)), (4, .ref (v 4))]) hC hm (by decide) rfl dL_minutes_286 ?_
            refine z_iinc (pc := 288) (v := nI (d + 1)) (j := 1) (lv' := [(7, .int (nI (d + 1))), (6, .int (-1)), (5, .int y), (0, .ref (v 0)), (1, .ref (v 1)), (2, .ref (v 2)), (3, .ref (v 3)), (4, .ref (v 4))]) hC hm (by decide) rfl (up_step _) rfl dL_minutes_288 ?_
            refine z_goto (pc := 291) hC 252 (by decide) dL_minutes_291 ?_
            refine z_lv (lv' := [(7, .int (nI (d + 1))), (6, .int (-1)), (5, .int y), (0, .ref (v 0)), (1, .ref (v 1)), (2, .ref (v 2)), (3, .ref (v 3)), (4, .ref (v 4))]) [0, 1, 2, 3, 4, 5, 6, 7] rfl ?_
            exact stop (d + 1)
    refine z_aln (pc := 238) hC 1 rfl dL_minutes_238 ?_
    refine z_aln (pc := 239) hC 2 rfl dL_minutes_239 ?_
    refine z_aln (pc := 240) hC 3 rfl dL_minutes_240 ?_
    refine z_aln (pc := 241) hC 4 rfl dL_minutes_241 ?_
    refine z_al (pc := 242) hC 5 rfl dL_minutes_242 ?_
    refine z_sg (pc := 244) (rest := []) hC sL_next lL_26 dL_minutes_244 (l_next hIQ hKQ) (fun w => w) isCtx_id rfl rfl rfl (by decide) (Nat.le_of_ble_eq_true rfl) ⟨Nat.zero_le _, Nat.zero_le _⟩ ?_
    refine z_is (pc := 247) (lv' := [(6, .int (nxt Q n)), (5, .int y), (0, .ref (v 0)), (1, .ref (v 1)), (2, .ref (v 2)), (3, .ref (v 3)), (4, .ref (v 4))]) hC hm (by decide) rfl dL_minutes_247 ?_
    refine z_iconst (pc := 249) (v := nI 0) hC dL_minutes_249 (by decide) ?_
    refine z_is (pc := 250) (lv' := [(7, .int (nI 0)), (6, .int (nxt Q n)), (5, .int y), (0, .ref (v 0)), (1, .ref (v 1)), (2, .ref (v 2)), (3, .ref (v 3)), (4, .ref (v 4))]) hC hm (by decide) rfl dL_minutes_250 ?_
    refine z_lv (lv' := [(7, .int (nI 0)), (6, .int (nxt Q n)), (5, .int y), (0, .ref (v 0)), (1, .ref (v 1)), (2, .ref (v 2)), (3, .ref (v 3)), (4, .ref (v 4))]) [0, 1, 2, 3, 4, 5, 6, 7] rfl ?_
    exact dl 3 0 rfl (fun j h => absurd h (Nat.not_lt_zero j))
  have loop : ∀ (k m : Nat) (Q : St) (y : Int32), m + k = n → Inv Q n → KI Q n → jl m k (Q, y) = jl 0 n (setS R 14 1 (R 14 1 + 1), 0) → Z g C 0 0 (lgW g.2 v Q) [(5, .int y), (6, .int (nI m)), (0, .ref (v 0)), (1, .ref (v 1)), (2, .ref (v 2)), (3, .ref (v 3)), (4, .ref (v 4))] 14 [] := by
    intro k
    induction k with
    | zero =>
      intro m Q y hm2 hIQ hKQ he
      have e1 : (jl 0 n (setS R 14 1 (R 14 1 + 1), 0)).1 = Q := by rw [← he]; rfl
      have e2 : (jl 0 n (setS R 14 1 (R 14 1 + 1), 0)).2 = y := by rw [← he]; rfl
      refine z_il (pc := 14) hC 1 rfl dL_minutes_14 ?_
      refine z_al (pc := 16) hC 6 rfl dL_minutes_16 ?_
      refine z_bipush (pc := 18) (v := 10) hC dL_minutes_18 (by decide) ?_
      refine z_iald (pc := 20) hC 4 rfl dL_minutes_20 10 rfl (by omega) (by decide) ?_
      refine z_is_ (y := nI n) hIQ.2.1 ?_
      refine z_icge (pc := 21) hC 238 (by decide) dL_minutes_21 (fun c21 => ?_) (fun c21 => absurd (nI_le (by omega) (by omega)) c21)
      refine z_lv (lv' := [(5, .int y), (0, .ref (v 0)), (1, .ref (v 1)), (2, .ref (v 2)), (3, .ref (v 3)), (4, .ref (v 4))]) [0, 2, 3, 4, 5, 6] rfl ?_
      exact fin Q y hIQ hKQ (by rw [← e1]; exact minu_L1) (by rw [← e2]; exact minu_L2)
    | succ k ih =>
      intro m Q y hm2 hIQ hKQ he
      have hm12 : m < 12 := by omega
      have hkQ := (hKQ.1 m (by omega)).1
      refine z_il (pc := 14) hC 1 rfl dL_minutes_14 ?_
      refine z_al (pc := 16) hC 6 rfl dL_minutes_16 ?_
      refine z_bipush (pc := 18) (v := 10) hC dL_minutes_18 (by decide) ?_
      refine z_iald (pc := 20) hC 4 rfl dL_minutes_20 10 rfl (by omega) (by decide) ?_
      refine z_is_ (y := nI n) hIQ.2.1 ?_
      refine z_icge (pc := 21) hC 238 (by decide) dL_minutes_21 (fun c21 => absurd c21 (nI_ge (by omega) (by omega))) (fun c21 => ?_)
      refine z_aln (pc := 24) hC 5 rfl dL_minutes_24 ?_
      refine z_iconst (pc := 25) (v := nI 4) hC dL_minutes_25 (by decide) ?_
      refine z_il (pc := 26) hC 1 rfl dL_minutes_26 ?_
      refine z_imul (pc := 28) (v := nI (4 * m)) hC (pk_mul _ _) dL_minutes_28 ?_
      refine z_iald (pc := 29) hC 3 rfl dL_minutes_29 (4 * m + 0) rfl (by omega) (by decide) ?_
      refine z_is_ (y := Q 10 m) (fK_at (by decide) _) ?_
      refine z_iconst (pc := 30) (v := 1) hC dL_minutes_30 (by decide) ?_
      refine z_icne (pc := 31) hC 232 (by decide) dL_minutes_31 (fun c31 => ?_) (fun c31 => ?_)
      · refine z_iinc (pc := 232) (v := nI (m + 1)) (j := 1) (lv' := [(6, .int (nI (m + 1))), (5, .int y), (0, .ref (v 0)), (1, .ref (v 1)), (2, .ref (v 2)), (3, .ref (v 3)), (4, .ref (v 4))]) hC hm (by decide) rfl (up_step _) rfl dL_minutes_232 ?_
        refine z_goto (pc := 235) hC 14 (by decide) dL_minutes_235 ?_
        refine z_lv [1, 0, 2, 3, 4, 5, 6] rfl ?_
        exact ih (m + 1) (Q) (y) (by omega) (by have := inv_stp hIQ (show m < n by omega); rw [(stp_0 c31)] at this; exact this) (by have := ki_stp (j := m) hKQ; rw [(stp_0 c31)] at this; exact this) (jl_step (stp_0 c31) (Int32.add_zero y) he)
      · obtain ⟨r, hr, hr12⟩ := (hIQ.2.2.1 m (by omega)).1 c31
        have h99 := (hIQ.2.2.2.1 r hr).2
        refine z_aln (pc := 34) hC 5 rfl dL_minutes_34 ?_
        refine z_iconst (pc := 35) (v := nI 4) hC dL_minutes_35 (by decide) ?_
        refine z_il (pc := 36) hC 1 rfl dL_minutes_36 ?_
        refine z_imul (pc := 38) (v := nI (4 * m)) hC (pk_mul _ _) dL_minutes_38 ?_
        refine z_iconst (pc := 39) (v := nI 2) hC dL_minutes_39 (by decide) ?_
        refine z_iadd (pc := 40) (v := nI (4 * m + 2)) hC (nI_add _ _) dL_minutes_40 ?_
        refine z_iald (pc := 41) hC 3 rfl dL_minutes_41 (4 * m + 2) rfl (by omega) (by decide) ?_
        refine z_is_ (y := Q 12 m) (fK_at (by decide) _) ?_
        refine z_is_ (y := nI r) hr12 ?_
        refine z_is (pc := 42) (lv' := [(7, .int (nI r)), (5, .int y), (6, .int (nI m)), (0, .ref (v 0)), (1, .ref (v 1)), (2, .ref (v 2)), (3, .ref (v 3)), (4, .ref (v 4))]) hC hm (by decide) rfl dL_minutes_42 ?_
        have tail : Z g C 0 0 (lgW g.2 v (blk Q m r)) [(5, .int y), (6, .int (nI m)), (0, .ref (v 0)), (1, .ref (v 1)), (2, .ref (v 2)), (3, .ref (v 3)), (4, .ref (v 4)), (7, .int (nI r))] 185 [] := by
          refine z_aln (pc := 185) hC 5 rfl dL_minutes_185 ?_
          refine z_iconst (pc := 186) (v := nI 4) hC dL_minutes_186 (by decide) ?_
          refine z_il (pc := 187) hC 1 rfl dL_minutes_187 ?_
          refine z_imul (pc := 189) (v := nI (4 * m)) hC (pk_mul _ _) dL_minutes_189 ?_
          refine z_iconst (pc := 190) (v := nI 1) hC dL_minutes_190 (by decide) ?_
          refine z_iadd (pc := 191) (v := nI (4 * m + 1)) hC (nI_add _ _) dL_minutes_191 ?_
          refine z_iald (pc := 192) hC 3 rfl dL_minutes_192 (4 * m + 1) rfl (by omega) (by decide) ?_
          refine z_is_ (y := (blk Q m r) 11 m) (fK_at (by decide) _) ?_
          refine z_is_ (y := Q 11 m + 1) blk_11 ?_
          refine z_aln (pc := 193) hC 4 rfl dL_minutes_193 ?_
          refine z_iconst (pc := 194) (v := nI 4) hC dL_minutes_194 (by decide) ?_
          refine z_il (pc := 195) hC 1 rfl dL_minutes_195 ?_
          refine z_imul (pc := 197) (v := nI (4 * m)) hC (pk_mul _ _) dL_minutes_197 ?_
          refine z_iconst (pc := 198) (v := nI 2) hC dL_minutes_198 (by decide) ?_
          refine z_iadd (pc := 199) (v := nI (4 * m + 2)) hC (nI_add _ _) dL_minutes_199 ?_
          refine z_iald (pc := 200) hC 2 rfl dL_minutes_200 (4 * m + 2) rfl (by omega) (by decide) ?_
          refine z_is_ (y := (blk Q m r) 8 m) (fJ_at (by decide) _) ?_
          refine z_is_ (y := Q 8 m) (blk_c (by decide) (by decide) (by decide)) ?_
          refine z_icne (pc := 201) hC 232 (by decide) dL_minutes_201 (fun c201 => ?_) (fun c201 => ?_)
          · refine z_iinc (pc := 232) (v := nI (m + 1)) (j := 1) (lv' := [(6, .int (nI (m + 1))), (5, .int y), (0, .ref (v 0)), (1, .ref (v 1)), (2, .ref (v 2)), (3, .ref (v 3)), (4, .ref (v 4)), (7, .int (nI r))]) hC hm (by decide) rfl (up_step _) rfl dL_minutes_232 ?_
            refine z_goto (pc := 235) hC 14 (by decide) dL_minutes_235 ?_
            refine z_lv [1, 0, 2, 3, 4, 5, 6] rfl ?_
            exact ih (m + 1) (blk Q m r) (y) (by omega) (by have := inv_stp hIQ (show m < n by omega); rw [(stp_1 c31 hr hr12 c201)] at this; exact this) (by have := ki_stp (j := m) hKQ; rw [(stp_1 c31 hr hr12 c201)] at this; exact this) (jl_step (stp_1 c31 hr hr12 c201) (Int32.add_zero y) he)
          · refine z_aln (pc := 204) hC 5 rfl dL_minutes_204 ?_
            refine z_iconst (pc := 205) (v := nI 4) hC dL_minutes_205 (by decide) ?_
            refine z_il (pc := 206) hC 1 rfl dL_minutes_206 ?_
            refine z_imul (pc := 208) (v := nI (4 * m)) hC (pk_mul _ _) dL_minutes_208 ?_
            refine z_iconst (pc := 209) (v := 2) hC dL_minutes_209 (by decide) ?_
            refine z_iast (pc := 210) (ws' := lgW g.2 v (setS (blk Q m r) 10 m 2)) hC 3 rfl dL_minutes_210 (4 * m + 0) rfl (by omega) (by decide) (lg_K (by decide)) ?_
            refine z_aln (pc := 211) hC 5 rfl dL_minutes_211 ?_
            refine z_iconst (pc := 212) (v := nI 4) hC dL_minutes_212 (by decide) ?_
            refine z_il (pc := 213) hC 1 rfl dL_minutes_213 ?_
            refine z_imul (pc := 215) (v := nI (4 * m)) hC (pk_mul _ _) dL_minutes_215 ?_
            refine z_iconst (pc := 216) (v := nI 2) hC dL_minutes_216 (by decide) ?_
            refine z_iadd (pc := 217) (v := nI (4 * m + 2)) hC (nI_add _ _) dL_minutes_217 ?_
            refine z_iconst (pc := 218) (v := -1) hC dL_minutes_218 (by decide) ?_
            refine z_iast (pc := 219) (ws' := lgW g.2 v (setS (setS (blk Q m r) 10 m 2) 12 m (-1))) hC 3 rfl dL_minutes_219 (4 * m + 2) rfl (by omega) (by decide) (lg_K (by decide)) ?_
            refine z_aln (pc := 220) hC 3 rfl dL_minutes_220 ?_
            refine z_iconst (pc := 221) (v := nI 3) hC dL_minutes_221 (by decide) ?_
            refine z_il (pc := 222) hC 7 rfl dL_minutes_222 ?_
            refine z_imul (pc := 224) (v := nI (3 * r)) hC (pk_mul _ _) dL_minutes_224 ?_
            refine z_iconst (pc := 225) (v := nI 2) hC dL_minutes_225 (by decide) ?_
            refine z_iadd (pc := 226) (v := nI (3 * r + 2)) hC (nI_add _ _) dL_minutes_226 ?_
            refine z_iconst (pc := 227) (v := -1) hC dL_minutes_227 (by decide) ?_
            refine z_iast (pc := 228) (ws' := lgW g.2 v (setS (setS (setS (blk Q m r) 10 m 2) 12 m (-1)) 5 r (-1))) hC 1 rfl dL_minutes_228 (3 * r + 2) rfl (by omega) (by decide) (lg_B (by decide)) ?_
            refine z_w (ws' := lgW g.2 v (toff (setS (blk Q m r) 10 m 2) m r)) (congrArg (lgW g.2 v) toff_L) ?_
            refine z_iinc (pc := 229) (v := y + 1) (j := 0) (lv' := [(5, .int (y + 1)), (6, .int (nI m)), (0, .ref (v 0)), (1, .ref (v 1)), (2, .ref (v 2)), (3, .ref (v 3)), (4, .ref (v 4)), (7, .int (nI r))]) hC hm (by decide) rfl (by rw [ofInt_1]) rfl dL_minutes_229 ?_
            refine z_iinc (pc := 232) (v := nI (m + 1)) (j := 1) (lv' := [(6, .int (nI (m + 1))), (5, .int (y + 1)), (0, .ref (v 0)), (1, .ref (v 1)), (2, .ref (v 2)), (3, .ref (v 3)), (4, .ref (v 4)), (7, .int (nI r))]) hC hm (by decide) rfl (up_step _) rfl dL_minutes_232 ?_
            refine z_goto (pc := 235) hC 14 (by decide) dL_minutes_235 ?_
            refine z_lv [1, 0, 2, 3, 4, 5, 6] rfl ?_
            exact ih (m + 1) (toff (setS (blk Q m r) 10 m 2) m r) (y + 1) (by omega) (by have := inv_stp hIQ (show m < n by omega); rw [(stp_2 c31 hr hr12 c201)] at this; exact this) (by have := ki_stp (j := m) hKQ; rw [(stp_2 c31 hr hr12 c201)] at this; exact this) (jl_step (stp_2 c31 hr hr12 c201) rfl he)
        refine z_lv (lv' := [(5, .int y), (6, .int (nI m)), (0, .ref (v 0)), (1, .ref (v 1)), (2, .ref (v 2)), (3, .ref (v 3)), (4, .ref (v 4)), (7, .int (nI r))]) [1, 2, 3, 4, 5, 6, 7, 0] rfl ?_
        by_cases h6 : Q 6 m = 0
        · have h6n : Q 6 m ≤ 0 := (kd_pos hkQ).mpr h6
          refine z_al (pc := 44) hC 6 rfl dL_minutes_44 ?_
          refine z_iconst (pc := 46) (v := 5) hC dL_minutes_46 (by decide) ?_
          refine z_dup2 (pc := 47) hC rfl rfl dL_minutes_47 ?_
          refine z_iald (pc := 48) hC 4 rfl dL_minutes_48 5 rfl (by omega) (by decide) ?_
          refine z_is_ (y := Q 14 5) rfl ?_
          refine z_aln (pc := 49) hC 4 rfl dL_minutes_49 ?_
          refine z_iconst (pc := 50) (v := nI 4) hC dL_minutes_50 (by decide) ?_
          refine z_il (pc := 51) hC 1 rfl dL_minutes_51 ?_
          refine z_imul (pc := 53) (v := nI (4 * m)) hC (pk_mul _ _) dL_minutes_53 ?_
          refine z_iald (pc := 54) hC 2 rfl dL_minutes_54 (4 * m + 0) rfl (by omega) (by decide) ?_
          refine z_is_ (y := Q 6 m) (fJ_at (by decide) _) ?_
          refine z_is_ (y := Q 6 m) rfl ?_
          refine z_ifne (pc := 55) hC 62 (by decide) dL_minutes_55 (fun c55 => absurd h6 c55) (fun c55 => ?_)
          refine z_iconst (pc := 58) (v := 1) hC dL_minutes_58 (by decide) ?_
          refine z_goto (pc := 59) hC 63 (by decide) dL_minutes_59 ?_
          refine z_iadd (pc := 63) (v := (Q 14 5) + 1) hC rfl dL_minutes_63 ?_
          refine z_iast (pc := 64) (ws' := lgW g.2 v (setS Q 14 5 ((Q 14 5) + 1))) hC 4 rfl dL_minutes_64 5 rfl (by omega) (by decide) lg_N ?_
          refine z_al (pc := 65) hC 6 rfl dL_minutes_65 ?_
          refine z_bipush (pc := 67) (v := 6) hC dL_minutes_67 (by decide) ?_
          refine z_dup2 (pc := 69) hC rfl rfl dL_minutes_69 ?_
          refine z_iald (pc := 70) hC 4 rfl dL_minutes_70 6 rfl (by omega) (by decide) ?_
          refine z_is_ (y := Q 14 6) rfl ?_
          refine z_aln (pc := 71) hC 4 rfl dL_minutes_71 ?_
          refine z_iconst (pc := 72) (v := nI 4) hC dL_minutes_72 (by decide) ?_
          refine z_il (pc := 73) hC 1 rfl dL_minutes_73 ?_
          refine z_imul (pc := 75) (v := nI (4 * m)) hC (pk_mul _ _) dL_minutes_75 ?_
          refine z_iald (pc := 76) hC 2 rfl dL_minutes_76 (4 * m + 0) rfl (by omega) (by decide) ?_
          refine z_is_ (y := (setS Q 14 5 ((Q 14 5) + 1)) 6 m) (fJ_at (by decide) _) ?_
          refine z_is_ (y := Q 6 m) rfl ?_
          refine z_ifle (pc := 77) hC 97 (by decide) dL_minutes_77 (fun c77 => ?_) (fun c77 => absurd h6n c77)
          refine z_iconst (pc := 97) (v := 0) hC dL_minutes_97 (by decide) ?_
          refine z_iadd (pc := 98) (v := (Q 14 6) + 0) hC rfl dL_minutes_98 ?_
          refine z_iast (pc := 99) (ws' := lgW g.2 v (setS (setS Q 14 5 ((Q 14 5) + 1)) 14 6 ((Q 14 6) + 0))) hC 4 rfl dL_minutes_99 6 rfl (by omega) (by decide) lg_N ?_
          refine z_w (ws' := lgW g.2 v (setS Q 14 5 (Q 14 5 + 1))) (congrArg (lgW g.2 v) (setS_id (i32_add0 _))) ?_
          refine z_al (pc := 100) hC 6 rfl dL_minutes_100 ?_
          refine z_bipush (pc := 102) (v := 7) hC dL_minutes_102 (by decide) ?_
          refine z_dup2 (pc := 104) hC rfl rfl dL_minutes_104 ?_
          refine z_iald (pc := 105) hC 4 rfl dL_minutes_105 7 rfl (by omega) (by decide) ?_
          refine z_is_ (y := Q 14 7) rfl ?_
          refine z_aln (pc := 106) hC 4 rfl dL_minutes_106 ?_
          refine z_iconst (pc := 107) (v := nI 4) hC dL_minutes_107 (by decide) ?_
          refine z_il (pc := 108) hC 1 rfl dL_minutes_108 ?_
          refine z_imul (pc := 110) (v := nI (4 * m)) hC (pk_mul _ _) dL_minutes_110 ?_
          refine z_iald (pc := 111) hC 2 rfl dL_minutes_111 (4 * m + 0) rfl (by omega) (by decide) ?_
          refine z_is_ (y := (setS Q 14 5 (Q 14 5 + 1)) 6 m) (fJ_at (by decide) _) ?_
          refine z_is_ (y := Q 6 m) rfl ?_
          refine z_ifle (pc := 112) hC 132 (by decide) dL_minutes_112 (fun c112 => ?_) (fun c112 => absurd h6n c112)
          refine z_iconst (pc := 132) (v := 0) hC dL_minutes_132 (by decide) ?_
          refine z_iadd (pc := 133) (v := (Q 14 7) + 0) hC rfl dL_minutes_133 ?_
          refine z_iast (pc := 134) (ws' := lgW g.2 v (setS (setS Q 14 5 (Q 14 5 + 1)) 14 7 ((Q 14 7) + 0))) hC 4 rfl dL_minutes_134 7 rfl (by omega) (by decide) lg_N ?_
          refine z_w (ws' := lgW g.2 v (setS Q 14 5 (Q 14 5 + 1))) (congrArg (lgW g.2 v) (setS_id (i32_add0 _))) ?_
          refine z_aln (pc := 135) hC 3 rfl dL_minutes_135 ?_
          refine z_iconst (pc := 136) (v := nI 3) hC dL_minutes_136 (by decide) ?_
          refine z_il (pc := 137) hC 7 rfl dL_minutes_137 ?_
          refine z_imul (pc := 139) (v := nI (3 * r)) hC (pk_mul _ _) dL_minutes_139 ?_
          refine z_iconst (pc := 140) (v := nI 1) hC dL_minutes_140 (by decide) ?_
          refine z_iadd (pc := 141) (v := nI (3 * r + 1)) hC (nI_add _ _) dL_minutes_141 ?_
          refine z_dup2 (pc := 142) hC rfl rfl dL_minutes_142 ?_
          refine z_iald (pc := 143) hC 1 rfl dL_minutes_143 (3 * r + 1) rfl (by omega) (by decide) ?_
          refine z_is_ (y := (setS Q 14 5 (Q 14 5 + 1)) 4 r) (fB_at (by decide) _) ?_
          refine z_is_ (y := Q 4 r) rfl ?_
          refine z_aln (pc := 144) hC 4 rfl dL_minutes_144 ?_
          refine z_iconst (pc := 145) (v := nI 4) hC dL_minutes_145 (by decide) ?_
          refine z_il (pc := 146) hC 1 rfl dL_minutes_146 ?_
          refine z_imul (pc := 148) (v := nI (4 * m)) hC (pk_mul _ _) dL_minutes_148 ?_
          refine z_iald (pc := 149) hC 2 rfl dL_minutes_149 (4 * m + 0) rfl (by omega) (by decide) ?_
          refine z_is_ (y := (setS Q 14 5 (Q 14 5 + 1)) 6 m) (fJ_at (by decide) _) ?_
          refine z_is_ (y := Q 6 m) rfl ?_
          refine z_ifle (pc := 150) hC 170 (by decide) dL_minutes_150 (fun c150 => ?_) (fun c150 => absurd h6n c150)
          refine z_iconst (pc := 170) (v := 0) hC dL_minutes_170 (by decide) ?_
          refine z_iadd (pc := 171) (v := (Q 4 r) + 0) hC rfl dL_minutes_171 ?_
          refine z_iast (pc := 172) (ws' := lgW g.2 v (setS (setS Q 14 5 (Q 14 5 + 1)) 4 r ((Q 4 r) + 0))) hC 1 rfl dL_minutes_172 (3 * r + 1) rfl (by omega) (by decide) (lg_B (by decide)) ?_
          refine z_w (ws' := lgW g.2 v (setS Q 14 5 (Q 14 5 + 1))) (congrArg (lgW g.2 v) (setS_id (i32_add0 _))) ?_
          refine z_aln (pc := 173) hC 5 rfl dL_minutes_173 ?_
          refine z_iconst (pc := 174) (v := nI 4) hC dL_minutes_174 (by decide) ?_
          refine z_il (pc := 175) hC 1 rfl dL_minutes_175 ?_
          refine z_imul (pc := 177) (v := nI (4 * m)) hC (pk_mul _ _) dL_minutes_177 ?_
          refine z_iconst (pc := 178) (v := nI 1) hC dL_minutes_178 (by decide) ?_
          refine z_iadd (pc := 179) (v := nI (4 * m + 1)) hC (nI_add _ _) dL_minutes_179 ?_
          refine z_dup2 (pc := 180) hC rfl rfl dL_minutes_180 ?_
          refine z_iald (pc := 181) hC 3 rfl dL_minutes_181 (4 * m + 1) rfl (by omega) (by decide) ?_
          refine z_is_ (y := (setS Q 14 5 (Q 14 5 + 1)) 11 m) (fK_at (by decide) _) ?_
          refine z_is_ (y := Q 11 m) rfl ?_
          refine z_iconst (pc := 182) (v := 1) hC dL_minutes_182 (by decide) ?_
          refine z_iadd (pc := 183) (v := (Q 11 m) + 1) hC rfl dL_minutes_183 ?_
          refine z_iast (pc := 184) (ws' := lgW g.2 v (setS (setS Q 14 5 (Q 14 5 + 1)) 11 m ((Q 11 m) + 1))) hC 3 rfl dL_minutes_184 (4 * m + 1) rfl (by omega) (by decide) (lg_K (by decide)) ?_
          refine z_w (ws' := lgW g.2 v (blk Q m r)) (congrArg (lgW g.2 v) (by rw [blk, if_pos h6])) ?_
          exact tail
        · have h6n : ¬ Q 6 m ≤ 0 := fun e => h6 ((kd_pos hkQ).mp e)
          by_cases h4 : Q 4 r = 99
          · have h4n : (99 : Int32) ≤ Q 4 r := by rw [h4]; decide
            refine z_al (pc := 44) hC 6 rfl dL_minutes_44 ?_
            refine z_iconst (pc := 46) (v := 5) hC dL_minutes_46 (by decide) ?_
            refine z_dup2 (pc := 47) hC rfl rfl dL_minutes_47 ?_
            refine z_iald (pc := 48) hC 4 rfl dL_minutes_48 5 rfl (by omega) (by decide) ?_
            refine z_is_ (y := Q 14 5) rfl ?_
            refine z_aln (pc := 49) hC 4 rfl dL_minutes_49 ?_
            refine z_iconst (pc := 50) (v := nI 4) hC dL_minutes_50 (by decide) ?_
            refine z_il (pc := 51) hC 1 rfl dL_minutes_51 ?_
            refine z_imul (pc := 53) (v := nI (4 * m)) hC (pk_mul _ _) dL_minutes_53 ?_
            refine z_iald (pc := 54) hC 2 rfl dL_minutes_54 (4 * m + 0) rfl (by omega) (by decide) ?_
            refine z_is_ (y := Q 6 m) (fJ_at (by decide) _) ?_
            refine z_is_ (y := Q 6 m) rfl ?_
            refine z_ifne (pc := 55) hC 62 (by decide) dL_minutes_55 (fun c55 => ?_) (fun c55 => absurd c55 h6)
            refine z_iconst (pc := 62) (v := 0) hC dL_minutes_62 (by decide) ?_
            refine z_iadd (pc := 63) (v := (Q 14 5) + 0) hC rfl dL_minutes_63 ?_
            refine z_iast (pc := 64) (ws' := lgW g.2 v (setS Q 14 5 ((Q 14 5) + 0))) hC 4 rfl dL_minutes_64 5 rfl (by omega) (by decide) lg_N ?_
            refine z_w (ws' := lgW g.2 v Q) (congrArg (lgW g.2 v) (setS_id (i32_add0 _))) ?_
            refine z_al (pc := 65) hC 6 rfl dL_minutes_65 ?_
            refine z_bipush (pc := 67) (v := 6) hC dL_minutes_67 (by decide) ?_
            refine z_dup2 (pc := 69) hC rfl rfl dL_minutes_69 ?_
            refine z_iald (pc := 70) hC 4 rfl dL_minutes_70 6 rfl (by omega) (by decide) ?_
            refine z_is_ (y := Q 14 6) rfl ?_
            refine z_aln (pc := 71) hC 4 rfl dL_minutes_71 ?_
            refine z_iconst (pc := 72) (v := nI 4) hC dL_minutes_72 (by decide) ?_
            refine z_il (pc := 73) hC 1 rfl dL_minutes_73 ?_
            refine z_imul (pc := 75) (v := nI (4 * m)) hC (pk_mul _ _) dL_minutes_75 ?_
            refine z_iald (pc := 76) hC 2 rfl dL_minutes_76 (4 * m + 0) rfl (by omega) (by decide) ?_
            refine z_is_ (y := Q 6 m) (fJ_at (by decide) _) ?_
            refine z_is_ (y := Q 6 m) rfl ?_
            refine z_ifle (pc := 77) hC 97 (by decide) dL_minutes_77 (fun c77 => absurd c77 h6n) (fun c77 => ?_)
            refine z_aln (pc := 80) hC 3 rfl dL_minutes_80 ?_
            refine z_iconst (pc := 81) (v := nI 3) hC dL_minutes_81 (by decide) ?_
            refine z_il (pc := 82) hC 7 rfl dL_minutes_82 ?_
            refine z_imul (pc := 84) (v := nI (3 * r)) hC (pk_mul _ _) dL_minutes_84 ?_
            refine z_iconst (pc := 85) (v := nI 1) hC dL_minutes_85 (by decide) ?_
            refine z_iadd (pc := 86) (v := nI (3 * r + 1)) hC (nI_add _ _) dL_minutes_86 ?_
            refine z_iald (pc := 87) hC 1 rfl dL_minutes_87 (3 * r + 1) rfl (by omega) (by decide) ?_
            refine z_is_ (y := Q 4 r) (fB_at (by decide) _) ?_
            refine z_is_ (y := Q 4 r) rfl ?_
            refine z_bipush (pc := 88) (v := 99) hC dL_minutes_88 (by decide) ?_
            refine z_icge (pc := 90) hC 97 (by decide) dL_minutes_90 (fun c90 => ?_) (fun c90 => absurd h4n c90)
            refine z_iconst (pc := 97) (v := 0) hC dL_minutes_97 (by decide) ?_
            refine z_iadd (pc := 98) (v := (Q 14 6) + 0) hC rfl dL_minutes_98 ?_
            refine z_iast (pc := 99) (ws' := lgW g.2 v (setS Q 14 6 ((Q 14 6) + 0))) hC 4 rfl dL_minutes_99 6 rfl (by omega) (by decide) lg_N ?_
            refine z_w (ws' := lgW g.2 v Q) (congrArg (lgW g.2 v) (setS_id (i32_add0 _))) ?_
            refine z_al (pc := 100) hC 6 rfl dL_minutes_100 ?_
            refine z_bipush (pc := 102) (v := 7) hC dL_minutes_102 (by decide) ?_
            refine z_dup2 (pc := 104) hC rfl rfl dL_minutes_104 ?_
            refine z_iald (pc := 105) hC 4 rfl dL_minutes_105 7 rfl (by omega) (by decide) ?_
            refine z_is_ (y := Q 14 7) rfl ?_
            refine z_aln (pc := 106) hC 4 rfl dL_minutes_106 ?_
            refine z_iconst (pc := 107) (v := nI 4) hC dL_minutes_107 (by decide) ?_
            refine z_il (pc := 108) hC 1 rfl dL_minutes_108 ?_
            refine z_imul (pc := 110) (v := nI (4 * m)) hC (pk_mul _ _) dL_minutes_110 ?_
            refine z_iald (pc := 111) hC 2 rfl dL_minutes_111 (4 * m + 0) rfl (by omega) (by decide) ?_
            refine z_is_ (y := Q 6 m) (fJ_at (by decide) _) ?_
            refine z_is_ (y := Q 6 m) rfl ?_
            refine z_ifle (pc := 112) hC 132 (by decide) dL_minutes_112 (fun c112 => absurd c112 h6n) (fun c112 => ?_)
            refine z_aln (pc := 115) hC 3 rfl dL_minutes_115 ?_
            refine z_iconst (pc := 116) (v := nI 3) hC dL_minutes_116 (by decide) ?_
            refine z_il (pc := 117) hC 7 rfl dL_minutes_117 ?_
            refine z_imul (pc := 119) (v := nI (3 * r)) hC (pk_mul _ _) dL_minutes_119 ?_
            refine z_iconst (pc := 120) (v := nI 1) hC dL_minutes_120 (by decide) ?_
            refine z_iadd (pc := 121) (v := nI (3 * r + 1)) hC (nI_add _ _) dL_minutes_121 ?_
            refine z_iald (pc := 122) hC 1 rfl dL_minutes_122 (3 * r + 1) rfl (by omega) (by decide) ?_
            refine z_is_ (y := Q 4 r) (fB_at (by decide) _) ?_
            refine z_is_ (y := Q 4 r) rfl ?_
            refine z_bipush (pc := 123) (v := 99) hC dL_minutes_123 (by decide) ?_
            refine z_icne (pc := 125) hC 132 (by decide) dL_minutes_125 (fun c125 => absurd h4 c125) (fun c125 => ?_)
            refine z_iconst (pc := 128) (v := 1) hC dL_minutes_128 (by decide) ?_
            refine z_goto (pc := 129) hC 133 (by decide) dL_minutes_129 ?_
            refine z_iadd (pc := 133) (v := (Q 14 7) + 1) hC rfl dL_minutes_133 ?_
            refine z_iast (pc := 134) (ws' := lgW g.2 v (setS Q 14 7 ((Q 14 7) + 1))) hC 4 rfl dL_minutes_134 7 rfl (by omega) (by decide) lg_N ?_
            refine z_aln (pc := 135) hC 3 rfl dL_minutes_135 ?_
            refine z_iconst (pc := 136) (v := nI 3) hC dL_minutes_136 (by decide) ?_
            refine z_il (pc := 137) hC 7 rfl dL_minutes_137 ?_
            refine z_imul (pc := 139) (v := nI (3 * r)) hC (pk_mul _ _) dL_minutes_139 ?_
            refine z_iconst (pc := 140) (v := nI 1) hC dL_minutes_140 (by decide) ?_
            refine z_iadd (pc := 141) (v := nI (3 * r + 1)) hC (nI_add _ _) dL_minutes_141 ?_
            refine z_dup2 (pc := 142) hC rfl rfl dL_minutes_142 ?_
            refine z_iald (pc := 143) hC 1 rfl dL_minutes_143 (3 * r + 1) rfl (by omega) (by decide) ?_
            refine z_is_ (y := (setS Q 14 7 ((Q 14 7) + 1)) 4 r) (fB_at (by decide) _) ?_
            refine z_is_ (y := Q 4 r) rfl ?_
            refine z_aln (pc := 144) hC 4 rfl dL_minutes_144 ?_
            refine z_iconst (pc := 145) (v := nI 4) hC dL_minutes_145 (by decide) ?_
            refine z_il (pc := 146) hC 1 rfl dL_minutes_146 ?_
            refine z_imul (pc := 148) (v := nI (4 * m)) hC (pk_mul _ _) dL_minutes_148 ?_
            refine z_iald (pc := 149) hC 2 rfl dL_minutes_149 (4 * m + 0) rfl (by omega) (by decide) ?_
            refine z_is_ (y := (setS Q 14 7 ((Q 14 7) + 1)) 6 m) (fJ_at (by decide) _) ?_
            refine z_is_ (y := Q 6 m) rfl ?_
            refine z_ifle (pc := 150) hC 170 (by decide) dL_minutes_150 (fun c150 => absurd c150 h6n) (fun c150 => ?_)
            refine z_aln (pc := 153) hC 3 rfl dL_minutes_153 ?_
            refine z_iconst (pc := 154) (v := nI 3) hC dL_minutes_154 (by decide) ?_
            refine z_il (pc := 155) hC 7 rfl dL_minutes_155 ?_
            refine z_imul (pc := 157) (v := nI (3 * r)) hC (pk_mul _ _) dL_minutes_157 ?_
            refine z_iconst (pc := 158) (v := nI 1) hC dL_minutes_158 (by decide) ?_
            refine z_iadd (pc := 159) (v := nI (3 * r + 1)) hC (nI_add _ _) dL_minutes_159 ?_
            refine z_iald (pc := 160) hC 1 rfl dL_minutes_160 (3 * r + 1) rfl (by omega) (by decide) ?_
            refine z_is_ (y := (setS Q 14 7 ((Q 14 7) + 1)) 4 r) (fB_at (by decide) _) ?_
            refine z_is_ (y := Q 4 r) rfl ?_
            refine z_bipush (pc := 161) (v := 99) hC dL_minutes_161 (by decide) ?_
            refine z_icge (pc := 163) hC 170 (by decide) dL_minutes_163 (fun c163 => ?_) (fun c163 => absurd h4n c163)
            refine z_iconst (pc := 170) (v := 0) hC dL_minutes_170 (by decide) ?_
            refine z_iadd (pc := 171) (v := (Q 4 r) + 0) hC rfl dL_minutes_171 ?_
            refine z_iast (pc := 172) (ws' := lgW g.2 v (setS (setS Q 14 7 ((Q 14 7) + 1)) 4 r ((Q 4 r) + 0))) hC 1 rfl dL_minutes_172 (3 * r + 1) rfl (by omega) (by decide) (lg_B (by decide)) ?_
            refine z_w (ws' := lgW g.2 v (setS Q 14 7 (Q 14 7 + 1))) (congrArg (lgW g.2 v) (setS_id (i32_add0 _))) ?_
            refine z_aln (pc := 173) hC 5 rfl dL_minutes_173 ?_
            refine z_iconst (pc := 174) (v := nI 4) hC dL_minutes_174 (by decide) ?_
            refine z_il (pc := 175) hC 1 rfl dL_minutes_175 ?_
            refine z_imul (pc := 177) (v := nI (4 * m)) hC (pk_mul _ _) dL_minutes_177 ?_
            refine z_iconst (pc := 178) (v := nI 1) hC dL_minutes_178 (by decide) ?_
            refine z_iadd (pc := 179) (v := nI (4 * m + 1)) hC (nI_add _ _) dL_minutes_179 ?_
            refine z_dup2 (pc := 180) hC rfl rfl dL_minutes_180 ?_
            refine z_iald (pc := 181) hC 3 rfl dL_minutes_181 (4 * m + 1) rfl (by omega) (by decide) ?_
            refine z_is_ (y := (setS Q 14 7 (Q 14 7 + 1)) 11 m) (fK_at (by decide) _) ?_
            refine z_is_ (y := Q 11 m) rfl ?_
            refine z_iconst (pc := 182) (v := 1) hC dL_minutes_182 (by decide) ?_
            refine z_iadd (pc := 183) (v := (Q 11 m) + 1) hC rfl dL_minutes_183 ?_
            refine z_iast (pc := 184) (ws' := lgW g.2 v (setS (setS Q 14 7 (Q 14 7 + 1)) 11 m ((Q 11 m) + 1))) hC 3 rfl dL_minutes_184 (4 * m + 1) rfl (by omega) (by decide) (lg_K (by decide)) ?_
            refine z_w (ws' := lgW g.2 v (blk Q m r)) (congrArg (lgW g.2 v) (by rw [blk, if_neg h6, if_pos h4])) ?_
            exact tail
          · have h4n : ¬ (99 : Int32) ≤ Q 4 r := Int32.not_le.mpr (i32_99 h99 h4)
            refine z_al (pc := 44) hC 6 rfl dL_minutes_44 ?_
            refine z_iconst (pc := 46) (v := 5) hC dL_minutes_46 (by decide) ?_
            refine z_dup2 (pc := 47) hC rfl rfl dL_minutes_47 ?_
            refine z_iald (pc := 48) hC 4 rfl dL_minutes_48 5 rfl (by omega) (by decide) ?_
            refine z_is_ (y := Q 14 5) rfl ?_
            refine z_aln (pc := 49) hC 4 rfl dL_minutes_49 ?_
            refine z_iconst (pc := 50) (v := nI 4) hC dL_minutes_50 (by decide) ?_
            refine z_il (pc := 51) hC 1 rfl dL_minutes_51 ?_
            refine z_imul (pc := 53) (v := nI (4 * m)) hC (pk_mul _ _) dL_minutes_53 ?_
            refine z_iald (pc := 54) hC 2 rfl dL_minutes_54 (4 * m + 0) rfl (by omega) (by decide) ?_
            refine z_is_ (y := Q 6 m) (fJ_at (by decide) _) ?_
            refine z_is_ (y := Q 6 m) rfl ?_
            refine z_ifne (pc := 55) hC 62 (by decide) dL_minutes_55 (fun c55 => ?_) (fun c55 => absurd c55 h6)
            refine z_iconst (pc := 62) (v := 0) hC dL_minutes_62 (by decide) ?_
            refine z_iadd (pc := 63) (v := (Q 14 5) + 0) hC rfl dL_minutes_63 ?_
            refine z_iast (pc := 64) (ws' := lgW g.2 v (setS Q 14 5 ((Q 14 5) + 0))) hC 4 rfl dL_minutes_64 5 rfl (by omega) (by decide) lg_N ?_
            refine z_w (ws' := lgW g.2 v Q) (congrArg (lgW g.2 v) (setS_id (i32_add0 _))) ?_
            refine z_al (pc := 65) hC 6 rfl dL_minutes_65 ?_
            refine z_bipush (pc := 67) (v := 6) hC dL_minutes_67 (by decide) ?_
            refine z_dup2 (pc := 69) hC rfl rfl dL_minutes_69 ?_
            refine z_iald (pc := 70) hC 4 rfl dL_minutes_70 6 rfl (by omega) (by decide) ?_
            refine z_is_ (y := Q 14 6) rfl ?_
            refine z_aln (pc := 71) hC 4 rfl dL_minutes_71 ?_
            refine z_iconst (pc := 72) (v := nI 4) hC dL_minutes_72 (by decide) ?_
            refine z_il (pc := 73) hC 1 rfl dL_minutes_73 ?_
            refine z_imul (pc := 75) (v := nI (4 * m)) hC (pk_mul _ _) dL_minutes_75 ?_
            refine z_iald (pc := 76) hC 2 rfl dL_minutes_76 (4 * m + 0) rfl (by omega) (by decide) ?_
            refine z_is_ (y := Q 6 m) (fJ_at (by decide) _) ?_
            refine z_is_ (y := Q 6 m) rfl ?_
            refine z_ifle (pc := 77) hC 97 (by decide) dL_minutes_77 (fun c77 => absurd c77 h6n) (fun c77 => ?_)
            refine z_aln (pc := 80) hC 3 rfl dL_minutes_80 ?_
            refine z_iconst (pc := 81) (v := nI 3) hC dL_minutes_81 (by decide) ?_
            refine z_il (pc := 82) hC 7 rfl dL_minutes_82 ?_
            refine z_imul (pc := 84) (v := nI (3 * r)) hC (pk_mul _ _) dL_minutes_84 ?_
            refine z_iconst (pc := 85) (v := nI 1) hC dL_minutes_85 (by decide) ?_
            refine z_iadd (pc := 86) (v := nI (3 * r + 1)) hC (nI_add _ _) dL_minutes_86 ?_
            refine z_iald (pc := 87) hC 1 rfl dL_minutes_87 (3 * r + 1) rfl (by omega) (by decide) ?_
            refine z_is_ (y := Q 4 r) (fB_at (by decide) _) ?_
            refine z_is_ (y := Q 4 r) rfl ?_
            refine z_bipush (pc := 88) (v := 99) hC dL_minutes_88 (by decide) ?_
            refine z_icge (pc := 90) hC 97 (by decide) dL_minutes_90 (fun c90 => absurd c90 h4n) (fun c90 => ?_)
            refine z_iconst (pc := 93) (v := 1) hC dL_minutes_93 (by decide) ?_
            refine z_goto (pc := 94) hC 98 (by decide) dL_minutes_94 ?_
            refine z_iadd (pc := 98) (v := (Q 14 6) + 1) hC rfl dL_minutes_98 ?_
            refine z_iast (pc := 99) (ws' := lgW g.2 v (setS Q 14 6 ((Q 14 6) + 1))) hC 4 rfl dL_minutes_99 6 rfl (by omega) (by decide) lg_N ?_
            refine z_al (pc := 100) hC 6 rfl dL_minutes_100 ?_
            refine z_bipush (pc := 102) (v := 7) hC dL_minutes_102 (by decide) ?_
            refine z_dup2 (pc := 104) hC rfl rfl dL_minutes_104 ?_
            refine z_iald (pc := 105) hC 4 rfl dL_minutes_105 7 rfl (by omega) (by decide) ?_
            refine z_is_ (y := Q 14 7) rfl ?_
            refine z_aln (pc := 106) hC 4 rfl dL_minutes_106 ?_
            refine z_iconst (pc := 107) (v := nI 4) hC dL_minutes_107 (by decide) ?_
            refine z_il (pc := 108) hC 1 rfl dL_minutes_108 ?_
            refine z_imul (pc := 110) (v := nI (4 * m)) hC (pk_mul _ _) dL_minutes_110 ?_
            refine z_iald (pc := 111) hC 2 rfl dL_minutes_111 (4 * m + 0) rfl (by omega) (by decide) ?_
            refine z_is_ (y := (setS Q 14 6 ((Q 14 6) + 1)) 6 m) (fJ_at (by decide) _) ?_
            refine z_is_ (y := Q 6 m) rfl ?_
            refine z_ifle (pc := 112) hC 132 (by decide) dL_minutes_112 (fun c112 => absurd c112 h6n) (fun c112 => ?_)
            refine z_aln (pc := 115) hC 3 rfl dL_minutes_115 ?_
            refine z_iconst (pc := 116) (v := nI 3) hC dL_minutes_116 (by decide) ?_
            refine z_il (pc := 117) hC 7 rfl dL_minutes_117 ?_
            refine z_imul (pc := 119) (v := nI (3 * r)) hC (pk_mul _ _) dL_minutes_119 ?_
            refine z_iconst (pc := 120) (v := nI 1) hC dL_minutes_120 (by decide) ?_
            refine z_iadd (pc := 121) (v := nI (3 * r + 1)) hC (nI_add _ _) dL_minutes_121 ?_
            refine z_iald (pc := 122) hC 1 rfl dL_minutes_122 (3 * r + 1) rfl (by omega) (by decide) ?_
            refine z_is_ (y := (setS Q 14 6 ((Q 14 6) + 1)) 4 r) (fB_at (by decide) _) ?_
            refine z_is_ (y := Q 4 r) rfl ?_
            refine z_bipush (pc := 123) (v := 99) hC dL_minutes_123 (by decide) ?_
            refine z_icne (pc := 125) hC 132 (by decide) dL_minutes_125 (fun c125 => ?_) (fun c125 => absurd c125 h4)
            refine z_iconst (pc := 132) (v := 0) hC dL_minutes_132 (by decide) ?_
            refine z_iadd (pc := 133) (v := (Q 14 7) + 0) hC rfl dL_minutes_133 ?_
            refine z_iast (pc := 134) (ws' := lgW g.2 v (setS (setS Q 14 6 ((Q 14 6) + 1)) 14 7 ((Q 14 7) + 0))) hC 4 rfl dL_minutes_134 7 rfl (by omega) (by decide) lg_N ?_
            refine z_w (ws' := lgW g.2 v (setS Q 14 6 (Q 14 6 + 1))) (congrArg (lgW g.2 v) (setS_id (i32_add0 _))) ?_
            refine z_aln (pc := 135) hC 3 rfl dL_minutes_135 ?_
            refine z_iconst (pc := 136) (v := nI 3) hC dL_minutes_136 (by decide) ?_
            refine z_il (pc := 137) hC 7 rfl dL_minutes_137 ?_
            refine z_imul (pc := 139) (v := nI (3 * r)) hC (pk_mul _ _) dL_minutes_139 ?_
            refine z_iconst (pc := 140) (v := nI 1) hC dL_minutes_140 (by decide) ?_
            refine z_iadd (pc := 141) (v := nI (3 * r + 1)) hC (nI_add _ _) dL_minutes_141 ?_
            refine z_dup2 (pc := 142) hC rfl rfl dL_minutes_142 ?_
            refine z_iald (pc := 143) hC 1 rfl dL_minutes_143 (3 * r + 1) rfl (by omega) (by decide) ?_
            refine z_is_ (y := (setS Q 14 6 (Q 14 6 + 1)) 4 r) (fB_at (by decide) _) ?_
            refine z_is_ (y := Q 4 r) rfl ?_
            refine z_aln (pc := 144) hC 4 rfl dL_minutes_144 ?_
            refine z_iconst (pc := 145) (v := nI 4) hC dL_minutes_145 (by decide) ?_
            refine z_il (pc := 146) hC 1 rfl dL_minutes_146 ?_
            refine z_imul (pc := 148) (v := nI (4 * m)) hC (pk_mul _ _) dL_minutes_148 ?_
            refine z_iald (pc := 149) hC 2 rfl dL_minutes_149 (4 * m + 0) rfl (by omega) (by decide) ?_
            refine z_is_ (y := (setS Q 14 6 (Q 14 6 + 1)) 6 m) (fJ_at (by decide) _) ?_
            refine z_is_ (y := Q 6 m) rfl ?_
            refine z_ifle (pc := 150) hC 170 (by decide) dL_minutes_150 (fun c150 => absurd c150 h6n) (fun c150 => ?_)
            refine z_aln (pc := 153) hC 3 rfl dL_minutes_153 ?_
            refine z_iconst (pc := 154) (v := nI 3) hC dL_minutes_154 (by decide) ?_
            refine z_il (pc := 155) hC 7 rfl dL_minutes_155 ?_
            refine z_imul (pc := 157) (v := nI (3 * r)) hC (pk_mul _ _) dL_minutes_157 ?_
            refine z_iconst (pc := 158) (v := nI 1) hC dL_minutes_158 (by decide) ?_
            refine z_iadd (pc := 159) (v := nI (3 * r + 1)) hC (nI_add _ _) dL_minutes_159 ?_
            refine z_iald (pc := 160) hC 1 rfl dL_minutes_160 (3 * r + 1) rfl (by omega) (by decide) ?_
            refine z_is_ (y := (setS Q 14 6 (Q 14 6 + 1)) 4 r) (fB_at (by decide) _) ?_
            refine z_is_ (y := Q 4 r) rfl ?_
            refine z_bipush (pc := 161) (v := 99) hC dL_minutes_161 (by decide) ?_
            refine z_icge (pc := 163) hC 170 (by decide) dL_minutes_163 (fun c163 => absurd c163 h4n) (fun c163 => ?_)
            refine z_iconst (pc := 166) (v := 1) hC dL_minutes_166 (by decide) ?_
            refine z_goto (pc := 167) hC 171 (by decide) dL_minutes_167 ?_
            refine z_iadd (pc := 171) (v := (Q 4 r) + 1) hC rfl dL_minutes_171 ?_
            refine z_iast (pc := 172) (ws' := lgW g.2 v (setS (setS Q 14 6 (Q 14 6 + 1)) 4 r ((Q 4 r) + 1))) hC 1 rfl dL_minutes_172 (3 * r + 1) rfl (by omega) (by decide) (lg_B (by decide)) ?_
            refine z_aln (pc := 173) hC 5 rfl dL_minutes_173 ?_
            refine z_iconst (pc := 174) (v := nI 4) hC dL_minutes_174 (by decide) ?_
            refine z_il (pc := 175) hC 1 rfl dL_minutes_175 ?_
            refine z_imul (pc := 177) (v := nI (4 * m)) hC (pk_mul _ _) dL_minutes_177 ?_
            refine z_iconst (pc := 178) (v := nI 1) hC dL_minutes_178 (by decide) ?_
            refine z_iadd (pc := 179) (v := nI (4 * m + 1)) hC (nI_add _ _) dL_minutes_179 ?_
            refine z_dup2 (pc := 180) hC rfl rfl dL_minutes_180 ?_
            refine z_iald (pc := 181) hC 3 rfl dL_minutes_181 (4 * m + 1) rfl (by omega) (by decide) ?_
            refine z_is_ (y := (setS (setS Q 14 6 (Q 14 6 + 1)) 4 r ((Q 4 r) + 1)) 11 m) (fK_at (by decide) _) ?_
            refine z_is_ (y := Q 11 m) rfl ?_
            refine z_iconst (pc := 182) (v := 1) hC dL_minutes_182 (by decide) ?_
            refine z_iadd (pc := 183) (v := (Q 11 m) + 1) hC rfl dL_minutes_183 ?_
            refine z_iast (pc := 184) (ws' := lgW g.2 v (setS (setS (setS Q 14 6 (Q 14 6 + 1)) 4 r ((Q 4 r) + 1)) 11 m ((Q 11 m) + 1))) hC 3 rfl dL_minutes_184 (4 * m + 1) rfl (by omega) (by decide) (lg_K (by decide)) ?_
            refine z_w (ws' := lgW g.2 v (blk Q m r)) (congrArg (lgW g.2 v) (by rw [blk, if_neg h6, if_neg h4]; exact blk_L)) ?_
            exact tail
  refine z_iconst (pc := 0) (v := 0) hC dL_minutes_0 (by decide) ?_
  refine z_is (pc := 1) (lv' := [(5, .int 0), (0, .ref (v 0)), (1, .ref (v 1)), (2, .ref (v 2)), (3, .ref (v 3)), (4, .ref (v 4))]) hC hm (by decide) rfl dL_minutes_1 ?_
  refine z_al (pc := 3) hC 5 rfl dL_minutes_3 ?_
  refine z_iconst (pc := 5) (v := 1) hC dL_minutes_5 (by decide) ?_
  refine z_dup2 (pc := 6) hC rfl rfl dL_minutes_6 ?_
  refine z_iald (pc := 7) hC 4 rfl dL_minutes_7 1 rfl (by omega) (by decide) ?_
  refine z_iconst (pc := 8) (v := 1) hC dL_minutes_8 (by decide) ?_
  refine z_iadd (pc := 9) (v := (R 14 1) + 1) hC rfl dL_minutes_9 ?_
  refine z_iast (pc := 10) (ws' := lgW g.2 v (setS R 14 1 ((R 14 1) + 1))) hC 4 rfl dL_minutes_10 1 rfl (by omega) (by decide) lg_N ?_
  refine z_iconst (pc := 11) (v := nI 0) hC dL_minutes_11 (by decide) ?_
  refine z_is (pc := 12) (lv' := [(6, .int (nI 0)), (5, .int 0), (0, .ref (v 0)), (1, .ref (v 1)), (2, .ref (v 2)), (3, .ref (v 3)), (4, .ref (v 4))]) hC hm (by decide) rfl dL_minutes_12 ?_
  refine z_lv (lv' := [(5, .int 0), (6, .int (nI 0)), (0, .ref (v 0)), (1, .ref (v 1)), (2, .ref (v 2)), (3, .ref (v 3)), (4, .ref (v 4))]) [1, 0, 2, 3, 4, 5, 6] rfl ?_
  exact loop n 0 (setS R 14 1 (R 14 1 + 1)) 0 (by omega) (inv_num (by decide) hI) (ki_n (by decide) hK) rfl
