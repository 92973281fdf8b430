set_option maxRecDepth 100000 in
set_option maxHeartbeats 4000000 in
theorem l_would {g : zG} {x : Nat} {u c a h v : Nat → Nat} {e : Nat → Nat → Nat} {Q P : Nat → Int32} {T R : St} {s p : Nat} {K : Nat → St} {H : Nat → St} {t : Nat → Nat} {L : Nat} (hG : GR R) (hX : xR H s t L (Q, P, T, p, K)) (hK : KI R (nn R)) : FI (S := XS) g yL_would cL_would 14 .boolean 9 5 143 [.ref x, .ref (v 0), .ref (v 1), .ref (v 2), .ref (v 3), .ref (v 4)] (lgW g.2 v R ++ xW g.2 x u c a h e Q P T R (nI s) (nI p) K) (fun r S0 => r = 1 ∧ xR H s t L S0) (fun S0 => lgW g.2 v R ++ xW g.2 x u c a h e S0.1 S0.2.1 S0.2.2.1 R (nI s) (nI S0.2.2.2.1) S0.2.2.2.2) := by
  refine fi_entry (by decide) (Nat.le_of_ble_eq_true rfl) (fun C hC hm hE => ?_)
  have hn12 := hG.n12
  have l3 : ∀ a2 b2 k2 n2 w2 : Nat, ∀ (f : Nat → Int32), (∀ j, j < nn R → f j = wn (nn R) R 300 j) → ∀ (k m : Nat) (S0 : XS), m + k = nn R → xR H s t L S0 → Z g C 5 143 (lgW g.2 (adr [a2, b2, v 2, k2, n2]) (it (nn R) 300 R) ++ (oW g.2 v R ++ ([(w2, .inl (g.2 0, 12, .inl f))] ++ xW g.2 x u c a h e S0.1 S0.2.1 S0.2.2.1 R (nI s) (nI S0.2.2.2.1) S0.2.2.2.2))) [(12, .int (nI m)), (11, .int 1), (0, .ref x), (1, .ref (v 0)), (2, .ref (v 1)), (3, .ref (v 2)), (4, .ref (v 3)), (5, .ref (v 4)), (6, .ref a2), (7, .ref b2), (8, .ref k2), (9, .ref n2), (10, .ref w2)] 186 [] := by
    intro a2 b2 k2 n2 w2 f hf k
    induction k with
    | zero =>
      intro m S0 hm2 hXS
      refine z_il (pc := 186) hC 0 rfl dL_would_186 ?_
      refine z_al (pc := 188) hC 7 rfl dL_would_188 ?_
      refine z_bipush (pc := 190) (v := 10) hC dL_would_190 (by decide) ?_
      refine z_iald (pc := 192) hC 8 rfl dL_would_192 10 rfl (by omega) (by decide) ?_
      refine z_is_ (y := nI (nn R)) hG.num ?_
      refine z_icge (pc := 193) hC 228 (by decide) dL_would_193 (fun c193 => ?_) (fun c193 => absurd (nI_le (by omega) (by omega)) c193)
      refine z_il (pc := 228) hC 1 rfl dL_would_228 ?_
      refine z_cell (f' := fJ R) (ws' := [(a2, .inl (g.2 0, 36, .inl (fA (it (nn R) 300 R)))), (b2, .inl (g.2 0, 36, .inl (fB (it (nn R) 300 R)))), (v 2, .inl (g.2 0, 48, .inl (fJ R))), (k2, .inl (g.2 0, 48, .inl (fK (it (nn R) 300 R)))), (n2, .inl (g.2 0, 11, .inl ((it (nn R) 300 R) 14)))] ++ (oW g.2 v R ++ ([(w2, .inl (g.2 0, 12, .inl f))] ++ xW g.2 x u c a h e S0.1 S0.2.1 S0.2.2.1 R (nI s) (nI S0.2.2.2.1) S0.2.2.2.2))) 2 rfl (fun j _ => by rw [it_J]) rfl ?_
      refine z_drop (ws' := [(v 2, .inl (g.2 0, 48, .inl (fJ R)))] ++ (oW g.2 v R ++ xW g.2 x u c a h e S0.1 S0.2.1 S0.2.2.1 R (nI s) (nI S0.2.2.2.1) S0.2.2.2.2)) drop_w ?_
      refine z_perm (ws' := lgW g.2 v R ++ xW g.2 x u c a h e S0.1 S0.2.1 S0.2.2.1 R (nI s) (nI S0.2.2.2.1) S0.2.2.2.2) perm_w3 ?_
      exact hE _ _ _ S0 _ _ _ dL_would_230 rfl ⟨rfl, hXS⟩ rfl (Nat.le_refl _) (Nat.le_refl _)
    | succ k ih =>
      intro m S0 hm2 hXS
      have hmn : m < nn R := by omega
      refine z_il (pc := 186) hC 0 rfl dL_would_186 ?_
      refine z_al (pc := 188) hC 7 rfl dL_would_188 ?_
      refine z_bipush (pc := 190) (v := 10) hC dL_would_190 (by decide) ?_
      refine z_iald (pc := 192) hC 8 rfl dL_would_192 10 rfl (by omega) (by decide) ?_
      refine z_is_ (y := nI (nn R)) hG.num ?_
      refine z_icge (pc := 193) hC 228 (by decide) dL_would_193 (fun c193 => absurd c193 (nI_ge (by omega) (by omega))) (fun c193 => ?_)
      refine z_il (pc := 196) hC 1 rfl dL_would_196 ?_
      refine z_ifeq (pc := 198) hC 219 (by decide) dL_would_198 (fun c198 => absurd c198 (by decide)) (fun c198 => ?_)
      refine z_aln (pc := 201) hC 2 rfl dL_would_201 ?_
      refine z_il (pc := 202) hC 0 rfl dL_would_202 ?_
      refine z_ik (pc := 204) (rest := []) hC vX5_minutesToDone lL_85 dL_would_204 (k_minutesToDone hG hXS (cIs_0 hG hmn)) (fun zw => lgW g.2 (adr [a2, b2, v 2, k2, n2]) (it (nn R) 300 R) ++ (oW g.2 v R ++ ([(w2, .inl (g.2 0, 12, .inl f))] ++ zw))) (ctx_r3 _ _ _) rfl 0 5 rfl rfl rfl rfl rfl (by decide) (Nat.le_of_ble_eq_true rfl) ⟨Nat.le_of_ble_eq_true rfl, Nat.le_of_ble_eq_true rfl⟩ (fun r2 S2 hp2 => ?_)
      refine z_al (pc := 207) hC 12 rfl dL_would_207 ?_
      refine z_il (pc := 209) hC 0 rfl dL_would_209 ?_
      refine z_iald (pc := 211) hC 9 rfl dL_would_211 m rfl (by omega) (by decide) ?_
      refine z_is_ (y := wn (nn R) R 300 m) (hf m hmn) ?_
      refine z_icne (pc := 212) hC 219 (by decide) dL_would_212 (fun c212 => absurd (by rw [hp2.2.1, ix_nI (by omega)]; exact wn_all hG.1 hmn) c212) (fun c212 => ?_)
      refine z_iconst (pc := 215) (v := 1) hC dL_would_215 (by decide) ?_
      refine z_goto (pc := 216) hC 220 (by decide) dL_would_216 ?_
      refine z_is (pc := 220) (lv' := [(11, .int 1), (12, .int (nI m)), (0, .ref x), (1, .ref (v 0)), (2, .ref (v 1)), (3, .ref (v 2)), (4, .ref (v 3)), (5, .ref (v 4)), (6, .ref a2), (7, .ref b2), (8, .ref k2), (9, .ref n2), (10, .ref w2)]) hC hm (by decide) rfl dL_would_220 ?_
      refine z_iinc (pc := 222) (v := nI (m + 1)) (j := 1) (lv' := [(12, .int (nI (m + 1))), (11, .int 1), (0, .ref x), (1, .ref (v 0)), (2, .ref (v 1)), (3, .ref (v 2)), (4, .ref (v 3)), (5, .ref (v 4)), (6, .ref a2), (7, .ref b2), (8, .ref k2), (9, .ref n2), (10, .ref w2)]) hC hm (by decide) rfl (up_step _) rfl dL_would_222 ?_
      refine z_goto (pc := 225) hC 186 (by decide) dL_would_225 ?_
      refine z_lv (lv' := [(12, .int (nI (m + 1))), (11, .int 1), (0, .ref x), (1, .ref (v 0)), (2, .ref (v 1)), (3, .ref (v 2)), (4, .ref (v 3)), (5, .ref (v 4)), (6, .ref a2), (7, .ref b2), (8, .ref k2), (9, .ref n2), (10, .ref w2)]) [0, 1, 2, 3, 4, 5, 6, 7, 8, 9, 10, 11, 12] rfl ?_
      exact ih (m + 1) S2 (by omega) hp2.2.2
  have fin : ∀ a2 b2 k2 n2 w2 : Nat, ∀ (f : Nat → Int32), (∀ j, j < nn R → f j = wn (nn R) R 300 j) → Z g C 5 143 (lgW g.2 (adr [a2, b2, v 2, k2, n2]) (it (nn R) 300 R) ++ (oW g.2 v R ++ ([(w2, .inl (g.2 0, 12, .inl f))] ++ xW g.2 x u c a h e Q P T R (nI s) (nI p) K))) [(0, .ref x), (1, .ref (v 0)), (2, .ref (v 1)), (3, .ref (v 2)), (4, .ref (v 3)), (5, .ref (v 4)), (6, .ref a2), (7, .ref b2), (8, .ref k2), (9, .ref n2), (10, .ref w2)] 180 [] := by
    intro a2 b2 k2 n2 w2 f hf
    refine z_iconst (pc := 180) (v := 1) hC dL_would_180 (by decide) ?_
    refine z_is (pc := 181) (lv' := [(11, .int 1), (0, .ref x), (1, .ref (v 0)), (2, .ref (v 1)), (3, .ref (v 2)), (4, .ref (v 3)), (5, .ref (v 4)), (6, .ref a2), (7, .ref b2), (8, .ref k2), (9, .ref n2), (10, .ref w2)]) hC hm (by decide) rfl dL_would_181 ?_
    refine z_iconst (pc := 183) (v := nI 0) hC dL_would_183 (by decide) ?_
    refine z_is (pc := 184) (lv' := [(12, .int (nI 0)), (11, .int 1), (0, .ref x), (1, .ref (v 0)), (2, .ref (v 1)), (3, .ref (v 2)), (4, .ref (v 3)), (5, .ref (v 4)), (6, .ref a2), (7, .ref b2), (8, .ref k2), (9, .ref n2), (10, .ref w2)]) hC hm (by decide) rfl dL_would_184 ?_
    refine z_lv (lv' := [(12, .int (nI 0)), (11, .int 1), (0, .ref x), (1, .ref (v 0)), (2, .ref (v 1)), (3, .ref (v 2)), (4, .ref (v 3)), (5, .ref (v 4)), (6, .ref a2), (7, .ref b2), (8, .ref k2), (9, .ref n2), (10, .ref w2)]) [0, 1, 2, 3, 4, 5, 6, 7, 8, 9, 10, 11, 12] rfl ?_
    exact l3 a2 b2 k2 n2 w2 f hf (nn R) 0 (Q, P, T, p, K) (by omega) hX
  have l2 : ∀ a2 b2 k2 n2 w2 : Nat, ∀ (k M : Nat) (f : Nat → Int32), M + k = 300 → (∀ j, j < nn R → f j = wn (nn R) R M j) → Z g C 5 143 (lgW g.2 (adr [a2, b2, v 2, k2, n2]) (it (nn R) M R) ++ (oW g.2 v R ++ ([(w2, .inl (g.2 0, 12, .inl f))] ++ xW g.2 x u c a h e Q P T R (nI s) (nI p) K))) [(11, .int (nI (M + 1))), (0, .ref x), (1, .ref (v 0)), (2, .ref (v 1)), (3, .ref (v 2)), (4, .ref (v 3)), (5, .ref (v 4)), (6, .ref a2), (7, .ref b2), (8, .ref k2), (9, .ref n2), (10, .ref w2)] 99 [] := by
    intro a2 b2 k2 n2 w2 k
    induction k with
    | zero =>
      intro M f hM2 hf
      have eM : M = 300 := by omega
      subst eM
      refine z_il (pc := 99) hC 0 rfl dL_would_99 ?_
      refine z_sipush (pc := 101) (v := nI 300) hC dL_would_101 (by decide) ?_
      refine z_icgt (pc := 104) hC 180 (by decide) dL_would_104 (fun c104 => ?_) (fun c104 => absurd (nI_lt (by omega) (by omega)) c104)
      refine z_lv (lv' := [(0, .ref x), (1, .ref (v 0)), (2, .ref (v 1)), (3, .ref (v 2)), (4, .ref (v 3)), (5, .ref (v 4)), (6, .ref a2), (7, .ref b2), (8, .ref k2), (9, .ref n2), (10, .ref w2)]) [1, 2, 3, 4, 5, 6, 7, 8, 9, 10, 11] rfl ?_
      exact fin a2 b2 k2 n2 w2 f hf
    | succ k ih =>
      intro M f hM2 hf
      have inner : ∀ (k m : Nat) (f : Nat → Int32), m + k = nn R → (∀ j, j < m → f j = wn (nn R) R (M + 1) j) → (∀ j, m ≤ j → j < nn R → f j = wn (nn R) R M j) → Z g C 5 143 (lgW g.2 (adr [a2, b2, v 2, k2, n2]) (it (nn R) (M + 1) R) ++ (oW g.2 v R ++ ([(w2, .inl (g.2 0, 12, .inl f))] ++ xW g.2 x u c a h e Q P T R (nI s) (nI p) K))) [(13, .int (nI m)), (11, .int (nI (M + 1))), (0, .ref x), (1, .ref (v 0)), (2, .ref (v 1)), (3, .ref (v 2)), (4, .ref (v 3)), (5, .ref (v 4)), (6, .ref a2), (7, .ref b2), (8, .ref k2), (9, .ref n2), (10, .ref w2)] 124 [] := by
        intro k
        induction k with
        | zero =>
          intro m f hm2 hf1 hf2
          refine z_il (pc := 124) hC 0 rfl dL_would_124 ?_
          refine z_al (pc := 126) hC 7 rfl dL_would_126 ?_
          refine z_bipush (pc := 128) (v := 10) hC dL_would_128 (by decide) ?_
          refine z_iald (pc := 130) hC 8 rfl dL_would_130 10 rfl (by omega) (by decide) ?_
          refine z_is_ (y := nI (nn R)) hG.num ?_
          refine z_icge (pc := 131) hC 174 (by decide) dL_would_131 (fun c131 => ?_) (fun c131 => absurd (nI_le (by omega) (by omega)) c131)
          refine z_iinc (pc := 174) (v := nI ((M + 1) + 1)) (j := 1) (lv' := [(11, .int (nI ((M + 1) + 1))), (13, .int (nI m)), (0, .ref x), (1, .ref (v 0)), (2, .ref (v 1)), (3, .ref (v 2)), (4, .ref (v 3)), (5, .ref (v 4)), (6, .ref a2), (7, .ref b2), (8, .ref k2), (9, .ref n2), (10, .ref w2)]) hC hm (by decide) rfl (up_step _) rfl dL_would_174 ?_
          refine z_goto (pc := 177) hC 99 (by decide) dL_would_177 ?_
          refine z_lv (lv' := [(11, .int (nI (M + 1 + 1))), (0, .ref x), (1, .ref (v 0)), (2, .ref (v 1)), (3, .ref (v 2)), (4, .ref (v 3)), (5, .ref (v 4)), (6, .ref a2), (7, .ref b2), (8, .ref k2), (9, .ref n2), (10, .ref w2)]) [0, 2, 3, 4, 5, 6, 7, 8, 9, 10, 11, 12] rfl ?_
          exact ih (M + 1) f (by omega) (fun j hj => hf1 j (by omega))
        | succ k ih2 =>
          intro m f hm2 hf1 hf2
          have hmn : m < nn R := by omega
          have hup : ∀ x : Int32, ∀ j, m + 1 ≤ j → j < nn R → upd f m x j = wn (nn R) R M j := fun x j h1 h2 => by rw [upd_ne' (by omega)]; exact hf2 j (by omega) h2
          refine z_il (pc := 124) hC 0 rfl dL_would_124 ?_
          refine z_al (pc := 126) hC 7 rfl dL_would_126 ?_
          refine z_bipush (pc := 128) (v := 10) hC dL_would_128 (by decide) ?_
          refine z_iald (pc := 130) hC 8 rfl dL_would_130 10 rfl (by omega) (by decide) ?_
          refine z_is_ (y := nI (nn R)) hG.num ?_
          refine z_icge (pc := 131) hC 174 (by decide) dL_would_131 (fun c131 => absurd c131 (nI_ge (by omega) (by omega))) (fun c131 => ?_)
          refine z_al (pc := 134) hC 12 rfl dL_would_134 ?_
          refine z_il (pc := 136) hC 0 rfl dL_would_136 ?_
          refine z_al (pc := 138) hC 12 rfl dL_would_138 ?_
          refine z_il (pc := 140) hC 0 rfl dL_would_140 ?_
          refine z_iald (pc := 142) hC 9 rfl dL_would_142 m rfl (by omega) (by decide) ?_
          refine z_is_ (y := wn (nn R) R M m) (hf2 m (Nat.le_refl _) hmn) ?_
          refine z_ifge (pc := 143) hC 162 (by decide) dL_would_143 (fun c143 => ?_) (fun c143 => ?_)
          · refine z_al (pc := 162) hC 12 rfl dL_would_162 ?_
            refine z_il (pc := 164) hC 0 rfl dL_would_164 ?_
            refine z_iald (pc := 166) hC 9 rfl dL_would_166 m rfl (by omega) (by decide) ?_
            refine z_is_ (y := wn (nn R) R M m) (hf2 m (Nat.le_refl _) hmn) ?_
            refine z_iast (pc := 167) (ws' := lgW g.2 (adr [a2, b2, v 2, k2, n2]) (it (nn R) (M + 1) R) ++ (oW g.2 v R ++ ([(w2, .inl (g.2 0, 12, .inl (upd f m (wn (nn R) R M m))))] ++ xW g.2 x u c a h e Q P T R (nI s) (nI p) K))) hC 9 rfl dL_would_167 m rfl (by omega) (by decide) rfl ?_
            refine z_iinc (pc := 168) (v := nI (m + 1)) (j := 0) (lv' := [(13, .int (nI (m + 1))), (11, .int (nI (M + 1))), (0, .ref x), (1, .ref (v 0)), (2, .ref (v 1)), (3, .ref (v 2)), (4, .ref (v 3)), (5, .ref (v 4)), (6, .ref a2), (7, .ref b2), (8, .ref k2), (9, .ref n2), (10, .ref w2)]) hC hm (by decide) rfl (up_step _) rfl dL_would_168 ?_
            refine z_goto (pc := 171) hC 124 (by decide) dL_would_171 ?_
            refine z_lv (lv' := [(13, .int (nI (m + 1))), (11, .int (nI (M + 1))), (0, .ref x), (1, .ref (v 0)), (2, .ref (v 1)), (3, .ref (v 2)), (4, .ref (v 3)), (5, .ref (v 4)), (6, .ref a2), (7, .ref b2), (8, .ref k2), (9, .ref n2), (10, .ref w2)]) [0, 1, 2, 3, 4, 5, 6, 7, 8, 9, 10, 11, 12] rfl ?_
            exact ih2 (m + 1) _ (by omega) (all_upd hf1 (by first | exact wn_f1 c143 | exact wn_t c143 c154 | exact wn_f2 c154)) (hup _)
          · refine z_al (pc := 146) hC 10 rfl dL_would_146 ?_
            refine z_iconst (pc := 148) (v := nI 4) hC dL_would_148 (by decide) ?_
            refine z_il (pc := 149) hC 0 rfl dL_would_149 ?_
            refine z_imul (pc := 151) (v := nI (4 * m)) hC (pk_mul _ _) dL_would_151 ?_
            refine z_iald (pc := 152) hC 3 rfl dL_would_152 (4 * m + 0) rfl (by omega) (by decide) ?_
            refine z_is_ (y := (it (nn R) (M + 1) R) 10 m) (fK_at (by decide) _) ?_
            refine z_iconst (pc := 153) (v := 2) hC dL_would_153 (by decide) ?_
            refine z_icne (pc := 154) hC 162 (by decide) dL_would_154 (fun c154 => ?_) (fun c154 => ?_)
            · refine z_al (pc := 162) hC 12 rfl dL_would_162 ?_
              refine z_il (pc := 164) hC 0 rfl dL_would_164 ?_
              refine z_iald (pc := 166) hC 9 rfl dL_would_166 m rfl (by omega) (by decide) ?_
              refine z_is_ (y := wn (nn R) R M m) (hf2 m (Nat.le_refl _) hmn) ?_
              refine z_iast (pc := 167) (ws' := lgW g.2 (adr [a2, b2, v 2, k2, n2]) (it (nn R) (M + 1) R) ++ (oW g.2 v R ++ ([(w2, .inl (g.2 0, 12, .inl (upd f m (wn (nn R) R M m))))] ++ xW g.2 x u c a h e Q P T R (nI s) (nI p) K))) hC 9 rfl dL_would_167 m rfl (by omega) (by decide) rfl ?_
              refine z_iinc (pc := 168) (v := nI (m + 1)) (j := 0) (lv' := [(13, .int (nI (m + 1))), (11, .int (nI (M + 1))), (0, .ref x), (1, .ref (v 0)), (2, .ref (v 1)), (3, .ref (v 2)), (4, .ref (v 3)), (5, .ref (v 4)), (6, .ref a2), (7, .ref b2), (8, .ref k2), (9, .ref n2), (10, .ref w2)]) hC hm (by decide) rfl (up_step _) rfl dL_would_168 ?_
              refine z_goto (pc := 171) hC 124 (by decide) dL_would_171 ?_
              refine z_lv (lv' := [(13, .int (nI (m + 1))), (11, .int (nI (M + 1))), (0, .ref x), (1, .ref (v 0)), (2, .ref (v 1)), (3, .ref (v 2)), (4, .ref (v 3)), (5, .ref (v 4)), (6, .ref a2), (7, .ref b2), (8, .ref k2), (9, .ref n2), (10, .ref w2)]) [0, 1, 2, 3, 4, 5, 6, 7, 8, 9, 10, 11, 12] rfl ?_
              exact ih2 (m + 1) _ (by omega) (all_upd hf1 (by first | exact wn_f1 c143 | exact wn_t c143 c154 | exact wn_f2 c154)) (hup _)
            · refine z_il (pc := 157) hC 1 rfl dL_would_157 ?_
              refine z_goto (pc := 159) hC 167 (by decide) dL_would_159 ?_
              refine z_iast (pc := 167) (ws' := lgW g.2 (adr [a2, b2, v 2, k2, n2]) (it (nn R) (M + 1) R) ++ (oW g.2 v R ++ ([(w2, .inl (g.2 0, 12, .inl (upd f m (nI (M + 1)))))] ++ xW g.2 x u c a h e Q P T R (nI s) (nI p) K))) hC 9 rfl dL_would_167 m rfl (by omega) (by decide) rfl ?_
              refine z_iinc (pc := 168) (v := nI (m + 1)) (j := 0) (lv' := [(13, .int (nI (m + 1))), (11, .int (nI (M + 1))), (0, .ref x), (1, .ref (v 0)), (2, .ref (v 1)), (3, .ref (v 2)), (4, .ref (v 3)), (5, .ref (v 4)), (6, .ref a2), (7, .ref b2), (8, .ref k2), (9, .ref n2), (10, .ref w2)]) hC hm (by decide) rfl (up_step _) rfl dL_would_168 ?_
              refine z_goto (pc := 171) hC 124 (by decide) dL_would_171 ?_
              refine z_lv (lv' := [(13, .int (nI (m + 1))), (11, .int (nI (M + 1))), (0, .ref x), (1, .ref (v 0)), (2, .ref (v 1)), (3, .ref (v 2)), (4, .ref (v 3)), (5, .ref (v 4)), (6, .ref a2), (7, .ref b2), (8, .ref k2), (9, .ref n2), (10, .ref w2)]) [0, 1, 2, 3, 4, 5, 6, 7, 8, 9, 10, 11, 12] rfl ?_
              exact ih2 (m + 1) _ (by omega) (all_upd hf1 (by first | exact wn_f1 c143 | exact wn_t c143 c154 | exact wn_f2 c154)) (hup _)
      refine z_il (pc := 99) hC 0 rfl dL_would_99 ?_
      refine z_sipush (pc := 101) (v := nI 300) hC dL_would_101 (by decide) ?_
      refine z_icgt (pc := 104) hC 180 (by decide) dL_would_104 (fun c104 => absurd c104 (nI_nlt (by omega) (by omega))) (fun c104 => ?_)
      refine z_al (pc := 107) hC 7 rfl dL_would_107 ?_
      refine z_al (pc := 109) hC 8 rfl dL_would_109 ?_
      refine z_aln (pc := 111) hC 4 rfl dL_would_111 ?_
      refine z_al (pc := 112) hC 9 rfl dL_would_112 ?_
      refine z_al (pc := 114) hC 10 rfl dL_would_114 ?_
      refine z_sg (pc := 116) (rest := []) hC sL_minutes lL_82 dL_would_116 (l_minutes (v := adr [a2, b2, v 2, k2, n2]) (inv_it hG.1 M) (ki_it hK M)) (fun zw => zw ++ (oW g.2 v R ++ ([(w2, .inl (g.2 0, 12, .inl f))] ++ xW g.2 x u c a h e Q P T R (nI s) (nI p) K))) (ctx_l _) rfl rfl rfl (by decide) (Nat.le_of_ble_eq_true rfl) ⟨Nat.le_of_ble_eq_true rfl, Nat.le_of_ble_eq_true rfl⟩ ?_
      refine z_is (pc := 119) (lv' := [(12, .int ((minu (it (nn R) M R) (nn R)).2)), (11, .int (nI (M + 1))), (0, .ref x), (1, .ref (v 0)), (2, .ref (v 1)), (3, .ref (v 2)), (4, .ref (v 3)), (5, .ref (v 4)), (6, .ref a2), (7, .ref b2), (8, .ref k2), (9, .ref n2), (10, .ref w2)]) hC hm (by decide) rfl dL_would_119 ?_
      refine z_iconst (pc := 121) (v := nI 0) hC dL_would_121 (by decide) ?_
      refine z_is (pc := 122) (lv' := [(13, .int (nI 0)), (12, .int ((minu (it (nn R) M R) (nn R)).2)), (11, .int (nI (M + 1))), (0, .ref x), (1, .ref (v 0)), (2, .ref (v 1)), (3, .ref (v 2)), (4, .ref (v 3)), (5, .ref (v 4)), (6, .ref a2), (7, .ref b2), (8, .ref k2), (9, .ref n2), (10, .ref w2)]) hC hm (by decide) rfl dL_would_122 ?_
      refine z_lv (lv' := [(13, .int (nI 0)), (11, .int (nI (M + 1))), (0, .ref x), (1, .ref (v 0)), (2, .ref (v 1)), (3, .ref (v 2)), (4, .ref (v 3)), (5, .ref (v 4)), (6, .ref a2), (7, .ref b2), (8, .ref k2), (9, .ref n2), (10, .ref w2)]) [0, 2, 3, 4, 5, 6, 7, 8, 9, 10, 11, 12, 13] rfl ?_
      exact inner (nn R) 0 f (by omega) (fun j h => absurd h (Nat.not_lt_zero j)) (fun j _ hj => hf j hj)
  have l1 : ∀ a2 b2 k2 n2 w2 : Nat, ∀ (k m : Nat) (f : Nat → Int32), m + k = nn R → (∀ j, j < m → f j = wn (nn R) R 0 j) → Z g C 5 143 (lgW g.2 (adr [a2, b2, v 2, k2, n2]) R ++ (oW g.2 v R ++ ([(w2, .inl (g.2 0, 12, .inl f))] ++ xW g.2 x u c a h e Q P T R (nI s) (nI p) K))) [(11, .int (nI m)), (0, .ref x), (1, .ref (v 0)), (2, .ref (v 1)), (3, .ref (v 2)), (4, .ref (v 3)), (5, .ref (v 4)), (6, .ref a2), (7, .ref b2), (8, .ref k2), (9, .ref n2), (10, .ref w2)] 59 [] := by
    intro a2 b2 k2 n2 w2 k
    induction k with
    | zero =>
      intro m f hm2 hf
      refine z_il (pc := 59) hC 0 rfl dL_would_59 ?_
      refine z_al (pc := 61) hC 6 rfl dL_would_61 ?_
      refine z_bipush (pc := 63) (v := 10) hC dL_would_63 (by decide) ?_
      refine z_iald (pc := 65) hC 8 rfl dL_would_65 10 rfl (by omega) (by decide) ?_
      refine z_is_ (y := nI (nn R)) hG.num ?_
      refine z_icge (pc := 66) hC 96 (by decide) dL_would_66 (fun c66 => ?_) (fun c66 => absurd (nI_le (by omega) (by omega)) c66)
      refine z_iconst (pc := 96) (v := nI 1) hC dL_would_96 (by decide) ?_
      refine z_is (pc := 97) (lv' := [(11, .int (nI 1)), (0, .ref x), (1, .ref (v 0)), (2, .ref (v 1)), (3, .ref (v 2)), (4, .ref (v 3)), (5, .ref (v 4)), (6, .ref a2), (7, .ref b2), (8, .ref k2), (9, .ref n2), (10, .ref w2)]) hC hm (by decide) rfl dL_would_97 ?_
      refine z_lv (lv' := [(11, .int (nI 1)), (0, .ref x), (1, .ref (v 0)), (2, .ref (v 1)), (3, .ref (v 2)), (4, .ref (v 3)), (5, .ref (v 4)), (6, .ref a2), (7, .ref b2), (8, .ref k2), (9, .ref n2), (10, .ref w2)]) [0, 1, 2, 3, 4, 5, 6, 7, 8, 9, 10, 11] rfl ?_
      exact l2 a2 b2 k2 n2 w2 300 0 f (by omega) (fun j hj => hf j (by omega))
    | succ k ih =>
      intro m f hm2 hf
      refine z_il (pc := 59) hC 0 rfl dL_would_59 ?_
      refine z_al (pc := 61) hC 6 rfl dL_would_61 ?_
      refine z_bipush (pc := 63) (v := 10) hC dL_would_63 (by decide) ?_
      refine z_iald (pc := 65) hC 8 rfl dL_would_65 10 rfl (by omega) (by decide) ?_
      refine z_is_ (y := nI (nn R)) hG.num ?_
      refine z_icge (pc := 66) hC 96 (by decide) dL_would_66 (fun c66 => absurd c66 (nI_ge (by omega) (by omega))) (fun c66 => ?_)
      refine z_al (pc := 69) hC 11 rfl dL_would_69 ?_
      refine z_il (pc := 71) hC 0 rfl dL_would_71 ?_
      refine z_al (pc := 73) hC 5 rfl dL_would_73 ?_
      refine z_iconst (pc := 75) (v := nI 4) hC dL_would_75 (by decide) ?_
      refine z_il (pc := 76) hC 0 rfl dL_would_76 ?_
      refine z_imul (pc := 78) (v := nI (4 * m)) hC (pk_mul _ _) dL_would_78 ?_
      refine z_iald (pc := 79) hC 7 rfl dL_would_79 (4 * m + 0) rfl (by omega) (by decide) ?_
      refine z_is_ (y := R 10 m) (fK_at (by decide) _) ?_
      refine z_iconst (pc := 80) (v := 2) hC dL_would_80 (by decide) ?_
      refine z_icne (pc := 81) hC 88 (by decide) dL_would_81 (fun c81 => ?_) (fun c81 => ?_)
      · refine z_iconst (pc := 88) (v := -1) hC dL_would_88 (by decide) ?_
        refine z_iast (pc := 89) (ws' := lgW g.2 (adr [a2, b2, v 2, k2, n2]) R ++ (oW g.2 v R ++ ([(w2, .inl (g.2 0, 12, .inl (upd f m (-1))))] ++ xW g.2 x u c a h e Q P T R (nI s) (nI p) K))) hC 9 rfl dL_would_89 m rfl (by omega) (by decide) rfl ?_
        refine z_iinc (pc := 90) (v := nI (m + 1)) (j := 0) (lv' := [(11, .int (nI (m + 1))), (0, .ref x), (1, .ref (v 0)), (2, .ref (v 1)), (3, .ref (v 2)), (4, .ref (v 3)), (5, .ref (v 4)), (6, .ref a2), (7, .ref b2), (8, .ref k2), (9, .ref n2), (10, .ref w2)]) hC hm (by decide) rfl (up_step _) rfl dL_would_90 ?_
        refine z_goto (pc := 93) hC 59 (by decide) dL_would_93 ?_
        refine z_lv (lv' := [(11, .int (nI (m + 1))), (0, .ref x), (1, .ref (v 0)), (2, .ref (v 1)), (3, .ref (v 2)), (4, .ref (v 3)), (5, .ref (v 4)), (6, .ref a2), (7, .ref b2), (8, .ref k2), (9, .ref n2), (10, .ref w2)]) [0, 1, 2, 3, 4, 5, 6, 7, 8, 9, 10, 11] rfl ?_
        exact ih (m + 1) _ (by omega) (all_upd hf (by first | exact (if_pos c81).symm | exact (if_neg c81).symm))
      · refine z_iconst (pc := 84) (v := 0) hC dL_would_84 (by decide) ?_
        refine z_goto (pc := 85) hC 89 (by decide) dL_would_85 ?_
        refine z_iast (pc := 89) (ws' := lgW g.2 (adr [a2, b2, v 2, k2, n2]) R ++ (oW g.2 v R ++ ([(w2, .inl (g.2 0, 12, .inl (upd f m 0)))] ++ xW g.2 x u c a h e Q P T R (nI s) (nI p) K))) hC 9 rfl dL_would_89 m rfl (by omega) (by decide) rfl ?_
        refine z_iinc (pc := 90) (v := nI (m + 1)) (j := 0) (lv' := [(11, .int (nI (m + 1))), (0, .ref x), (1, .ref (v 0)), (2, .ref (v 1)), (3, .ref (v 2)), (4, .ref (v 3)), (5, .ref (v 4)), (6, .ref a2), (7, .ref b2), (8, .ref k2), (9, .ref n2), (10, .ref w2)]) hC hm (by decide) rfl (up_step _) rfl dL_would_90 ?_
        refine z_goto (pc := 93) hC 59 (by decide) dL_would_93 ?_
        refine z_lv (lv' := [(11, .int (nI (m + 1))), (0, .ref x), (1, .ref (v 0)), (2, .ref (v 1)), (3, .ref (v 2)), (4, .ref (v 3)), (5, .ref (v 4)), (6, .ref a2), (7, .ref b2), (8, .ref k2), (9, .ref n2), (10, .ref w2)]) [0, 1, 2, 3, 4, 5, 6, 7, 8, 9, 10, 11] rfl ?_
        exact ih (m + 1) _ (by omega) (all_upd hf (by first | exact (if_pos c81).symm | exact (if_neg c81).symm))
  refine z_bipush (pc := 0) (v := nI 36) hC dL_would_0 (by decide) ?_
  refine z_newa (pc := 2) hC 0 rfl (fun _ _ h => h) rfl aw_int dL_would_2 36 rfl (by decide) (by decide) ⟨Nat.le_of_ble_eq_true rfl, Nat.le_of_ble_eq_true rfl⟩ (a0 := (36, .inl (fun _ => 0))) (fun _ => rfl) (fun a2 => ?_)
  refine z_as (pc := 4) (lv' := [(6, .ref a2), (0, .ref x), (1, .ref (v 0)), (2, .ref (v 1)), (3, .ref (v 2)), (4, .ref (v 3)), (5, .ref (v 4))]) hC hm (by decide) rfl dL_would_4 ?_
  refine z_bipush (pc := 6) (v := nI 36) hC dL_would_6 (by decide) ?_
  refine z_newa (pc := 8) hC 0 rfl (fun _ _ h => h) rfl aw_int dL_would_8 36 rfl (by decide) (by decide) ⟨Nat.le_of_ble_eq_true rfl, Nat.le_of_ble_eq_true rfl⟩ (a0 := (36, .inl (fun _ => 0))) (fun _ => rfl) (fun b2 => ?_)
  refine z_as (pc := 10) (lv' := [(7, .ref b2), (6, .ref a2), (0, .ref x), (1, .ref (v 0)), (2, .ref (v 1)), (3, .ref (v 2)), (4, .ref (v 3)), (5, .ref (v 4))]) hC hm (by decide) rfl dL_would_10 ?_
  refine z_bipush (pc := 12) (v := nI 48) hC dL_would_12 (by decide) ?_
  refine z_newa (pc := 14) hC 0 rfl (fun _ _ h => h) rfl aw_int dL_would_14 48 rfl (by decide) (by decide) ⟨Nat.le_of_ble_eq_true rfl, Nat.le_of_ble_eq_true rfl⟩ (a0 := (48, .inl (fun _ => 0))) (fun _ => rfl) (fun k2 => ?_)
  refine z_as (pc := 16) (lv' := [(8, .ref k2), (7, .ref b2), (6, .ref a2), (0, .ref x), (1, .ref (v 0)), (2, .ref (v 1)), (3, .ref (v 2)), (4, .ref (v 3)), (5, .ref (v 4))]) hC hm (by decide) rfl dL_would_16 ?_
  refine z_bipush (pc := 18) (v := nI 11) hC dL_would_18 (by decide) ?_
  refine z_newa (pc := 20) hC 0 rfl (fun _ _ h => h) rfl aw_int dL_would_20 11 rfl (by decide) (by decide) ⟨Nat.le_of_ble_eq_true rfl, Nat.le_of_ble_eq_true rfl⟩ (a0 := (11, .inl (fun _ => 0))) (fun _ => rfl) (fun n2 => ?_)
  refine z_as (pc := 22) (lv' := [(9, .ref n2), (8, .ref k2), (7, .ref b2), (6, .ref a2), (0, .ref x), (1, .ref (v 0)), (2, .ref (v 1)), (3, .ref (v 2)), (4, .ref (v 3)), (5, .ref (v 4))]) hC hm (by decide) rfl dL_would_22 ?_
  refine z_bipush (pc := 24) (v := nI 12) hC dL_would_24 (by decide) ?_
  refine z_newa (pc := 26) hC 0 rfl (fun _ _ h => h) rfl aw_int dL_would_26 12 rfl (by decide) (by decide) ⟨Nat.le_of_ble_eq_true rfl, Nat.le_of_ble_eq_true rfl⟩ (a0 := (12, .inl (fun _ => 0))) (fun _ => rfl) (fun w2 => ?_)
  refine z_as (pc := 28) (lv' := [(10, .ref w2), (9, .ref n2), (8, .ref k2), (7, .ref b2), (6, .ref a2), (0, .ref x), (1, .ref (v 0)), (2, .ref (v 1)), (3, .ref (v 2)), (4, .ref (v 3)), (5, .ref (v 4))]) hC hm (by decide) rfl dL_would_28 ?_
  refine z_perm (ws' := [(v 0, .inl (g.2 0, 36, .inl (fA R))), (a2, .inl (g.2 0, 36, .inl (fun _ => 0)))] ++ ([(v 1, .inl (g.2 0, 36, .inl (fB R))), (b2, .inl (g.2 0, 36, .inl (fun _ => 0)))] ++ ([(v 3, .inl (g.2 0, 48, .inl (fK R))), (k2, .inl (g.2 0, 48, .inl (fun _ => 0)))] ++ ([(v 4, .inl (g.2 0, 11, .inl (R 14))), (n2, .inl (g.2 0, 11, .inl (fun _ => 0)))] ++ ([(v 2, .inl (g.2 0, 48, .inl (fJ R))), (w2, .inl (g.2 0, 12, .inl (fun _ => 0)))] ++ xW g.2 x u c a h e Q P T R (nI s) (nI p) K))))) perm_w1 ?_
  refine z_aln (pc := 30) hC 6 rfl dL_would_30 ?_
  refine z_al (pc := 31) hC 4 rfl dL_would_31 ?_
  refine z_sgv (pc := 33) (rest := []) hC sL_copy lL_78 dL_would_33 (l_copy (N := 36) (by decide)) (fun zw => zw ++ ([(v 1, .inl (g.2 0, 36, .inl (fB R))), (b2, .inl (g.2 0, 36, .inl (fun _ => 0)))] ++ ([(v 3, .inl (g.2 0, 48, .inl (fK R))), (k2, .inl (g.2 0, 48, .inl (fun _ => 0)))] ++ ([(v 4, .inl (g.2 0, 11, .inl (R 14))), (n2, .inl (g.2 0, 11, .inl (fun _ => 0)))] ++ ([(v 2, .inl (g.2 0, 48, .inl (fJ R))), (w2, .inl (g.2 0, 12, .inl (fun _ => 0)))] ++ xW g.2 x u c a h e Q P T R (nI s) (nI p) K))))) (ctx_l _) rfl rfl rfl (by decide) (Nat.le_of_ble_eq_true rfl) ⟨Nat.le_of_ble_eq_true rfl, Nat.le_of_ble_eq_true rfl⟩ ?_
  refine z_aln (pc := 36) hC 7 rfl dL_would_36 ?_
  refine z_al (pc := 37) hC 3 rfl dL_would_37 ?_
  refine z_sgv (pc := 39) (rest := []) hC sL_copy lL_78 dL_would_39 (l_copy (N := 36) (by decide)) (fun zw => [(v 0, .inl (g.2 0, 36, .inl (fA R))), (a2, .inl (g.2 0, 36, .inl (fA R)))] ++ (zw ++ ([(v 3, .inl (g.2 0, 48, .inl (fK R))), (k2, .inl (g.2 0, 48, .inl (fun _ => 0)))] ++ ([(v 4, .inl (g.2 0, 11, .inl (R 14))), (n2, .inl (g.2 0, 11, .inl (fun _ => 0)))] ++ ([(v 2, .inl (g.2 0, 48, .inl (fJ R))), (w2, .inl (g.2 0, 12, .inl (fun _ => 0)))] ++ xW g.2 x u c a h e Q P T R (nI s) (nI p) K))))) (ctx_m _ _) rfl rfl rfl (by decide) (Nat.le_of_ble_eq_true rfl) ⟨Nat.le_of_ble_eq_true rfl, Nat.le_of_ble_eq_true rfl⟩ ?_
  refine z_al (pc := 42) hC 9 rfl dL_would_42 ?_
  refine z_al (pc := 44) hC 2 rfl dL_would_44 ?_
  refine z_sgv (pc := 46) (rest := []) hC sL_copy lL_78 dL_would_46 (l_copy (N := 48) (by decide)) (fun zw => [(v 0, .inl (g.2 0, 36, .inl (fA R))), (a2, .inl (g.2 0, 36, .inl (fA R)))] ++ ([(v 1, .inl (g.2 0, 36, .inl (fB R))), (b2, .inl (g.2 0, 36, .inl (fB R)))] ++ (zw ++ ([(v 4, .inl (g.2 0, 11, .inl (R 14))), (n2, .inl (g.2 0, 11, .inl (fun _ => 0)))] ++ ([(v 2, .inl (g.2 0, 48, .inl (fJ R))), (w2, .inl (g.2 0, 12, .inl (fun _ => 0)))] ++ xW g.2 x u c a h e Q P T R (nI s) (nI p) K))))) (ctx_m2 _ _ _) rfl rfl rfl (by decide) (Nat.le_of_ble_eq_true rfl) ⟨Nat.le_of_ble_eq_true rfl, Nat.le_of_ble_eq_true rfl⟩ ?_
  refine z_al (pc := 49) hC 10 rfl dL_would_49 ?_
  refine z_al (pc := 51) hC 1 rfl dL_would_51 ?_
  refine z_sgv (pc := 53) (rest := []) hC sL_copy lL_78 dL_would_53 (l_copy (N := 11) (by decide)) (fun zw => [(v 0, .inl (g.2 0, 36, .inl (fA R))), (a2, .inl (g.2 0, 36, .inl (fA R)))] ++ ([(v 1, .inl (g.2 0, 36, .inl (fB R))), (b2, .inl (g.2 0, 36, .inl (fB R)))] ++ ([(v 3, .inl (g.2 0, 48, .inl (fK R))), (k2, .inl (g.2 0, 48, .inl (fK R)))] ++ (zw ++ ([(v 2, .inl (g.2 0, 48, .inl (fJ R))), (w2, .inl (g.2 0, 12, .inl (fun _ => 0)))] ++ xW g.2 x u c a h e Q P T R (nI s) (nI p) K))))) (ctx_m3 _ _ _ _) rfl rfl rfl (by decide) (Nat.le_of_ble_eq_true rfl) ⟨Nat.le_of_ble_eq_true rfl, Nat.le_of_ble_eq_true rfl⟩ ?_
  refine z_perm (ws' := lgW g.2 (adr [a2, b2, v 2, k2, n2]) R ++ (oW g.2 v R ++ ([(w2, .inl (g.2 0, 12, .inl (fun _ => 0)))] ++ xW g.2 x u c a h e Q P T R (nI s) (nI p) K))) perm_w2 ?_
  refine z_iconst (pc := 56) (v := nI 0) hC dL_would_56 (by decide) ?_
  refine z_is (pc := 57) (lv' := [(11, .int (nI 0)), (10, .ref w2), (9, .ref n2), (8, .ref k2), (7, .ref b2), (6, .ref a2), (0, .ref x), (1, .ref (v 0)), (2, .ref (v 1)), (3, .ref (v 2)), (4, .ref (v 3)), (5, .ref (v 4))]) hC hm (by decide) rfl dL_would_57 ?_
  refine z_lv (lv' := [(11, .int (nI 0)), (0, .ref x), (1, .ref (v 0)), (2, .ref (v 1)), (3, .ref (v 2)), (4, .ref (v 3)), (5, .ref (v 4)), (6, .ref a2), (7, .ref b2), (8, .ref k2), (9, .ref n2), (10, .ref w2)]) [0, 6, 7, 8, 9, 10, 11, 5, 4, 3, 2, 1] rfl ?_
  exact l1 a2 b2 k2 n2 w2 (nn R) 0 _ (by omega) (fun j h => absurd h (Nat.not_lt_zero j))
