/-! THE LAW'S LOOP, over any record of draws -/
theorem dc_two {p q : UInt64} (h : p = q ∨ (FP.dcmp p p = none ∧ FP.dcmp q q = none)) (h0 : ¬ Op.cmpValue (FP.dcmp p q) CmpOp.l = 0) : ¬ Op.cmpValue (FP.dcmp p p) CmpOp.l = 0 ∧ ¬ Op.cmpValue (FP.dcmp q q) CmpOp.l = 0 := by
  rcases h with h | ⟨h1, h2⟩
  · subst h; exact ⟨h0, h0⟩
  · rw [h1, h2]; exact ⟨by decide, by decide⟩
abbrev lC (p : Program) (l : Launch) (v : Env) (s : State) (m : MethodId) (below : List Frame) (meth : Method) (cd : Code) (b : Nat) (d : Drawn) : zC := (p, l, v, zRm 10 601024 7293034, s.setDrawn d, m, #[.ref b], below, meth, cd, fun q => s.heap.size ≤ q, lw_Z below #[Value.ref b] s)
section LLOOP
variable {g : zG} {p : Program} {l : Launch} {v : Env} {s : State} {m : MethodId} {below : List Frame} {meth : Method} {cd : Code} {b L : Nat} {xs : Nat → Int32} {x : Nat} {u c a h : Nat → Nat} {e : Nat → Nat → Nat} {mb : Nat → Nat} {o : Nat}
set_option maxRecDepth 100000 in
set_option maxHeartbeats 4000000 in
theorem lc_success (hO : ∀ d, lOK g (lC p l v s m below meth cd b d) b L xs) {i k n : Nat} (hk : k + 1 ≤ 601024 ∧ n + 6 ≤ 7293034) {ws : va_W} (hI : lI g.2 x u c a h e mb o ws) {d0 : Drawn} (hd0 : s.drawn.sameBut d0 lw_cs)
    (kk : ∀ ws' d1, s.drawn.sameBut d1 lw_cs → lI g.2 x u c a h e mb o ws' → Z g (lC p l v s m below meth cd b d1) (k + 1) (n + 6) ws' (lL b x (mb 0) o i) 1355 []) : Z g (lC p l v s m below meth cd b d0) k n ws (lL b x (mb 0) o i) 1288 [] := by
  obtain ⟨Q, P, T, R, s1, p1, K, H, t, Lt, f, F, V, hG, hX, hM, hH, rfl⟩ := hI
  have hk0 : k ≤ 601024 ∧ n ≤ 7293034 := ⟨by omega, by omega⟩
  refine z_w (ws' := (xW g.2 x u c a h e Q P T R (nI s1) (nI p1) K ++ [(o, .inl (g.2 3, 1, .inr (.inl f)))]) ++ mW g.2 mb R F V) rfl ?_
  refine z_aln (pc := 1288) (hO d0).1 2 rfl dL_law_1288 ?_
  refine z_vd (pc := 1289) (rest := []) (As := []) hd0 (hO d0).1 vX5_success lL_161 dL_law_1289 (k_success hG hX) [] ([(o, .inl (g.2 3, 1, .inr (.inl f)))] ++ mW g.2 mb R F V) (by rw [List.append_assoc, List.nil_append]) 0 5 rfl rfl rfl rfl rfl (Nat.le_of_ble_eq_true rfl) (Nat.le_of_ble_eq_true rfl) hk0 (fun r1 _ d1 hp1 hd1 => ?_)
  refine z_w (ws' := (xW g.2 x u c a h e Q P T R (nI s1) (nI p1) K ++ [(o, .inl (g.2 3, 1, .inr (.inl f)))]) ++ mW g.2 mb R F V) (by rw [List.nil_append, List.append_assoc]) ?_
  refine z_dst (pc := 1292) (lv' := (5, .double r1) :: lL b x (mb 0) o i) (hO d1).1 (hO d1).2.1 (by decide) rfl dL_law_1292 ?_
  refine z_aln (pc := 1294) (hO d1).1 4 rfl dL_law_1294 ?_
  refine z_vd (pc := 1295) (rest := []) (As := []) hd1 (hO d1).1 vX6_success lL_165 dL_law_1295 (m_success (R := R) (F := F) (V := V)) (xW g.2 x u c a h e Q P T R (nI s1) (nI p1) K ++ [(o, .inl (g.2 3, 1, .inr (.inl f)))]) [] (by rw [List.append_nil]) 0 6 rfl rfl rfl rfl rfl (Nat.le_of_ble_eq_true rfl) (Nat.le_of_ble_eq_true rfl) hk0 (fun r2 _ d2 hp2 hd2 => ?_)
  refine z_w (ws' := (xW g.2 x u c a h e Q P T R (nI s1) (nI p1) K ++ [(o, .inl (g.2 3, 1, .inr (.inl f)))]) ++ mW g.2 mb R F (upd V 1 0)) (by rw [List.append_nil]) ?_
  refine z_dst (pc := 1298) (lv' := (7, .double r2) :: (5, .double r1) :: lL b x (mb 0) o i) (hO d2).1 (hO d2).2.1 (by decide) rfl dL_law_1298 ?_
  have key := alike_two hp1 hp2
  have KK : Z g (lC p l v s m below meth cd b d2) k n ((xW g.2 x u c a h e Q P T R (nI s1) (nI p1) K ++ [(o, .inl (g.2 3, 1, .inr (.inl f)))]) ++ mW g.2 mb R F (upd V 1 0)) ((7, .double r2) :: (5, .double r1) :: lL b x (mb 0) o i) 1326 [] := by
    refine z_goto (pc := 1326) (hO d2).1 1355 (by decide) dL_law_1326 ?_
    refine z_lv [2, 3, 4, 5, 6] rfl ?_
    refine z_widen (k' := k + 1) (n' := n + 6) (by omega) (by omega) ?_
    exact kk _ d2 hd2 ⟨Q, P, T, R, s1, p1, K, H, t, Lt, f, F, upd V 1 0, hG, hX, mR_keep hM rfl rfl rfl rfl, hH, rfl⟩
  refine z_dl (pc := 1300) (hO d2).1 1 rfl dL_law_1300 ?_
  refine z_dl (pc := 1302) (hO d2).1 0 rfl dL_law_1302 ?_
  refine z_dcmp (pc := 1304) (hO d2).1 dL_law_1304 ?_
  refine z_ifeq (pc := 1305) (hO d2).1 1326 (by decide) dL_law_1305 (fun _ => KK) (fun q => ?_)
  obtain ⟨q1, q2⟩ := dc_two key q
  refine z_dl (pc := 1308) (hO d2).1 1 rfl dL_law_1308 ?_
  refine z_dl (pc := 1310) (hO d2).1 1 rfl dL_law_1310 ?_
  refine z_dcmp (pc := 1312) (hO d2).1 dL_law_1312 ?_
  refine z_ifeq (pc := 1313) (hO d2).1 1324 (by decide) dL_law_1313 (fun z => absurd z q1) (fun _ => ?_)
  refine z_dl (pc := 1316) (hO d2).1 0 rfl dL_law_1316 ?_
  refine z_dl (pc := 1318) (hO d2).1 0 rfl dL_law_1318 ?_
  refine z_dcmp (pc := 1320) (hO d2).1 dL_law_1320 ?_
  exact z_ifne (pc := 1321) (hO d2).1 1326 (by decide) dL_law_1321 (fun _ => KK) (fun z => absurd z q2)
set_option maxRecDepth 100000 in
set_option maxHeartbeats 4000000 in
theorem lc_turn (hO : ∀ d, lOK g (lC p l v s m below meth cd b d) b L xs) {i k n : Nat} (hi : i + 5 ≤ L) (hk : k + 1 ≤ 601024 ∧ n + 6 ≤ 7293034) {ws : va_W} (hI : lI g.2 x u c a h e mb o ws) {d : Drawn} (hd : s.drawn.sameBut d lw_cs)
    (K : ∀ ws' d1, s.drawn.sameBut d1 lw_cs → lI g.2 x u c a h e mb o ws' → Z g (lC p l v s m below meth cd b d1) (k + 1) (n + 6) ws' (lL b x (mb 0) o i) 1355 []) : Z g (lC p l v s m below meth cd b d) k n ws (lL b x (mb 0) o i) 32 [] := by
  obtain ⟨hC, hm, hXs, hbl, hbA, h0, hZX, hNc, hL⟩ := id (hO d)
  refine z_aln (pc := 32) hC 1 rfl dL_law_32 ?_
  refine z_il (pc := 33) hC 0 rfl dL_law_33 ?_
  refine z_sld (pc := 35) hC hXs hbl hbA (by omega) dL_law_35 i rfl (by omega) ?_
  refine z_bipush (pc := 36) (v := 31) hC dL_law_36 (by decide) ?_
  obtain ⟨j, hj, ej⟩ := sw_31 (xs i)
  refine z_iand (pc := 38) (v := nI j) hC ej dL_law_38 ?_
  have hK : ∀ ws', lI g.2 x u c a h e mb o ws' → Z g (lC p l v s m below meth cd b d) (k + 1) (n + 6) ws' (lL b x (mb 0) o i) 1355 [] := fun ws' q => K ws' d hd q
  rcases (show j = 0 ∨ j = 1 ∨ j = 2 ∨ j = 3 ∨ j = 4 ∨ j = 5 ∨ j = 6 ∨ j = 7 ∨ j = 8 ∨ j = 9 ∨ j = 10 ∨ j = 11 ∨ j = 12 ∨ j = 13 ∨ j = 14 ∨ j = 15 ∨ j = 16 ∨ j = 17 ∨ j = 18 ∨ j = 19 ∨ j = 20 ∨ j = 21 ∨ j = 22 ∨ j = 23 ∨ j = 24 ∨ j = 25 ∨ 26 ≤ j by omega) with rfl | rfl | rfl | rfl | rfl | rfl | rfl | rfl | rfl | rfl | rfl | rfl | rfl | rfl | rfl | rfl | rfl | rfl | rfl | rfl | rfl | rfl | rfl | rfl | rfl | rfl | hj2
  · refine z_tableIn (pc := 39) (off := 117) hC 156 dL_law_39 (by decide +kernel) (by decide) ?_
    exact lc_submit (hO d) hi hk hI hK
  · refine z_tableIn (pc := 39) (off := 209) hC 248 dL_law_39 (by decide +kernel) (by decide) ?_
    exact lc_cancel (hO d) hi hk hI hK
  · refine z_tableIn (pc := 39) (off := 265) hC 304 dL_law_39 (by decide +kernel) (by decide) ?_
    exact lc_setSticker (hO d) hi hk hI hK
  · refine z_tableIn (pc := 39) (off := 333) hC 372 dL_law_39 (by decide +kernel) (by decide) ?_
    exact lc_setRing (hO d) hi hk hI hK
  · refine z_tableIn (pc := 39) (off := 424) hC 463 dL_law_39 (by decide +kernel) (by decide) ?_
    exact lc_pass (hO d) hi hk hI hK
  · refine z_tableIn (pc := 39) (off := 480) hC 519 dL_law_39 (by decide +kernel) (by decide) ?_
    exact lc_nextDay (hO d) hi hk hI hK
  · refine z_tableIn (pc := 39) (off := 524) hC 563 dL_law_39 (by decide +kernel) (by decide) ?_
    exact lc_set (hO d) hi hk hI hK
  · refine z_tableIn (pc := 39) (off := 592) hC 631 dL_law_39 (by decide +kernel) (by decide) ?_
    exact lc_appendText (hO d) hi hk hI hK
  · refine z_tableIn (pc := 39) (off := 648) hC 687 dL_law_39 (by decide +kernel) (by decide) ?_
    exact lc_clearText (hO d) hi hk hI hK
  · refine z_tableIn (pc := 39) (off := 661) hC 700 dL_law_39 (by decide +kernel) (by decide) ?_
    exact lc_errorPosition (hO d) hi hk hI hK
  · refine z_tableIn (pc := 39) (off := 674) hC 713 dL_law_39 (by decide +kernel) (by decide) ?_
    exact lc_runText (hO d) hi hk hI hK
  · refine z_tableIn (pc := 39) (off := 718) hC 757 dL_law_39 (by decide +kernel) (by decide) ?_
    exact lc_undo (hO d) hi hk hI hK
  · refine z_tableIn (pc := 39) (off := 762) hC 801 dL_law_39 (by decide +kernel) (by decide) ?_
    exact lc_reel (hO d) hi hk hI hK
  · refine z_tableIn (pc := 39) (off := 830) hC 869 dL_law_39 (by decide +kernel) (by decide) ?_
    exact lc_reelOn (hO d) hi hk hI hK
  · refine z_tableIn (pc := 39) (off := 886) hC 925 dL_law_39 (by decide +kernel) (by decide) ?_
    exact lc_scratchReels (hO d) hi hk hI hK
  · refine z_tableIn (pc := 39) (off := 899) hC 938 dL_law_39 (by decide +kernel) (by decide) ?_
    exact lc_jobs (hO d) hi hk hI hK
  · refine z_tableIn (pc := 39) (off := 912) hC 951 dL_law_39 (by decide +kernel) (by decide) ?_
    exact lc_job (hO d) hi hk hI hK
  · refine z_tableIn (pc := 39) (off := 980) hC 1019 dL_law_39 (by decide +kernel) (by decide) ?_
    exact lc_isStuck (hO d) hi hk hI hK
  · refine z_tableIn (pc := 39) (off := 1043) hC 1082 dL_law_39 (by decide +kernel) (by decide) ?_
    exact lc_verdict (hO d) hi hk hI hK
  · refine z_tableIn (pc := 39) (off := 1111) hC 1150 dL_law_39 (by decide +kernel) (by decide) ?_
    exact lc_nextJob (hO d) hi hk hI hK
  · refine z_tableIn (pc := 39) (off := 1124) hC 1163 dL_law_39 (by decide +kernel) (by decide) ?_
    exact lc_nextReel (hO d) hi hk hI hK
  · refine z_tableIn (pc := 39) (off := 1137) hC 1176 dL_law_39 (by decide +kernel) (by decide) ?_
    exact lc_minutesToDone (hO d) hi hk hI hK
  · refine z_tableIn (pc := 39) (off := 1193) hC 1232 dL_law_39 (by decide +kernel) (by decide) ?_
    exact lc_count (hO d) hi hk hI hK
  · refine z_tableIn (pc := 39) (off := 1249) hC 1288 dL_law_39 (by decide +kernel) (by decide) ?_
    exact lc_success hO hk hI hd K
  · refine z_tableIn (pc := 39) (off := 1290) hC 1329 dL_law_39 (by decide +kernel) (by decide) ?_
    exact lc_savedStates (hO d) hi hk hI hK
  · refine z_tableIn (pc := 39) (off := 1303) hC 1342 dL_law_39 (by decide +kernel) (by decide) ?_
    exact lc_textLength (hO d) hi hk hI hK
  · refine z_tableOut (pc := 39) hC 1355 dL_law_39 (Or.inr (by rw [nI_toInt (by omega)]; omega)) (by decide) ?_
    refine z_widen (k' := k + 1) (n' := n + 6) (by omega) (by omega) ?_
    exact hK _ hI
set_option maxRecDepth 100000 in
set_option maxHeartbeats 4000000 in
theorem lc_loop (hO : ∀ d, lOK g (lC p l v s m below meth cd b d) b L xs) (hE : ∀ (d : Drawn) (k n : Nat) (ws : va_W) (lv : List (Nat × Value)), s.drawn.sameBut d lw_cs → k ≤ 601024 → n ≤ 7293034 → Z g (lC p l v s m below meth cd b d) k n ws lv 1362 [.int 1]) :
    ∀ (N i k n : Nat) (ws : va_W) (d : Drawn), s.drawn.sameBut d lw_cs → L ≤ i + 5 * N + 4 → i ≤ L → k + N ≤ 601024 → n + 6 * N ≤ 7293034 → lI g.2 x u c a h e mb o ws → Z g (lC p l v s m below meth cd b d) k n ws (lL b x (mb 0) o i) 23 [] := by
  intro N
  induction N with
  | zero =>
    intro i k n ws d hd hN hi hk hn hI
    obtain ⟨hC, hm, hXs, hbl, hbA, h0, hZX, hNc, hL⟩ := id (hO d)
    refine z_il (pc := 23) hC 0 rfl dL_law_23 ?_
    refine z_aln (pc := 25) hC 1 rfl dL_law_25 ?_
    refine z_slen (pc := 26) hC hXs hbl hbA dL_law_26 ?_
    refine z_iconst (pc := 27) (v := 5) hC dL_law_27 (by decide) ?_
    refine z_isub (pc := 28) (v := nI L - 5) hC rfl dL_law_28 ?_
    refine z_icgt (pc := 29) hC 1361 (by decide) dL_law_29 (fun _ => ?_) (fun q => absurd ((end_iff (by omega) hL).mpr (by omega)) q)
    refine z_iconst (pc := 1361) (v := 1) hC dL_law_1361 (by decide) ?_
    exact hE d k n ws _ hd (by omega) (by omega)
  | succ N ih =>
    intro i k n ws d hd hN hi hk hn hI
    obtain ⟨hC, hm, hXs, hbl, hbA, h0, hZX, hNc, hL⟩ := id (hO d)
    refine z_il (pc := 23) hC 0 rfl dL_law_23 ?_
    refine z_aln (pc := 25) hC 1 rfl dL_law_25 ?_
    refine z_slen (pc := 26) hC hXs hbl hbA dL_law_26 ?_
    refine z_iconst (pc := 27) (v := 5) hC dL_law_27 (by decide) ?_
    refine z_isub (pc := 28) (v := nI L - 5) hC rfl dL_law_28 ?_
    refine z_icgt (pc := 29) hC 1361 (by decide) dL_law_29 (fun _ => ?_) (fun q => ?_)
    · refine z_iconst (pc := 1361) (v := 1) hC dL_law_1361 (by decide) ?_
      exact hE d k n ws _ hd (by omega) (by omega)
    · have hi5 : i + 5 ≤ L := Nat.le_of_not_lt (fun z => q ((end_iff (by omega) hL).mpr z))
      refine lc_turn hO hi5 ⟨by omega, by omega⟩ hI hd (fun ws' d1 hd1 hI1 => ?_)
      refine z_iinc (pc := 1355) (v := nI (i + 5)) (lv' := lL b x (mb 0) o (i + 5)) (hO d1).1 (hO d1).2.1 (by decide) (j := 0) rfl (by rw [show Int32.ofInt 5 = nI 5 by decide]; exact nI_add i 5) rfl dL_law_1355 ?_
      refine z_goto (pc := 1358) (hO d1).1 23 (by decide) dL_law_1358 ?_
      exact ih (i + 5) (k + 1) (n + 6) ws' d1 hd1 (by omega) hi5 (by omega) (by omega) hI1
end LLOOP
