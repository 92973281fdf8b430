theorem nI_succ_of {s : Nat} (h : ¬ nI s = 0) : ∃ q, s = q + 1 := ⟨s - 1, by
  have : ¬ s = 0 := fun e => h (by rw [e]; rfl)
  omega⟩
theorem va_up_id {α : Type} (F : Nat → α) (k : Nat) : va_up F k (F k) = F := by
  funext j; simp only [va_up]; split
  · rename_i h; rw [h]
  · rfl
section Z0
variable {g : zG} {C : zC} {cc : ByteArray} {own : String} {d mc ms k n : Nat} {ws : va_W} {lv : List (Nat × Value)} {pc : Nat} {st rest : List Value}
variable {S : Type} {y : MethodName} {cy : ByteArray} {nl d' np idx b : Nat} {ret : FieldType} {As : List Value} {w : va_W} {w' : S → va_W}
theorem z_i0 (hC : zOK g C cc own d mc ms) (hy : vM y cy nl (some ret) np) (hl : Cond.methodLink own idx y ∈ aw) (hdg : decode cc pc = .ok (.invokevirtual idx, 3)) {post : Int32 → S → Prop} (hM : FI g y cy nl ret d' 0 0 (.ref b :: As) w post w') (hw : ws = w) (q0 ci : Nat) {fs : List Value} {r : vw_C} (he : w[q0]? = some (b, .inr (ci, fs))) (hr : vwCl[ci]? = some r) (hR : r.1 = y.cls)
    (hn : As.length = np) (hst : st = As.reverse ++ .ref b :: rest) (hd : d' + 1 ≤ d) (hcat : (rest.map fun v => v.category).sum ≤ 8) (hk : k ≤ mc ∧ n ≤ ms)
    (kk : ∀ (r : Int32) (u : S), post r u → Z g C k n (w' u) lv (pc + 3) (.int r :: rest)) : Z g C k n ws lv pc st :=
  z_viP hC hy hl hdg hM [] (by rw [hw, List.append_nil]) q0 ci he hr hR hn hst hd hcat hk w' (fun u => by rw [List.append_nil]) kk
theorem z_v0 (hC : zOK g C cc own d mc ms) (hy : vM y cy nl none np) (hl : Cond.methodLink own idx y ∈ aw) (hdg : decode cc pc = .ok (.invokevirtual idx, 3)) {post : S → Prop} (hM : FV g y cy nl d' 0 0 (.ref b :: As) w post w') (hw : ws = w) (q0 ci : Nat) {fs : List Value} {r : vw_C} (he : w[q0]? = some (b, .inr (ci, fs))) (hr : vwCl[ci]? = some r) (hR : r.1 = y.cls)
    (hn : As.length = np) (hst : st = As.reverse ++ .ref b :: rest) (hd : d' + 1 ≤ d) (hcat : (rest.map fun v => v.category).sum ≤ 8) (hk : k ≤ mc ∧ n ≤ ms)
    (kk : ∀ (u : S), post u → Z g C k n (w' u) lv (pc + 3) rest) : Z g C k n ws lv pc st :=
  z_vvP hC hy hl hdg hM [] (by rw [hw, List.append_nil]) q0 ci he hr hR hn hst hd hcat hk w' (fun u => by rw [List.append_nil]) kk
end Z0
theorem wrt_s0 (f h : Nat → Int32) (m : Nat) : upd (wrt f h 0 m) m (h m) = wrt f h 0 (m + 1) := by
  have := wrt_s f h 0 m
  rwa [Nat.zero_add] at this
theorem wrt_in (f h : Nat → Int32) {m j : Nat} (hj : j < m) : wrt f h 0 m j = h j := by
  simp only [wrt]; rw [if_pos ⟨Nat.zero_le _, by omega⟩, Nat.sub_zero]

set_option maxRecDepth 100000 in
set_option maxHeartbeats 4000000 in
theorem m_save {g : zG} {b : Nat → Nat} {R : St} {F : Nat → Nat → Int32} {V : Nat → Int32} {H : Nat → St} {s : Nat} (hs : V 0 = nI s) (hs6 : s ≤ 6) (he : enc (F 0) H s) : FV (S := Nat → Int32) g yX6_save cX6_save 2 0 0 0 [.ref (b 0)] (mW g.2 b R F V) (fun f => enc f (pushH H s R) (pushN s)) (fun f => mW g.2 b R (va_up F 0 f) (upd V 0 (nI (pushN s)))) := by
  refine fv_entry (by decide) (Nat.le_of_ble_eq_true rfl) (fun C hC hm _ hE => ?_)
  have loop2 : ∀ (q : Nat) (f : Nat → Int32) (U : Nat → Int32), q < 6 → U 0 = nI q → enc (wrt f (flat R) (179 * q) 179) (pushH H s R) (pushN s) → upd U 0 (nI (q + 1)) = upd V 0 (nI (pushN s)) → ∀ k m : Nat, m + k = 179 → Z g C 0 0 (mW g.2 b R (va_up F 0 (wrt f (flat R) (179 * q) m)) U) [(1, .int (nI m)), (0, .ref (b 0))] 52 [] := by
    intro q f U hq hU h1 h2 k
    induction k with
    | zero =>
      intro m hm2
      refine z_iln (pc := 52) hC 0 rfl dX6_save_52 ?_
      refine z_sipush (pc := 53) (v := nI 179) hC dX6_save_53 (by decide) ?_
      refine z_icge (pc := 56) hC 86 (by decide) dX6_save_56 (fun c56 => ?_) (fun c56 => absurd (nI_le (by omega) (by omega)) c56)
      refine z_aln (pc := 86) hC 1 rfl dX6_save_86 ?_
      refine z_dup (pc := 87) hC rfl dX6_save_87 ?_
      refine z_get (pc := 88) hC fX6_50 0 rfl rfl dX6_save_88 ?_
      refine z_iconst (pc := 91) (v := 1) hC dX6_save_91 (by decide) ?_
      refine z_iadd (pc := 92) (v := nI (q + 1)) hC (by rw [hU]; exact nI_1 q) dX6_save_92 ?_
      refine z_put (pc := 93) (ws' := mW g.2 b R (va_up F 0 (wrt f (flat R) (179 * q) m)) (upd U 0 (nI (q + 1)))) hC fX6_50 p6_2 0 rfl (Nat.le_of_ble_eq_true rfl) (mW_V 2 0 (by decide)) dX6_save_93 ?_
      exact hE _ _ (wrt f (flat R) (179 * q) 179) _ _ _ dX6_save_96 h1 (by rw [show m = 179 by omega, h2]) (Nat.le_refl _) (Nat.le_refl _)
    | succ k ih =>
      intro m hm2
      refine z_iln (pc := 52) hC 0 rfl dX6_save_52 ?_
      refine z_sipush (pc := 53) (v := nI 179) hC dX6_save_53 (by decide) ?_
      refine z_icge (pc := 56) hC 86 (by decide) dX6_save_56 (fun c56 => absurd c56 (nI_ge (by omega) (by omega))) (fun c56 => ?_)
      refine z_aln (pc := 59) hC 1 rfl dX6_save_59 ?_
      refine z_get (pc := 60) hC fX6_13 0 rfl rfl dX6_save_60 ?_
      refine z_sipush (pc := 63) (v := nI 179) hC dX6_save_63 (by decide) ?_
      refine z_aln (pc := 66) hC 1 rfl dX6_save_66 ?_
      refine z_get (pc := 67) hC fX6_50 0 rfl rfl dX6_save_67 ?_
      refine z_is_ (y := nI q) hU ?_
      refine z_imul (pc := 70) (v := nI (179 * q)) hC (pk_mul 179 q) dX6_save_70 ?_
      refine z_iln (pc := 71) hC 0 rfl dX6_save_71 ?_
      refine z_iadd (pc := 72) (v := nI (179 * q + m)) hC (nI_add _ _) dX6_save_72 ?_
      refine z_aln (pc := 73) hC 1 rfl dX6_save_73 ?_
      refine z_get (pc := 74) hC fX6_7 0 rfl rfl dX6_save_74 ?_
      refine z_iln (pc := 77) hC 0 rfl dX6_save_77 ?_
      refine z_iald (pc := 78) hC 1 rfl dX6_save_78 m rfl (by omega) (by decide) ?_
      refine z_iast (pc := 79) (ws' := mW g.2 b R (va_up F 0 (wrt f (flat R) (179 * q) (m + 1))) U) hC 2 rfl dX6_save_79 (179 * q + m) rfl (by omega) (by decide) (mW_F0' (wrt_s _ _ _ _)) ?_
      refine z_iinc (pc := 80) (v := nI (m + 1)) (j := 0) (lv' := [(1, .int (nI (m + 1))), (0, .ref (b 0))]) hC hm (by decide) rfl (up_step m) rfl dX6_save_80 ?_
      refine z_goto (pc := 83) hC 52 (by decide) dX6_save_83 ?_
      refine z_lv [0, 1] rfl ?_
      exact ih (m + 1) (by omega)
  have loop1 : s = 6 → ∀ k m : Nat, m + k = 895 → Z g C 0 0 (mW g.2 b R (va_up F 0 (shf (F 0) m)) V) [(1, .int (nI m)), (0, .ref (b 0))] 11 [] := by
    intro h6 k
    induction k with
    | zero =>
      intro m hm2
      refine z_iln (pc := 11) hC 0 rfl dX6_save_11 ?_
      refine z_sipush (pc := 12) (v := nI 895) hC dX6_save_12 (by decide) ?_
      refine z_icge (pc := 15) hC 40 (by decide) dX6_save_15 (fun c15 => ?_) (fun c15 => absurd (nI_le (by omega) (by omega)) c15)
      refine z_aln (pc := 40) hC 1 rfl dX6_save_40 ?_
      refine z_dup (pc := 41) hC rfl dX6_save_41 ?_
      refine z_get (pc := 42) hC fX6_50 0 rfl rfl dX6_save_42 ?_
      refine z_iconst (pc := 45) (v := 1) hC dX6_save_45 (by decide) ?_
      refine z_isub (pc := 46) (v := nI 5) hC (by rw [hs, h6]; decide) dX6_save_46 ?_
      refine z_put (pc := 47) (ws' := mW g.2 b R (va_up F 0 (shf (F 0) m)) (upd V 0 (nI 5))) hC fX6_50 p6_2 0 rfl (Nat.le_of_ble_eq_true rfl) (mW_V 2 0 (by decide)) dX6_save_47 ?_
      refine z_iconst (pc := 50) (v := nI 0) hC dX6_save_50 (by decide) ?_
      refine z_isn (pc := 51) (lv' := [(1, .int (nI 0)), (0, .ref (b 0))]) hC hm (by decide) rfl dX6_save_51 ?_
      refine z_w (ws' := mW g.2 b R (va_up F 0 (wrt (shf (F 0) 895) (flat R) (179 * 5) 0)) (upd V 0 (nI 5))) (by rw [wrt_0, show m = 895 by omega]) ?_
      refine z_lv [0, 1] rfl ?_
      exact loop2 5 (shf (F 0) 895) (upd V 0 (nI 5)) (by omega) (upd_eq _ _ _) (by rw [h6] at he ⊢; exact enc_shift he) (by rw [upd_upd, h6]; rfl) 179 0 rfl
    | succ k ih =>
      intro m hm2
      refine z_iln (pc := 11) hC 0 rfl dX6_save_11 ?_
      refine z_sipush (pc := 12) (v := nI 895) hC dX6_save_12 (by decide) ?_
      refine z_icge (pc := 15) hC 40 (by decide) dX6_save_15 (fun c15 => absurd c15 (nI_ge (by omega) (by omega))) (fun c15 => ?_)
      refine z_aln (pc := 18) hC 1 rfl dX6_save_18 ?_
      refine z_get (pc := 19) hC fX6_13 0 rfl rfl dX6_save_19 ?_
      refine z_iln (pc := 22) hC 0 rfl dX6_save_22 ?_
      refine z_aln (pc := 23) hC 1 rfl dX6_save_23 ?_
      refine z_get (pc := 24) hC fX6_13 0 rfl rfl dX6_save_24 ?_
      refine z_iln (pc := 27) hC 0 rfl dX6_save_27 ?_
      refine z_sipush (pc := 28) (v := nI 179) hC dX6_save_28 (by decide) ?_
      refine z_iadd (pc := 31) (v := nI (m + 179)) hC (nI_add _ _) dX6_save_31 ?_
      refine z_iald (pc := 32) hC 2 rfl dX6_save_32 (m + 179) rfl (by omega) (by decide) ?_
      refine z_is_ (y := F 0 (m + 179)) (shf_at _ _) ?_
      refine z_iast (pc := 33) (ws' := mW g.2 b R (va_up F 0 (shf (F 0) (m + 1))) V) hC 2 rfl dX6_save_33 m rfl (by omega) (by decide) (mW_F0' (shf_s _ _)) ?_
      refine z_iinc (pc := 34) (v := nI (m + 1)) (j := 0) (lv' := [(1, .int (nI (m + 1))), (0, .ref (b 0))]) hC hm (by decide) rfl (up_step m) rfl dX6_save_34 ?_
      refine z_goto (pc := 37) hC 11 (by decide) dX6_save_37 ?_
      refine z_lv [0, 1] rfl ?_
      exact ih (m + 1) (by omega)
  refine z_aln (pc := 0) hC 0 rfl dX6_save_0 ?_
  refine z_get (pc := 1) hC fX6_50 0 rfl rfl dX6_save_1 ?_
  refine z_is_ (y := nI s) hs ?_
  refine z_bipush (pc := 4) (v := nI 6) hC dX6_save_4 (by decide) ?_
  refine z_icne (pc := 6) hC 50 (by decide) dX6_save_6 (fun c6 => ?_) (fun c6 => ?_)
  · have h6 : s < 6 := by
      have : ¬ s = 6 := fun e => c6 (by rw [e])
      omega
    refine z_iconst (pc := 50) (v := nI 0) hC dX6_save_50 (by decide) ?_
    refine z_isn (pc := 51) (lv' := [(1, .int (nI 0)), (0, .ref (b 0))]) hC hm (by decide) rfl dX6_save_51 ?_
    refine z_w (ws' := mW g.2 b R (va_up F 0 (wrt (F 0) (flat R) (179 * s) 0)) V) (by rw [wrt_0, va_up_id]) ?_
    refine z_lv [0, 1] rfl ?_
    exact loop2 s (F 0) V h6 hs (enc_push he h6) (by rw [show pushN s = s + 1 from if_neg (by omega)]) 179 0 rfl
  · have h6 : s = 6 := nI_inj (by omega) (by omega) c6
    refine z_iconst (pc := 9) (v := nI 0) hC dX6_save_9 (by decide) ?_
    refine z_isn (pc := 10) (lv' := [(1, .int (nI 0)), (0, .ref (b 0))]) hC hm (by decide) rfl dX6_save_10 ?_
    refine z_w (ws' := mW g.2 b R (va_up F 0 (shf (F 0) 0)) V) (by rw [shf_0, va_up_id]) ?_
    refine z_lv [0, 1] rfl ?_
    exact loop1 h6 895 0 rfl

set_option maxRecDepth 100000 in
set_option maxHeartbeats 4000000 in
theorem m_thrown {g : zG} {b : Nat → Nat} {R : St} {F : Nat → Nat → Int32} {V : Nat → Int32} : Gi g yX6_thrown cX6_thrown 1 .int 0 [.ref (b 0)] (mW g.2 b R F V) (V 1) (mW g.2 b R F V) := by
  refine fi_entry (by decide) (Nat.le_of_ble_eq_true rfl) (fun C hC hm hE => ?_)
  refine z_aln (pc := 0) hC 0 rfl dX6_thrown_0 ?_
  refine z_get (pc := 1) hC fX6_38 0 rfl rfl dX6_thrown_1 ?_
  exact hE _ _ _ () _ _ _ dX6_thrown_4 rfl rfl rfl (Nat.le_refl _) (Nat.le_refl _)

set_option maxRecDepth 100000 in
set_option maxHeartbeats 4000000 in
theorem m_fails {g : zG} {b : Nat → Nat} {R : St} {F : Nat → Nat → Int32} {V : Nat → Int32} {x : Int32} : Gi g yX6_fails cX6_fails 2 .int 0 [.ref (b 0), .int x] (mW g.2 b R F V) 0 (mW g.2 b R F (upd V 1 x)) := by
  refine fi_entry (by decide) (Nat.le_of_ble_eq_true rfl) (fun C hC hm hE => ?_)
  refine z_aln (pc := 0) hC 0 rfl dX6_fails_0 ?_
  refine z_iln (pc := 1) hC 1 rfl dX6_fails_1 ?_
  refine z_put (pc := 2) (ws' := mW g.2 b R F (upd V 1 x)) hC fX6_38 p6_4 0 rfl (Nat.le_of_ble_eq_true rfl) (mW_V 4 1 (by decide)) dX6_fails_2 ?_
  refine z_iconst (pc := 5) (v := 0) hC dX6_fails_5 (by decide) ?_
  exact hE _ _ _ () _ _ _ dX6_fails_6 rfl rfl rfl (Nat.le_refl _) (Nat.le_refl _)

set_option maxRecDepth 100000 in
set_option maxHeartbeats 4000000 in
theorem m_undo {g : zG} {b : Nat → Nat} {R : St} {F : Nat → Nat → Int32} {V : Nat → Int32} {H : Nat → St} {s : Nat} (hs : V 0 = nI s) (hs6 : s ≤ 6) (he : enc (F 0) H s) : Gi g yX6_undo cX6_undo 2 .int 1 [.ref (b 0)] (mW g.2 b R F V) (if s = 0 then 0 else nI (s - 1)) (if s = 0 then mW g.2 b R F (upd V 1 1) else mW g.2 b (H (s - 1)) F (upd (upd V 1 0) 0 (nI (s - 1)))) := by
  refine fi_entry (by decide) (Nat.le_of_ble_eq_true rfl) (fun C hC hm hE => ?_)
  have loop : ∀ q : Nat, V 0 = nI (q + 1) → enc (F 0) H (q + 1) → q + 1 ≤ 6 → zI g C cX6_undo .int 0 0 (fun r (_ : Unit) => r = (if q + 1 = 0 then 0 else nI (q + 1 - 1))) (fun _ => (if q + 1 = 0 then mW g.2 b R F (upd V 1 1) else mW g.2 b (H (q + 1 - 1)) F (upd (upd V 1 0) 0 (nI (q + 1 - 1))))) → ∀ k m : Nat, m + k = 179 → Z g C 0 0 (mX g.2 b (wrt (flat R) (fun p => F 0 (179 * q + p)) 0 m) F (upd (upd V 1 0) 0 (nI q))) [(1, .int (nI m)), (0, .ref (b 0))] 30 [] := by
    intro q hs he hs6 hE k
    induction k with
    | zero =>
      intro m hm2
      refine z_iln (pc := 30) hC 0 rfl dX6_undo_30 ?_
      refine z_sipush (pc := 31) (v := nI 179) hC dX6_undo_31 (by decide) ?_
      refine z_icge (pc := 34) hC 64 (by decide) dX6_undo_34 (fun c34 => ?_) (fun c34 => absurd (nI_le (by omega) (by omega)) c34)
      refine z_cell 1 (f' := flat (H q)) (ws' := mW g.2 b (H q) F (upd (upd V 1 0) 0 (nI q))) rfl (fun j hj => by rw [show m = 179 by omega, wrt_in _ _ hj]; exact he q (by omega) j hj) rfl ?_
      refine z_aln (pc := 64) hC 1 rfl dX6_undo_64 ?_
      refine z_get (pc := 65) hC fX6_50 0 rfl rfl dX6_undo_65 ?_
      refine z_is_ (y := nI q) (upd_eq _ _ _) ?_
      exact hE _ _ _ () _ _ _ dX6_undo_68 rfl (by rw [if_neg (by omega)]; rfl) (by rw [if_neg (by omega)]; rfl) (Nat.le_refl _) (Nat.le_refl _)
    | succ k ih =>
      intro m hm2
      refine z_iln (pc := 30) hC 0 rfl dX6_undo_30 ?_
      refine z_sipush (pc := 31) (v := nI 179) hC dX6_undo_31 (by decide) ?_
      refine z_icge (pc := 34) hC 64 (by decide) dX6_undo_34 (fun c34 => absurd c34 (nI_ge (by omega) (by omega))) (fun c34 => ?_)
      refine z_aln (pc := 37) hC 1 rfl dX6_undo_37 ?_
      refine z_get (pc := 38) hC fX6_7 0 rfl rfl dX6_undo_38 ?_
      refine z_iln (pc := 41) hC 0 rfl dX6_undo_41 ?_
      refine z_aln (pc := 42) hC 1 rfl dX6_undo_42 ?_
      refine z_get (pc := 43) hC fX6_13 0 rfl rfl dX6_undo_43 ?_
      refine z_sipush (pc := 46) (v := nI 179) hC dX6_undo_46 (by decide) ?_
      refine z_aln (pc := 49) hC 1 rfl dX6_undo_49 ?_
      refine z_get (pc := 50) hC fX6_50 0 rfl rfl dX6_undo_50 ?_
      refine z_is_ (y := nI q) (upd_eq _ _ _) ?_
      refine z_imul (pc := 53) (v := nI (179 * q)) hC (pk_mul 179 q) dX6_undo_53 ?_
      refine z_iln (pc := 54) hC 0 rfl dX6_undo_54 ?_
      refine z_iadd (pc := 55) (v := nI (179 * q + m)) hC (nI_add _ _) dX6_undo_55 ?_
      refine z_iald (pc := 56) hC 2 rfl dX6_undo_56 (179 * q + m) rfl (by omega) (by decide) ?_
      refine z_iast (pc := 57) (ws' := mX g.2 b (wrt (flat R) (fun p => F 0 (179 * q + p)) 0 (m + 1)) F (upd (upd V 1 0) 0 (nI q))) hC 1 rfl dX6_undo_57 m rfl (by omega) (by decide) (mX_f' (wrt_s0 _ (fun p => F 0 (179 * q + p)) _)) ?_
      refine z_iinc (pc := 58) (v := nI (m + 1)) (j := 0) (lv' := [(1, .int (nI (m + 1))), (0, .ref (b 0))]) hC hm (by decide) rfl (up_step m) rfl dX6_undo_58 ?_
      refine z_goto (pc := 61) hC 30 (by decide) dX6_undo_61 ?_
      refine z_lv [0, 1] rfl ?_
      exact ih (m + 1) (by omega)
  refine z_aln (pc := 0) hC 0 rfl dX6_undo_0 ?_
  refine z_iconst (pc := 1) (v := 0) hC dX6_undo_1 (by decide) ?_
  refine z_put (pc := 2) (ws' := mW g.2 b R F (upd V 1 0)) hC fX6_38 p6_4 0 rfl (Nat.le_of_ble_eq_true rfl) (mW_V 4 1 (by decide)) dX6_undo_2 ?_
  refine z_aln (pc := 5) hC 0 rfl dX6_undo_5 ?_
  refine z_get (pc := 6) hC fX6_50 0 rfl rfl dX6_undo_6 ?_
  refine z_is_ (y := nI s) hs ?_
  refine z_ifne (pc := 9) hC 18 (by decide) dX6_undo_9 (fun c9 => ?_) (fun c9 => ?_)
  · obtain ⟨q, rfl⟩ := nI_succ_of c9
    refine z_aln (pc := 18) hC 0 rfl dX6_undo_18 ?_
    refine z_dup (pc := 19) hC rfl dX6_undo_19 ?_
    refine z_get (pc := 20) hC fX6_50 0 rfl rfl dX6_undo_20 ?_
    refine z_iconst (pc := 23) (v := 1) hC dX6_undo_23 (by decide) ?_
    refine z_isub (pc := 24) (v := nI q) hC (by show V 0 - 1 = _; rw [hs]; exact nI_pred q) dX6_undo_24 ?_
    refine z_put (pc := 25) (ws' := mW g.2 b R F (upd (upd V 1 0) 0 (nI q))) hC fX6_50 p6_2 0 rfl (Nat.le_of_ble_eq_true rfl) (mW_V 2 0 (by decide)) dX6_undo_25 ?_
    refine z_iconst (pc := 28) (v := nI 0) hC dX6_undo_28 (by decide) ?_
    refine z_isn (pc := 29) (lv' := [(1, .int (nI 0)), (0, .ref (b 0))]) hC hm (by decide) rfl dX6_undo_29 ?_
    refine z_w (ws' := mX g.2 b (wrt (flat R) (fun p => F 0 (179 * q + p)) 0 0) F (upd (upd V 1 0) 0 (nI q))) (by rw [wrt_0]; rfl) ?_
    exact loop q hs he hs6 hE 179 0 rfl
  · have h0 : s = 0 := nI_inj (b := 0) (by omega) (by omega) c9
    refine z_aln (pc := 12) hC 0 rfl dX6_undo_12 ?_
    refine z_iconst (pc := 13) (v := 1) hC dX6_undo_13 (by decide) ?_
    refine z_g (pc := 14) (rest := []) hC vX6_fails lX6_53 dX6_undo_14 (m_fails (x := 1)) (fun w => w) isCtx_id rfl 0 6 rfl rfl rfl rfl rfl (by decide) (Nat.le_of_ble_eq_true rfl) ⟨Nat.le_refl _, Nat.le_refl _⟩ ?_
    exact hE _ _ _ () _ _ _ dX6_undo_17 rfl (by rw [if_pos h0]) (by rw [if_pos h0, upd_upd]) (Nat.le_refl _) (Nat.le_refl _)

set_option maxRecDepth 100000 in
set_option maxHeartbeats 4000000 in
theorem m_with {g : zG} {b : Nat → Nat} {R : St} {F : Nat → Nat → Int32} {V : Nat → Int32} {n : Nat} (hn : R 14 10 = nI n) (hn2 : n ≤ 12) {x : Int32} : Gi g yX6_with cX6_with 4 .int 1 [.ref (b 0), .int x] (mW g.2 b R F V) (cntS R x 0 n 0) (mW g.2 b R F V) := by
  refine fi_entry (by decide) (Nat.le_of_ble_eq_true rfl) (fun C hC hm hE => ?_)
  have loop : ∀ (k m : Nat) (y : Int32), m + k = n → cntS R x m k y = cntS R x 0 n 0 → Z g C 0 0 (mW g.2 b R F V) [(3, .int (nI m)), (2, .int y), (0, .ref (b 0)), (1, .int x)] 4 [] := by
    intro k
    induction k with
    | zero =>
      intro m y hm2 hp
      refine z_iln (pc := 4) hC 0 rfl dX6_with_4 ?_
      refine z_aln (pc := 5) hC 2 rfl dX6_with_5 ?_
      refine z_get (pc := 6) hC fX6_7 0 rfl rfl dX6_with_6 ?_
      refine z_bipush (pc := 9) (v := 82) hC dX6_with_9 (by decide) ?_
      refine z_iald (pc := 11) hC 1 rfl dX6_with_11 82 rfl (by decide) (by decide) ?_
      refine z_is_ (y := nI n) (by rw [flat_82]; exact hn) ?_
      refine z_icge (pc := 12) hC 39 (by decide) dX6_with_12 (fun c12 => ?_) (fun c12 => absurd (nI_le (by omega) (by omega)) c12)
      refine z_iln (pc := 39) hC 1 rfl dX6_with_39 ?_
      exact hE _ _ _ () _ _ _ dX6_with_40 rfl hp rfl (Nat.le_refl _) (Nat.le_refl _)
    | succ k ih =>
      intro m y hm2 hp
      refine z_iln (pc := 4) hC 0 rfl dX6_with_4 ?_
      refine z_aln (pc := 5) hC 2 rfl dX6_with_5 ?_
      refine z_get (pc := 6) hC fX6_7 0 rfl rfl dX6_with_6 ?_
      refine z_bipush (pc := 9) (v := 82) hC dX6_with_9 (by decide) ?_
      refine z_iald (pc := 11) hC 1 rfl dX6_with_11 82 rfl (by decide) (by decide) ?_
      refine z_is_ (y := nI n) (by rw [flat_82]; exact hn) ?_
      refine z_icge (pc := 12) hC 39 (by decide) dX6_with_12 (fun c12 => absurd c12 (nI_ge (by omega) (by omega))) (fun c12 => ?_)
      refine z_iln (pc := 15) hC 1 rfl dX6_with_15 ?_
      refine z_aln (pc := 16) hC 2 rfl dX6_with_16 ?_
      refine z_iln (pc := 17) hC 0 rfl dX6_with_17 ?_
      refine z_iconst (pc := 18) (v := 4) hC dX6_with_18 (by decide) ?_
      refine z_g (pc := 19) (rest := [.int y]) hC vX6_ofJob lX6_57 dX6_with_19 (m_ofJob (c := 10) (w := 4) (by omega) (by decide) rfl) (fun w => w) isCtx_id rfl 0 6 rfl rfl rfl rfl rfl (by decide) (Nat.le_of_ble_eq_true rfl) ⟨Nat.le_refl _, Nat.le_refl _⟩ ?_
      refine z_iln (pc := 22) hC 3 rfl dX6_with_22 ?_
      refine z_icne (pc := 23) hC 30 (by decide) dX6_with_23 (fun c23 => ?_) (fun c23 => ?_)
      · refine z_iconst (pc := 30) (v := 0) hC dX6_with_30 (by decide) ?_
        refine z_iadd (pc := 31) (v := y + (if R 10 m = x then 1 else 0)) hC (by simp [c23]) dX6_with_31 ?_
        refine z_isn (pc := 32) (lv' := [(2, .int (y + (if R 10 m = x then 1 else 0))), (3, .int (nI m)), (0, .ref (b 0)), (1, .int x)]) hC hm (by decide) rfl dX6_with_32 ?_
        refine z_iinc (pc := 33) (v := nI (m + 1)) (j := 1) (lv' := [(3, .int (nI (m + 1))), (2, .int (y + (if R 10 m = x then 1 else 0))), (0, .ref (b 0)), (1, .int x)]) hC hm (by decide) rfl (up_step m) rfl dX6_with_33 ?_
        refine z_goto (pc := 36) hC 4 (by decide) dX6_with_36 ?_
        refine z_lv [0, 1, 2, 3] rfl ?_
        exact ih (m + 1) _ (by omega) (by rw [← hp]; rfl)
      · refine z_iconst (pc := 26) (v := 1) hC dX6_with_26 (by decide) ?_
        refine z_goto (pc := 27) hC 31 (by decide) dX6_with_27 ?_
        refine z_iadd (pc := 31) (v := y + (if R 10 m = x then 1 else 0)) hC (by simp [c23]) dX6_with_31 ?_
        refine z_isn (pc := 32) (lv' := [(2, .int (y + (if R 10 m = x then 1 else 0))), (3, .int (nI m)), (0, .ref (b 0)), (1, .int x)]) hC hm (by decide) rfl dX6_with_32 ?_
        refine z_iinc (pc := 33) (v := nI (m + 1)) (j := 1) (lv' := [(3, .int (nI (m + 1))), (2, .int (y + (if R 10 m = x then 1 else 0))), (0, .ref (b 0)), (1, .int x)]) hC hm (by decide) rfl (up_step m) rfl dX6_with_33 ?_
        refine z_goto (pc := 36) hC 4 (by decide) dX6_with_36 ?_
        refine z_lv [0, 1, 2, 3] rfl ?_
        exact ih (m + 1) _ (by omega) (by rw [← hp]; rfl)
  refine z_iconst (pc := 0) (v := 0) hC dX6_with_0 (by decide) ?_
  refine z_isn (pc := 1) (lv' := [(2, .int 0), (0, .ref (b 0)), (1, .int x)]) hC hm (by decide) rfl dX6_with_1 ?_
  refine z_iconst (pc := 2) (v := nI 0) hC dX6_with_2 (by decide) ?_
  refine z_isn (pc := 3) (lv' := [(3, .int (nI 0)), (2, .int 0), (0, .ref (b 0)), (1, .int x)]) hC hm (by decide) rfl dX6_with_3 ?_
  refine z_lv [0, 1, 2, 3] rfl ?_
  exact loop n 0 0 (by omega) rfl

/-- in how many minutes job j is done, k minutes looked at, m past -/
def mtd (n j : Nat) : Nat → Nat → St → Int32
  | 0, m, R => if R 10 j = 2 then nI m else -1
  | k + 1, m, R => if R 10 j < 2 then mtd n j k (m + 1) (minu R n).1 else if R 10 j = 2 then nI m else -1
theorem mtd_x {n j k m : Nat} {R : St} (h : k = 0 ∨ ¬ R 10 j < 2) : mtd n j k m R = if R 10 j = 2 then nI m else -1 := by
  cases k with
  | zero => rfl
  | succ k => simp [mtd, h.resolve_left (by omega)]

set_option maxRecDepth 100000 in
set_option maxHeartbeats 4000000 in
theorem m_minutesTo {g : zG} {b : Nat → Nat} {R : St} {F : Nat → Nat → Int32} {V : Nat → Int32} {n j : Nat} (hI : Inv R n) (hj : j < 12) : FI (S := Nat → Int32) g yX6_minutesTo cX6_minutesTo 5 .int 5 0 0 [.ref (b 0), .int (nI j)] (mW g.2 b R F V) (fun r _ => r = mtd n j 300 0 R) (fun f => mW g.2 b R (va_up F 1 f) V) := by
  refine fi_entry (by decide) (Nat.le_of_ble_eq_true rfl) (fun C hC hm hE => ?_)
  have loopC : ∀ (Q : St) (k m : Nat), m + k = 179 → Z g C 0 0 (mX g.2 b (wrt (flat Q) (flat R) 0 m) (va_up F 1 (wrt (F 1) (flat R) 0 179)) V) [(4, .int (nI m)), (3, .int (mtd n j 300 0 R)), (0, .ref (b 0))] 76 [] := by
    intro Q k
    induction k with
    | zero =>
      intro m hm2
      refine z_il (pc := 76) hC 0 rfl dX6_minutesTo_76 ?_
      refine z_sipush (pc := 78) (v := nI 179) hC dX6_minutesTo_78 (by decide) ?_
      refine z_icge (pc := 81) hC 104 (by decide) dX6_minutesTo_81 (fun c81 => ?_) (fun c81 => absurd (nI_le (by omega) (by omega)) c81)
      refine z_cell 1 (f' := flat R) (ws' := mW g.2 b R (va_up F 1 (wrt (F 1) (flat R) 0 179)) V) rfl (fun j hj => by rw [show m = 179 by omega, wrt_in _ _ hj]) rfl ?_
      refine z_iln (pc := 104) hC 1 rfl dX6_minutesTo_104 ?_
      exact hE _ _ _ (wrt (F 1) (flat R) 0 179) _ _ _ dX6_minutesTo_105 rfl rfl rfl (Nat.le_refl _) (Nat.le_refl _)
    | succ k ih =>
      intro m hm2
      refine z_il (pc := 76) hC 0 rfl dX6_minutesTo_76 ?_
      refine z_sipush (pc := 78) (v := nI 179) hC dX6_minutesTo_78 (by decide) ?_
      refine z_icge (pc := 81) hC 104 (by decide) dX6_minutesTo_81 (fun c81 => absurd c81 (nI_ge (by omega) (by omega))) (fun c81 => ?_)
      refine z_aln (pc := 84) hC 2 rfl dX6_minutesTo_84 ?_
      refine z_get (pc := 85) hC fX6_7 0 rfl rfl dX6_minutesTo_85 ?_
      refine z_il (pc := 88) hC 0 rfl dX6_minutesTo_88 ?_
      refine z_aln (pc := 90) hC 2 rfl dX6_minutesTo_90 ?_
      refine z_get (pc := 91) hC fX6_16 0 rfl rfl dX6_minutesTo_91 ?_
      refine z_il (pc := 94) hC 0 rfl dX6_minutesTo_94 ?_
      refine z_iald (pc := 96) hC 3 rfl dX6_minutesTo_96 m rfl (by omega) (by decide) ?_
      refine z_is_ (y := flat R m) (wrt_in _ _ (by omega)) ?_
      refine z_iast (pc := 97) (ws' := mX g.2 b (wrt (flat Q) (flat R) 0 (m + 1)) (va_up F 1 (wrt (F 1) (flat R) 0 179)) V) hC 1 rfl dX6_minutesTo_97 m rfl (by omega) (by decide) (mX_f' (wrt_s0 _ _ _)) ?_
      refine z_iinc (pc := 98) (v := nI (m + 1)) (j := 0) (lv' := [(4, .int (nI (m + 1))), (3, .int (mtd n j 300 0 R)), (0, .ref (b 0))]) hC hm (by decide) rfl (up_step m) rfl dX6_minutesTo_98 ?_
      refine z_goto (pc := 101) hC 76 (by decide) dX6_minutesTo_101 ?_
      refine z_lv [0, 1, 2] rfl ?_
      exact ih (m + 1) (by omega)
  have J : ∀ (Q : St) (m : Nat), mtd n j 300 0 R = (if Q 10 j = 2 then nI m else -1) → Z g C 0 0 (mW g.2 b Q (va_up F 1 (wrt (F 1) (flat R) 0 179)) V) [(2, .int (nI m)), (0, .ref (b 0)), (1, .int (nI j))] 57 [] := by
    intro Q m hv
    refine z_aln (pc := 57) hC 1 rfl dX6_minutesTo_57 ?_
    refine z_iln (pc := 58) hC 2 rfl dX6_minutesTo_58 ?_
    refine z_iconst (pc := 59) (v := 4) hC dX6_minutesTo_59 (by decide) ?_
    refine z_g (pc := 60) (rest := []) hC vX6_ofJob lX6_57 dX6_minutesTo_60 (m_ofJob (c := 10) (w := 4) hj (by decide) rfl) (fun w => w) isCtx_id rfl 0 6 rfl rfl rfl rfl rfl (by decide) (Nat.le_of_ble_eq_true rfl) ⟨Nat.le_refl _, Nat.le_refl _⟩ ?_
    refine z_iconst (pc := 63) (v := 2) hC dX6_minutesTo_63 (by decide) ?_
    refine z_icne (pc := 64) hC 71 (by decide) dX6_minutesTo_64 (fun c64 => ?_) (fun c64 => ?_)
    · refine z_iconst (pc := 71) (v := -1) hC dX6_minutesTo_71 (by decide) ?_
      refine z_is_ (y := mtd n j 300 0 R) (by rw [hv, if_neg c64]) ?_
      refine z_isn (pc := 72) (lv' := [(3, .int (mtd n j 300 0 R)), (2, .int (nI m)), (0, .ref (b 0)), (1, .int (nI j))]) hC hm (by decide) rfl dX6_minutesTo_72 ?_
      refine z_iconst (pc := 73) (v := nI 0) hC dX6_minutesTo_73 (by decide) ?_
      refine z_is (pc := 74) (lv' := [(4, .int (nI 0)), (3, .int (mtd n j 300 0 R)), (2, .int (nI m)), (0, .ref (b 0)), (1, .int (nI j))]) hC hm (by decide) rfl dX6_minutesTo_74 ?_
      refine z_w (ws' := mX g.2 b (wrt (flat Q) (flat R) 0 0) (va_up F 1 (wrt (F 1) (flat R) 0 179)) V) (by rw [wrt_0]; rfl) ?_
      refine z_lv [0, 1, 3] rfl ?_
      exact loopC Q 179 0 rfl
    · refine z_iln (pc := 67) hC 0 rfl dX6_minutesTo_67 ?_
      refine z_goto (pc := 68) hC 72 (by decide) dX6_minutesTo_68 ?_
      refine z_is_ (y := mtd n j 300 0 R) (by rw [hv, if_pos c64]) ?_
      refine z_isn (pc := 72) (lv' := [(3, .int (mtd n j 300 0 R)), (2, .int (nI m)), (0, .ref (b 0)), (1, .int (nI j))]) hC hm (by decide) rfl dX6_minutesTo_72 ?_
      refine z_iconst (pc := 73) (v := nI 0) hC dX6_minutesTo_73 (by decide) ?_
      refine z_is (pc := 74) (lv' := [(4, .int (nI 0)), (3, .int (mtd n j 300 0 R)), (2, .int (nI m)), (0, .ref (b 0)), (1, .int (nI j))]) hC hm (by decide) rfl dX6_minutesTo_74 ?_
      refine z_w (ws' := mX g.2 b (wrt (flat Q) (flat R) 0 0) (va_up F 1 (wrt (F 1) (flat R) 0 179)) V) (by rw [wrt_0]; rfl) ?_
      refine z_lv [0, 1, 3] rfl ?_
      exact loopC Q 179 0 rfl
  have loopB : ∀ (k m : Nat) (Q : St), m + k = 300 → Inv Q n → mtd n j k m Q = mtd n j 300 0 R → Z g C 0 0 (mW g.2 b Q (va_up F 1 (wrt (F 1) (flat R) 0 179)) V) [(2, .int (nI m)), (0, .ref (b 0)), (1, .int (nI j))] 29 [] := by
    intro k
    induction k with
    | zero =>
      intro m Q hm2 hI hp
      refine z_iln (pc := 29) hC 0 rfl dX6_minutesTo_29 ?_
      refine z_sipush (pc := 30) (v := nI 300) hC dX6_minutesTo_30 (by decide) ?_
      refine z_icge (pc := 33) hC 57 (by decide) dX6_minutesTo_33 (fun c33 => ?_) (fun c33 => absurd (nI_le (by omega) (by omega)) c33)
      refine z_lv [0, 1, 2] rfl ?_
      exact J Q m (by rw [← hp, mtd_x (Or.inl rfl)])
    | succ k ih =>
      intro m Q hm2 hI hp
      refine z_iln (pc := 29) hC 0 rfl dX6_minutesTo_29 ?_
      refine z_sipush (pc := 30) (v := nI 300) hC dX6_minutesTo_30 (by decide) ?_
      refine z_icge (pc := 33) hC 57 (by decide) dX6_minutesTo_33 (fun c33 => absurd c33 (nI_ge (by omega) (by omega))) (fun c33 => ?_)
      refine z_aln (pc := 36) hC 1 rfl dX6_minutesTo_36 ?_
      refine z_iln (pc := 37) hC 2 rfl dX6_minutesTo_37 ?_
      refine z_iconst (pc := 38) (v := 4) hC dX6_minutesTo_38 (by decide) ?_
      refine z_g (pc := 39) (rest := []) hC vX6_ofJob lX6_57 dX6_minutesTo_39 (m_ofJob (c := 10) (w := 4) hj (by decide) rfl) (fun w => w) isCtx_id rfl 0 6 rfl rfl rfl rfl rfl (by decide) (Nat.le_of_ble_eq_true rfl) ⟨Nat.le_refl _, Nat.le_refl _⟩ ?_
      refine z_iconst (pc := 42) (v := 2) hC dX6_minutesTo_42 (by decide) ?_
      refine z_icge (pc := 43) hC 57 (by decide) dX6_minutesTo_43 (fun c43 => ?_) (fun c43 => ?_)
      · refine z_lv [0, 1, 2] rfl ?_
        exact J Q m (by rw [← hp, mtd_x (Or.inr (Int32.not_lt.mpr c43))])
      · refine z_aln (pc := 46) hC 1 rfl dX6_minutesTo_46 ?_
        refine z_g (pc := 47) (rest := []) hC vX6_minute lX6_106 dX6_minutesTo_47 (m_minute hI) (fun w => w) isCtx_id rfl 0 6 rfl rfl rfl rfl rfl (by decide) (Nat.le_of_ble_eq_true rfl) ⟨Nat.le_refl _, Nat.le_refl _⟩ ?_
        refine z_isn (pc := 50) (lv' := [(3, .int ((minu Q n).2)), (2, .int (nI m)), (0, .ref (b 0)), (1, .int (nI j))]) hC hm (by decide) rfl dX6_minutesTo_50 ?_
        refine z_iinc (pc := 51) (v := nI (m + 1)) (j := 1) (lv' := [(2, .int (nI (m + 1))), (3, .int ((minu Q n).2)), (0, .ref (b 0)), (1, .int (nI j))]) hC hm (by decide) rfl (up_step m) rfl dX6_minutesTo_51 ?_
        refine z_goto (pc := 54) hC 29 (by decide) dX6_minutesTo_54 ?_
        refine z_lv [0, 2, 3] rfl ?_
        exact ih (m + 1) _ (by omega) (inv_minu hI) (by rw [← hp]; simp [mtd, Int32.not_le.mp c43])
  have loopA : ∀ (k m : Nat), m + k = 179 → Z g C 0 0 (mW g.2 b R (va_up F 1 (wrt (F 1) (flat R) 0 m)) V) [(2, .int (nI m)), (0, .ref (b 0)), (1, .int (nI j))] 2 [] := by
    intro k
    induction k with
    | zero =>
      intro m hm2
      refine z_iln (pc := 2) hC 0 rfl dX6_minutesTo_2 ?_
      refine z_sipush (pc := 3) (v := nI 179) hC dX6_minutesTo_3 (by decide) ?_
      refine z_icge (pc := 6) hC 27 (by decide) dX6_minutesTo_6 (fun c6 => ?_) (fun c6 => absurd (nI_le (by omega) (by omega)) c6)
      refine z_iconst (pc := 27) (v := nI 0) hC dX6_minutesTo_27 (by decide) ?_
      refine z_isn (pc := 28) (lv' := [(2, .int (nI 0)), (0, .ref (b 0)), (1, .int (nI j))]) hC hm (by decide) rfl dX6_minutesTo_28 ?_
      rw [show m = 179 by omega]
      refine z_lv [0, 1, 2] rfl ?_
      exact loopB 300 0 R rfl hI rfl
    | succ k ih =>
      intro m hm2
      refine z_iln (pc := 2) hC 0 rfl dX6_minutesTo_2 ?_
      refine z_sipush (pc := 3) (v := nI 179) hC dX6_minutesTo_3 (by decide) ?_
      refine z_icge (pc := 6) hC 27 (by decide) dX6_minutesTo_6 (fun c6 => absurd c6 (nI_ge (by omega) (by omega))) (fun c6 => ?_)
      refine z_aln (pc := 9) hC 1 rfl dX6_minutesTo_9 ?_
      refine z_get (pc := 10) hC fX6_16 0 rfl rfl dX6_minutesTo_10 ?_
      refine z_iln (pc := 13) hC 0 rfl dX6_minutesTo_13 ?_
      refine z_aln (pc := 14) hC 1 rfl dX6_minutesTo_14 ?_
      refine z_get (pc := 15) hC fX6_7 0 rfl rfl dX6_minutesTo_15 ?_
      refine z_iln (pc := 18) hC 0 rfl dX6_minutesTo_18 ?_
      refine z_iald (pc := 19) hC 1 rfl dX6_minutesTo_19 m rfl (by omega) (by decide) ?_
      refine z_iast (pc := 20) (ws' := mW g.2 b R (va_up F 1 (wrt (F 1) (flat R) 0 (m + 1))) V) hC 3 rfl dX6_minutesTo_20 m rfl (by omega) (by decide) (mW_F1' (wrt_s0 _ _ _)) ?_
      refine z_iinc (pc := 21) (v := nI (m + 1)) (j := 0) (lv' := [(2, .int (nI (m + 1))), (0, .ref (b 0)), (1, .int (nI j))]) hC hm (by decide) rfl (up_step m) rfl dX6_minutesTo_21 ?_
      refine z_goto (pc := 24) hC 2 (by decide) dX6_minutesTo_24 ?_
      refine z_lv [0, 1, 2] rfl ?_
      exact ih (m + 1) (by omega)
  refine z_iconst (pc := 0) (v := nI 0) hC dX6_minutesTo_0 (by decide) ?_
  refine z_isn (pc := 1) (lv' := [(2, .int (nI 0)), (0, .ref (b 0)), (1, .int (nI j))]) hC hm (by decide) rfl dX6_minutesTo_1 ?_
  refine z_w (ws' := mW g.2 b R (va_up F 1 (wrt (F 1) (flat R) 0 0)) V) (by rw [wrt_0, va_up_id]) ?_
  refine z_lv [0, 1, 2] rfl ?_
  exact loopA 179 0 rfl
