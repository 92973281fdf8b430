/-! THE LAW: rows that it wants besides -/
section ZLAW
variable {g : zG} {C : zC} {cc : ByteArray} {own : String} {d mc ms k n : Nat} {ws ws' : va_W} {lv lv' : List (Nat × Value)} {pc : Nat} {st rest : List Value}
theorem z_sld (hC : zOK g C cc own d mc ms) {b L : Nat} {xs : Nat → Int32} (hX : va_X b L xs (zs C) (zs C).heap) (hbl : b < (zs C).heap.size) (hbA : ¬ zA C b) (hL : L < 2 ^ 31) (hdg : decode cc pc = .ok (.iaload, 1)) {x : Int32} (j : Nat) (hx : x = nI j) (hj : j < L) (h : Z g C k n ws lv (pc + 1) (.int (xs j) :: st)) : Z g C k n ws lv pc (.int x :: .ref b :: st) := by
  subst hx
  have hc := nI_clamp (n := j) (by omega)
  rw [← hc] at h
  exact fun H locs ls hP hD hS hl => va_sld hC.1 hC.2.1 hX hbl hbA hS (vp_in_nI hj hL) hdg (h H locs ls hP hD hS hl)
theorem z_slen (hC : zOK g C cc own d mc ms) {b L : Nat} {xs : Nat → Int32} (hX : va_X b L xs (zs C) (zs C).heap) (hbl : b < (zs C).heap.size) (hbA : ¬ zA C b) (hdg : decode cc pc = .ok (.arraylength, 1)) (h : Z g C k n ws lv (pc + 1) (.int (nI L) :: st)) : Z g C k n ws lv pc (.ref b :: st) :=
  fun H locs ls hP hD hS hl => va_slen hC.1 hC.2.1 hX hbl hbA hS hdg (h H locs ls hP hD hS hl)
theorem z_lald (hC : zOK g C cc own d mc ms) (q0 : Nat) {a nn : Nat} {f : Nat → Int64} (ha : ws[q0]? = some (a, .inl (g.2 3, nn, .inr (.inl f)))) (hdg : decode cc pc = .ok (.laload, 1)) {x : Int32} (j : Nat) (hx : x = nI j) (hj : j < nn) (hn : nn < 2 ^ 31) (h : Z g C k n ws lv (pc + 1) (.long (f j) :: st)) : Z g C k n ws lv pc (.int x :: .ref a :: st) := by
  subst hx
  have hc := nI_clamp (n := j) (by omega)
  rw [← hc] at h
  exact fun H locs ls hP hD hS hl => va_lald hC.1 hC.2.1 hC.2.2.2.2.1 hP q0 3 ha rfl (vp_in_nI hj hn) hdg (h H locs ls hP hD hS hl)
theorem z_lcmp0 (hC : zOK g C cc own d mc ms) {x y : Int64} (hxy : x = y) (hdg : decode cc pc = .ok (.lcmp, 1)) (h : Z g C k n ws lv (pc + 1) (.int 0 :: st)) : Z g C k n ws lv pc (.long y :: .long x :: st) := by
  subst hxy
  intro H locs ls hP hD hS hl T hT X
  obtain ⟨t, a, b⟩ := h H locs ls hP hD hS hl T hT X
  refine ⟨t, ?_, b⟩
  jvm_step X.here [X.here.top, hC.1, hC.2.1, hdg, Op.lcmp.sem]
  exact a
theorem z_dst (hC : zOK g C cc own d mc ms) {i : Nat} {x : UInt64} {nL : Nat} (hm : (zc C).maxLocals = nL) (hi : i + 1 < nL) (hl' : (i, Value.double x) :: lv.filter (fun q => !(q.1 == i) && (!(q.1 == i + 1) && !(q.1 + 1 == i && q.2.category == 2))) = lv') (hdg : decode cc pc = .ok (.dstore i, 2)) (h : Z g C k n ws lv' (pc + 2) st) : Z g C k n ws lv pc (.double x :: st) :=
  fun H locs _ hP hD hS hl => lv_dstore hC.1 hC.2.1 hdg hl (by rw [hm]; exact hi) hl' (fun ls' hl2 => h H locs ls' hP hD hS hl2)
theorem z_dl (hC : zOK g C cc own d mc ms) {i : Nat} {x : UInt64} (j : Nat) (hj : lv[j]? = some (i, .double x)) (hdg : decode cc pc = .ok (.dload i, 2)) (h : Z g C k n ws lv (pc + 2) (.double x :: st)) : Z g C k n ws lv pc st :=
  fun H locs ls hP hD hS hl => lv_dload hC.1 hC.2.1 hdg (lv_at hl j hj) (h H locs ls hP hD hS hl)
theorem z_dcmp (hC : zOK g C cc own d mc ms) {x y : UInt64} {op : CmpOp} (hdg : decode cc pc = .ok (.dcmp op, 1)) (h : Z g C k n ws lv (pc + 1) (.int (Op.cmpValue (FP.dcmp x y) op) :: st)) : Z g C k n ws lv pc (.double y :: .double x :: st) :=
  fun H locs ls hP hD hS hl => lv_dcmp hC.1 hC.2.1 hdg (h H locs ls hP hD hS hl)
/-- a static method that catches all -/
def wM (y : MethodName) (cy : ByteArray) (nl : Nat) (hh : List (Nat × Nat × Nat × Nat)) (np : Nat) : Prop :=
  Cond.static y ∈ aw ∧ Cond.initialized y.cls ∈ aw ∧ Cond.codeWith y cy nl (some .int) hh ∈ aw ∧ (y.cls ≠ "java/lang/invoke/MethodHandle" ∧ y.cls ≠ "java/lang/invoke/VarHandle" ∧ (parseMethodDescriptor y.desc).map (fun d => d.parameters.length) = some np) ∧ nl ≤ 13
theorem good_wW {own : String} {idx : Nat} {y : MethodName} {cy : ByteArray} {nl np : Nat} {hh : List (Nat × Nat × Nat × Nat)} (hl : Cond.methodLink own idx y ∈ aw) (hy : wM y cy nl hh np) : GoodIn aw (va_wsS own idx y (wH y cy nl hh)) := by
  intro w hw
  unfold va_wsS at hw
  have key : ∀ w ∈ aw, w ∈ aw ∧ ((w.onTables && w.keeps) = true ∨ ∃ ty, w = .arrayClass ty) := fun w hw => ⟨hw, good_of_word (aw_good w hw)⟩
  rcases List.mem_append.mp hw with hw | hw
  · simp only [List.mem_cons, List.not_mem_nil, or_false] at hw
    rcases hw with rfl | rfl | rfl
    · exact key _ hl
    · exact key _ hy.1
    · exact key _ hy.2.1
  · rcases List.mem_cons.mp hw with rfl | hw
    · exact key _ hy.2.2.1
    · exact key _ hw
theorem z_sw (hC : zOK g C cc own d mc ms) (h0 : (zl C).stackTraces = false) (hZX : zX (zA C) (zs C) (zs C).heap) (hNc : zNc (zs C)) {S : Type} {y : MethodName} {cy : ByteArray} {nl np d' idx : Nat} {hh : List (Nat × Nat × Nat × Nat)} {As : List Value} {w : va_W} {w' : S → va_W} (hy : wM y cy nl hh np) (hl : Cond.methodLink own idx y ∈ aw) (hdg : decode cc pc = .ok (.invokestatic idx, 3)) {post : Int32 → S → Prop} (hM : FW g y cy nl hh d' As w post w') (pre suf : va_W) (hw : ws = pre ++ (w ++ suf))
    (hn : As.length = np) (hst : st = As.reverse ++ rest) (hd : d' + 1 ≤ d) (hcat : (rest.map fun v => v.category).sum ≤ 8) (hk : k + 1 ≤ mc ∧ n + 6 ≤ ms)
    (kk : ∀ (r : Int32) (u : S), post r u → Z g C (k + 1) (n + 6) (pre ++ (w' u ++ suf)) lv (pc + 3) (.int r :: rest)) : Z g C k n ws lv pc st := by
  subst hw hst
  intro H locs ls hP hD hS hl0
  have hPw : va_P g.1 vwCl w H := (va_P_app.mp (va_P_app.mp hP).2).1
  have hDw : va_D (fun _ => True) w := ((va_D_app.mp (va_D_app.mp hD).2.1).1).weaken (fun _ _ _ _ => trivial)
  have hF := mid_free hD hS hC.2.2.2.2.2.2.1
  have hpre : PreS (zs C) H (zPreW g As w H.size) As :=
    ⟨zPreW_blind, fun U hU hW => ⟨rfl, by rw [hU], by rw [hU]; exact hPw, va_K.moved hW.alike hC.2.2.2.2.1, hDw, zN.warm hW hC.2.2.2.2.2.2.2, by rw [hU]; exact zX.call hW hZX hS.2.1 hF, hNc.moved hW.alike⟩⟩
  refine va_calli (vx_runSW (As := As) (rest := rest) (hh := hh) (z_fix hC) (hM (zl C) H.size h0) (vx_cwSW np hC.2.2.2.1 (good_wW hl hy) rfl rfl rfl hy.2.2.2.1 (z_room hC hd hy.2.2.2.2)) hpre rfl hn hl0.1 rfl (lv_room hcat) hdg ?_) hS (fun q _ h => hF q h) hF (fun r u t H1 locs1 ht hvm hp hB hz hk1 hS1 => ?_)
  · rw [hC.2.2.2.2.2.1]; exact hk
  · obtain ⟨hP1, hD1⟩ := hB
    rw [ht] at hP1
    obtain ⟨hP2, hD2⟩ := mid_join hP hD hk1 hF hP1 hD1
    exact kk r u hp H1 locs1 ls hP2 hD2 hS1 hl0
end ZLAW
/-- a virtual call of a method that may draw, over any record of draws -/
theorem z_vd {g : zG} {p : Program} {l : Launch} {e : Env} {s : State} {m : MethodId} {args : Array Value} {below : List Frame} {meth : Method} {c : Code} {A : Nat → Prop} {Q : State → Prop} {cc : ByteArray} {own : String} {d mc ms k n : Nat} {ws : va_W} {lv : List (Nat × Value)} {pc : Nat} {st rest : List Value}
    {S : Type} {y : MethodName} {cy : ByteArray} {nl np d' idx b : Nat} {As : List Value} {w : va_W} {w' : S → va_W} {d0 : Drawn} (hd0 : s.drawn.sameBut d0 lw_cs)
    (hC : zOK g (p, l, e, zRm d mc ms, s.setDrawn d0, m, args, below, meth, c, A, Q) cc own d mc ms) (hy : vM y cy nl (some .double) np) (hl : Cond.methodLink own idx y ∈ aw) (hdg : decode cc pc = .ok (.invokevirtual idx, 3)) {post : UInt64 → S → Prop} (hM : FD g y cy nl d' (.ref b :: As) w post w') (pre suf : va_W) (hw : ws = pre ++ (w ++ suf)) (q0 ci : Nat) {fs : List Value} {r : vw_C} (he : w[q0]? = some (b, .inr (ci, fs))) (hr : vwCl[ci]? = some r) (hR : r.1 = y.cls)
    (hn : As.length = np) (hst : st = As.reverse ++ .ref b :: rest) (hd : d' + 1 ≤ d) (hcat : (rest.map fun v => v.category).sum ≤ 8) (hk : k ≤ mc ∧ n ≤ ms)
    (kk : ∀ (r : UInt64) (u : S) (d1 : Drawn), post r u → s.drawn.sameBut d1 lw_cs → Z g (p, l, e, zRm d mc ms, s.setDrawn d1, m, args, below, meth, c, A, Q) k n (pre ++ (w' u ++ suf)) lv (pc + 3) (.double r :: rest)) : Z g (p, l, e, zRm d mc ms, s.setDrawn d0, m, args, below, meth, c, A, Q) k n ws lv pc st := by
  subst hw hst
  intro H locs ls hP hD hS hl0
  have hPw : va_P g.1 vwCl w H := (va_P_app.mp (va_P_app.mp hP).2).1
  have hDw : va_D (fun _ => True) w := ((va_D_app.mp (va_D_app.mp hD).2.1).1).weaken (fun _ _ _ _ => trivial)
  have hF := mid_free hD hS hC.2.2.2.2.2.2.1
  refine va_calldD hd0 (va_runV_D (As := As) (rest := rest) (z_fix hC) (hM l H.size) (z_cw (mc' := 0) (ms' := 0) hC hy hl hd) (z_preV hC hPw hDw hr hR he) rfl hn hl0.1 rfl (lv_room hcat) hdg hk) hS (fun q _ h => hF q h) hF (fun r u t H1 locs1 ht hvm hp hB hz hk1 hS1 d1 hd1 => ?_)
  obtain ⟨hP1, hD1⟩ := hB
  rw [ht] at hP1
  obtain ⟨hP2, hD2⟩ := mid_join hP hD hk1 hF hP1 hD1
  exact kk r u d1 hp hd1 H1 locs1 ls hP2 hD2 hS1 hl0
/-- what the law's walk stands on -/
def lOK (g : zG) (C : zC) (b L : Nat) (xs : Nat → Int32) : Prop :=
  zOK g C cL_law RL 10 601024 7293034 ∧ (zc C).maxLocals = 9 ∧ va_X b L xs (zs C) (zs C).heap ∧ b < (zs C).heap.size ∧ ¬ zA C b ∧ (zl C).stackTraces = false ∧ zX (zA C) (zs C) (zs C).heap ∧ zNc (zs C) ∧ L ≤ 2560
/-- the world of the law: the console, the answer's cell, the reference -/
abbrev lW (i : Nat → ClassId) (x : Nat) (u c a h : Nat → Nat) (e : Nat → Nat → Nat) (mb : Nat → Nat) (o : Nat) (Q P : Nat → Int32) (T R : St) (s p : Nat) (K : Nat → St) (f : Nat → Int64) (F : Nat → Nat → Int32) (V : Nat → Int32) : va_W :=
  (xW i x u c a h e Q P T R (nI s) (nI p) K ++ [(o, .inl (i 3, 1, .inr (.inl f)))]) ++ mW i mb R F V
/-- what holds between two calls: both tell the same state -/
def lI (i : Nat → ClassId) (x : Nat) (u c a h : Nat → Nat) (e : Nat → Nat → Nat) (mb : Nat → Nat) (o : Nat) (ws : va_W) : Prop :=
  ∃ (Q P : Nat → Int32) (T R : St) (s p : Nat) (K : Nat → St) (H : Nat → St) (t : Nat → Nat) (L : Nat) (f : Nat → Int64) (F : Nat → Nat → Int32) (V : Nat → Int32), GR R ∧ xR H s t L (Q, P, T, p, K) ∧ mR F V H s t L ∧ (∀ k, k < s → GR (H k)) ∧ ws = lW i x u c a h e mb o Q P T R s p K f F V
abbrev lL (b x m o i : Nat) : List (Nat × Value) := [(4, .int (nI i)), (0, .ref b), (1, .ref x), (2, .ref m), (3, .ref o)]
/-- an argument out of the script: script[i + j] -/
theorem z_arg {g : zG} {C : zC} {b L : Nat} {xs : Nat → Int32} {k n : Nat} {ws : va_W} {lv : List (Nat × Value)} {pc : Nat} {st : List Value} (hO : lOK g C b L xs) {i : Nat} (j : Nat) {jz : Int} (hj : Int32.ofInt jz = nI j) (hi : i + j < L) (q4 q0 : Nat) (h4 : lv[q4]? = some (4, .int (nI i))) (h0 : lv[q0]? = some (0, .ref b)) (d0 : decode cL_law pc = .ok (.aload_n 0, 1)) (d1 : decode cL_law (pc + 1) = .ok (.iload 4, 2)) (d3 : decode cL_law (pc + 3) = .ok (.iconst jz, 1)) (d4 : decode cL_law (pc + 4) = .ok (.iadd, 1)) (d5 : decode cL_law (pc + 5) = .ok (.iaload, 1)) (h : Z g C k n ws lv (pc + 6) (.int (xs (i + j)) :: st)) : Z g C k n ws lv pc st := by
  obtain ⟨hC, hm, hX, hbl, hbA, h00, hZX, hNc, hL⟩ := hO
  refine z_aln hC q0 h0 d0 ?_
  refine z_il hC q4 h4 d1 ?_
  refine z_iconst (v := nI j) hC d3 hj ?_
  refine z_iadd (v := nI (i + j)) hC (nI_add i j) d4 ?_
  exact z_sld hC hX hbl hbA (by omega) d5 (i + j) rfl hi h
/-! the states behind the calls -/
theorem gs_sub {R : St} {x y z u : Int32} (h : GR R) (hc : cSub R x y z u = 0) : GR (subm R (nn R) x y z u) := by
  unfold cSub at hc; split at hc
  · cases hc
  · split at hc
    · cases hc
    · rename_i h1 h2
      have h1' : right x y z u = true := by simpa using h1
      exact gr_subm h (by simpa using h2) (right_m h1').1 (right_m h1').2
theorem gs_can {R : St} {x : Int32} (h : GR R) (hc : cCan R x = 0) : GR (rCan R (ix x)) := by
  unfold cCan at hc; split at hc
  · cases hc
  · split at hc
    · cases hc
    · rename_i h1 h2
      exact gr_can h (job_ix h (by simpa using h1)).1 h2
theorem gs_day {R : St} (h : GR R) (hc : cDay R = 0) : GR (setS R 14 0 (R 14 0 + 1)) := by
  unfold cDay at hc; split at hc
  · cases hc
  · rename_i h1; exact gr_day h h1
theorem gs_set {R : St} {x y : Int32} (h : GR R) (hc : cSet x y = 0) : GR (setS R 14 (8 + ix x) y) := by
  unfold cSet at hc; split at hc
  · cases hc
  · rename_i h1
    obtain ⟨h3, h4⟩ := in_ix (n := 1) (by omega) rfl (show inB x 0 1 = true by simpa using h1)
    exact gr_set (by omega) (by omega) h
theorem gs_run {R : St} {t : Nat → Nat} {L : Nat} (h : GR R) : GR (runC (prs t L 80 0).1 R 0).1 := gr_runC _ R 0 h (fun x hx => prs_ok 80 0 x hx)
theorem gs_push {R : St} {H : Nat → St} {s : Nat} (h : GR R) (hH : ∀ k, k < s → GR (H k)) (hs : s ≤ 6) : ∀ k, k < pushN s → GR (pushH H s R k) := by
  intro k hk
  unfold pushH; unfold pushN at hk
  by_cases h6 : s = 6
  · rw [if_pos h6] at hk ⊢
    split
    · exact hH _ (by omega)
    · exact h
  · rw [if_neg h6] at hk ⊢
    split
    · exact h
    · exact hH _ (by omega)
theorem gs_undo {H : Nat → St} {s : Nat} (hH : ∀ k, k < s → GR (H k)) (hc : cUndo s = 0) : GR (H (s - 1)) := by
  unfold cUndo at hc; split at hc
  · cases hc
  · exact hH _ (by omega)
/-- a boolean out of the script -/
def bz (x : Int32) : Int32 := if x = 0 then 0 else 1
theorem bz_t {x : Int32} (h : x = 0) : bz x = 0 := if_pos h
theorem bz_f {x : Int32} (h : ¬ x = 0) : bz x = 1 := if_neg h
theorem bz_01 {x : Int32} : bz x = 0 ∨ bz x = 1 := by unfold bz; split <;> simp
theorem vs_01 {R : St} {x : Int32} : vStuck R x = 0 ∨ vStuck R x = 1 := by unfold vStuck bI; split <;> simp
/-- which case of the law's switch -/
theorem sw_31 (x : Int32) : ∃ j : Nat, j < 32 ∧ x &&& 31 = nI j := by
  have h := Jvm.Kit.i32_mask x 31 (k := 5) (by decide) (by decide)
  refine ⟨(x &&& 31).toInt.toNat, by omega, ?_⟩
  apply Int32.toInt_inj.mp
  rw [nI_toInt (by omega)]
  omega
theorem end_iff {i L : Nat} (hi : i ≤ 3000) (hL : L ≤ 2560) : nI L - 5 < nI i ↔ L < i + 5 := by
  have e5 : (5 : Int32).toInt = 5 := by decide
  have e : (nI L - 5 : Int32).toInt = (L : Int) - 5 := by
    rw [Int32.toInt_sub, nI_toInt (by omega), e5]
    exact Int.bmod_eq_of_le (by omega) (by omega)
  rw [Int32.lt_iff_toInt_lt, e, nI_toInt (by omega)]
  omega
