/-! ROWS that the law's own methods want besides -/
theorem W_room {p : Program} {l : Launch} {e : Env} {R R' : Room} {s : State} {m : MethodId} {args : Array Value} {below : List Frame} {meth : Method} {c : Code} {H : Heap} {locs : List Loc} {cells slots : Nat} {Q : State → Prop} {f : JFrame} (h1 : R'.frames ≤ R.frames) (h2 : R'.locals ≤ R.locals) (h3 : R'.cells ≤ R.cells) (h4 : R'.slots ≤ R.slots) (k : W p l e R' s m args below meth c H locs cells slots Q f) : W p l e R s m args below meth c H locs cells slots Q f := by
  intro T hT X
  refine k T hT ⟨X.admits, X.cas, X.clock, X.frames, ?_, X.hears, X.method, X.code, X.here, X.tail, X.warmed, X.limits, X.bytes, X.same⟩
  have h := X.room
  simp only [State.hasRoom, Bool.and_eq_true, decide_eq_true_eq] at h ⊢
  obtain ⟨⟨⟨⟨a1, a2, a3, a4, a5, a6⟩, a7⟩, a8⟩, a9⟩ := h
  exact ⟨⟨⟨⟨by omega, by omega, by omega, by omega, by omega, a6⟩, by omega⟩, by omega⟩, a9⟩
section ZSK
variable {g : zG} {C : zC} {cc : ByteArray} {own : String} {d mc ms k n : Nat} {ws ws' : va_W} {lv : List (Nat × Value)} {pc : Nat} {st rest : List Value}
variable {S : Type} {y : MethodName} {cy : ByteArray} {nl d' mc' ms' np idx b : Nat} {ret : FieldType} {As : List Value} {w w1 : va_W} {w' : S → va_W} {val : Int32}
/-- a static call of what is known whole, within a context -/
theorem z_sg (hC : zOK g C cc own d mc ms) (hy : sM y cy nl (some ret) np) (hl : Cond.methodLink own idx y ∈ aw) (hdg : decode cc pc = .ok (.invokestatic idx, 3)) (hM : Gi g y cy nl ret d' As w val w1) (K : va_W → va_W) (hK : isCtx K) (hw : ws = K w)
    (hn : As.length = np) (hst : st = As.reverse ++ rest) (hd : d' + 1 ≤ d) (hcat : (rest.map fun v => v.category).sum ≤ 8) (hk : k ≤ mc ∧ n ≤ ms)
    (kk : Z g C k n (K w1) lv (pc + 3) (.int val :: rest)) : Z g C k n ws lv pc st := by
  obtain ⟨pre, suf, hKw⟩ := hK
  rw [hKw] at hw kk
  exact z_si hC hy hl hdg hM pre suf hw hn hst hd hcat hk (fun r u e => by subst e; exact kk)
theorem z_sk (hC : zOK g C cc own d mc ms) (hy : sM y cy nl (some ret) np) (hl : Cond.methodLink own idx y ∈ aw) (hdg : decode cc pc = .ok (.invokestatic idx, 3)) {post : Int32 → S → Prop} (hM : FI g y cy nl ret d' mc' ms' As w post w') (K : va_W → va_W) (hK : isCtx K) (hw : ws = K w)
    (hn : As.length = np) (hst : st = As.reverse ++ rest) (hd : d' + 1 ≤ d) (hcat : (rest.map fun v => v.category).sum ≤ 8) (hk : k + mc' ≤ mc ∧ n + ms' ≤ ms)
    (kk : ∀ (r : Int32) (u : S), post r u → Z g C (k + mc') (n + ms') (K (w' u)) lv (pc + 3) (.int r :: rest)) : Z g C k n ws lv pc st := by
  obtain ⟨pre, suf, hKw⟩ := hK
  rw [hKw] at hw
  exact z_si hC hy hl hdg hM pre suf hw hn hst hd hcat hk (fun r u hp => by have := kk r u hp; rw [hKw] at this; exact this)
theorem z_sgv (hC : zOK g C cc own d mc ms) (hy : sM y cy nl none np) (hl : Cond.methodLink own idx y ∈ aw) (hdg : decode cc pc = .ok (.invokestatic idx, 3)) (hM : Gv g y cy nl d' As w w1) (K : va_W → va_W) (hK : isCtx K) (hw : ws = K w)
    (hn : As.length = np) (hst : st = As.reverse ++ rest) (hd : d' + 1 ≤ d) (hcat : (rest.map fun v => v.category).sum ≤ 8) (hk : k ≤ mc ∧ n ≤ ms)
    (kk : Z g C k n (K w1) lv (pc + 3) rest) : Z g C k n ws lv pc st := by
  obtain ⟨pre, suf, hKw⟩ := hK
  rw [hKw] at hw kk
  subst hw hst
  intro H locs ls hP hD hS hl0
  have hPw : va_P g.1 vwCl w H := (va_P_app.mp (va_P_app.mp hP).2).1
  have hDw : va_D (fun _ => True) w := ((va_D_app.mp (va_D_app.mp hD).2.1).1).weaken (fun _ _ _ _ => trivial)
  have hF := mid_free hD hS hC.2.2.2.2.2.2.1
  refine va_callv (va_runS (As := As) (rest := rest) (z_fix hC) (hM (zl C) H.size) ⟨callB_of np hC.2.2.2.1 (good_w (fun _ h => h) hy.2.2.1) rfl rfl rfl (hC.2.2.2.1 _ hy.2.1) (hC.2.2.2.1 _ hl) hy.2.2.2.1 (z_room hC hd hy.2.2.2.2), hC.2.2.2.1 _ hy.1⟩ (z_preS hC hPw hDw) rfl hn hl0.1 rfl (lv_room hcat) hdg ?_) hS (fun q _ h => hF q h) hF (fun u t H1 locs1 ht hvm hp hB hz hk1 hS1 => ?_)
  · rw [hC.2.2.2.2.2.1]; exact hk
  · obtain ⟨hP1, hD1⟩ := hB
    rw [ht] at hP1
    obtain ⟨hP2, hD2⟩ := mid_join hP hD hk1 hF hP1 hD1
    exact kk H1 locs1 ls hP2 hD2 hS1 hl0
/-- a part of the world is let go -/
theorem z_drop (e : ws'.Sublist ws) (h : Z g C k n ws' lv pc st) : Z g C k n ws lv pc st := by
  intro H locs ls hP hD hS hl
  refine h H locs ls (va_P_mem.mpr fun q hq => va_P_mem.mp hP q (e.subset hq)) ?_ hS hl
  obtain ⟨h1, h2⟩ := va_D_iff.mp hD
  exact va_D_iff.mpr ⟨(e.map Prod.fst).nodup h1, fun q hq => h2 q (e.subset hq)⟩
theorem z_ishr (hC : zOK g C cc own d mc ms) {x y v : Int32} (hv : x >>> (y &&& 31) = v) (hdg : decode cc pc = .ok (.ishr, 1)) (h : Z g C k n ws lv (pc + 1) (.int v :: st)) : Z g C k n ws lv pc (.int y :: .int x :: st) := by
  subst hv
  exact fun H locs ls hP hD hS hl => lv_ishr hC.1 hC.2.1 hdg (h H locs ls hP hD hS hl)
theorem z_idiv (hC : zOK g C cc own d mc ms) {x y v : Int32} (hy : ¬ y = 0) (hv : x / y = v) (hdg : decode cc pc = .ok (.idiv, 1)) (h : Z g C k n ws lv (pc + 1) (.int v :: st)) : Z g C k n ws lv pc (.int y :: .int x :: st) := by
  subst hv
  exact fun H locs ls hP hD hS hl => lv_idiv hC.1 hC.2.1 hdg hy (h H locs ls hP hD hS hl)
theorem z_ldc (hC : zOK g C cc own d mc ms) {i : Nat} {v : Int32} (hc : Cond.constant own i v ∈ aw) (hdg : decode cc pc = .ok (.ldc i, 2)) (h : Z g C k n ws lv (pc + 2) (.int v :: st)) : Z g C k n ws lv pc st :=
  fun H locs ls hP hD hS hl => lv_ldc hC.1 hC.2.1 hC.2.2.1 (hC.2.2.2.1 _ hc) hdg (h H locs ls hP hD hS hl)
theorem z_alen (hC : zOK g C cc own d mc ms) (q0 : Nat) {a nn : Nat} {f : Nat → Int32} (ha : ws[q0]? = some (a, .inl (g.2 0, nn, .inl f))) (hdg : decode cc pc = .ok (.arraylength, 1)) (h : Z g C k n ws lv (pc + 1) (.int (nI nn) :: st)) : Z g C k n ws lv pc (.ref a :: st) :=
  fun H locs ls hP hD hS hl => va_alen hC.1 hC.2.1 hC.2.2.2.2.1 hP q0 0 ha rfl rfl hdg (h H locs ls hP hD hS hl)
theorem z_dcmp (hC : zOK g C cc own d mc ms) {x y : UInt64} {op : CmpOp} (hdg : decode cc pc = .ok (.dcmp op, 1)) (h : Z g C k n ws lv (pc + 1) (.int (Op.cmpValue (FP.dcmp x y) op) :: st)) : Z g C k n ws lv pc (.double y :: .double x :: st) :=
  fun H locs ls hP hD hS hl => lv_dcmp hC.1 hC.2.1 hdg (h H locs ls hP hD hS hl)
theorem z_ddiv (hC : zOK g C cc own d mc ms) {x y : UInt64} (hne : vf_n64 (FP.ddiv x y)) (hdg : decode cc pc = .ok (.ddiv, 1)) (h : Z g C k n ws lv (pc + 1) (.double (FP.ddiv x y) :: st)) : Z g C k n ws lv pc (.double y :: .double x :: st) :=
  fun H locs ls hP hD hS hl => lv_ddiv hC.1 hC.2.1 hdg hne (h H locs ls hP hD hS hl)
end ZSK
theorem ctx_l (X : va_W) : isCtx (fun w => w ++ X) := ⟨[], X, fun _ => rfl⟩
theorem ctx_r (X : va_W) : isCtx (fun w => X ++ w) := ⟨X, [], fun w => by rw [List.append_nil]⟩
theorem ctx_m (X Y : va_W) : isCtx (fun w => X ++ (w ++ Y)) := ⟨X, Y, fun _ => rfl⟩
theorem set_app {X Y Y' : va_W} {e : Nat × va_E} {q m : Nat} (hn : X.length + q = m) (h : Y.set q e = Y') : (X ++ Y).set m e = X ++ Y' := by
  subst hn h
  rw [List.set_append_right _ _ (Nat.le_add_right _ _), Nat.add_sub_cancel_left]
theorem set_appl {X Y Y' : va_W} {e : Nat × va_E} {q : Nat} (hq : q < Y.length) (h : Y.set q e = Y') : (Y ++ X).set q e = Y' ++ X := by
  subst h
  exact List.set_append_left _ _ hq
theorem ctx_rr (X Y : va_W) : isCtx (fun w => X ++ (Y ++ w)) := ⟨X ++ Y, [], fun w => by rw [List.append_nil, List.append_assoc]⟩
/-! METHODS THAT ANSWER A DOUBLE and draw nothing -/
def FN {S : Type} (g : zG) (y : MethodName) (cy : ByteArray) (nl : Nat) (d : Nat) (av : List Value) (w : va_W) (post : UInt64 → S → Prop) (w' : S → va_W) : Prop :=
  ∀ (l : Launch) (sz : Nat), Met l y (w_ y cy nl (some .double)) (zRm d 0 0) (zPre g av w sz) (va_Qd post (zPost g w sz w') (va_A w sz)) 0 0 (va_A w sz)
def zDN {S : Type} (g : zG) (C : zC) (cc : ByteArray) (post : UInt64 → S → Prop) (w' : S → va_W) : Prop :=
  ∀ (pc : Nat) (lv : List (Nat × Value)) (r : UInt64) (u : S) (ws : va_W), decode cc pc = .ok (.dreturn, 1) → post r u → ws = w' u → Z g C 0 0 ws lv pc [.double r]
theorem fn_entry {S : Type} {g : zG} {y : MethodName} {cy : ByteArray} {nl : Nat} {d : Nat} {av : List Value} {w : va_W} {post : UInt64 → S → Prop} {w' : S → va_W} (hy : plainName y.cls = true) (hn : (lg_sl av).length ≤ nl)
    (h : ∀ C : zC, zOK g C cy y.cls d 0 0 → (zc C).maxLocals = nl → zDN g C cy post w' → Z g C 0 0 w (lv_args 0 av) 0 []) : FN g y cy nl d av w post w' := by
  intro l sz
  refine Met.ofW (cc := cy) (maxL := nl) (ret := some .double) hy rfl ?_
  intro p e s m args below meth c s₁ B hml hv
  obtain ⟨rfl, hsz, hP, hK, hD0, hN⟩ := hv
  have hx := B.exec
  have hb := B.bytes
  have hr := B.returns
  have hts := atoms_spec (ws := w_ y cy nl (some .double)) B.pre
  have hown : s.vm.findClass y.cls = some m.cls := findClass_of_methodNamed B.named
  have hlocks := B.notSynchronized
  subst hsz
  rw [lg_entry_eq]
  have hl := lv_entry av (n := nl) hn
  generalize (lg_sl av ++ List.replicate (nl - (lg_sl av).length) Slot.unset).toArray = ls at hl ⊢
  refine h (p, l, e, zRm d 0 0, s, m, av.toArray, below, meth, c, va_A w s.heap.size, MQ below (va_Qd post (zPost g w s.heap.size w') (va_A w s.heap.size)) av.toArray s 0 0 (va_A w s.heap.size)) ⟨hx, hb, hown, fun x hx' => hts x (List.mem_cons_of_mem _ hx'), hK, rfl, fun q hq => Or.inr hq, hN⟩ hml ?_ s.heap [] ls hP hD0.self va_S.rf (by rw [show (zc (p, l, e, zRm d 0 0, s, m, av.toArray, below, meth, c, va_A w s.heap.size, MQ below (va_Qd post (zPost g w s.heap.size w') (va_A w s.heap.size)) av.toArray s 0 0 (va_A w s.heap.size))).maxLocals = nl from hml]; exact hl)
  intro pc lv r u ws hdg hp hw
  subst hw
  intro H locs ls2 hP hD hS hl2
  exact W.dret hx hb hr (fun t ht hW => ⟨⟨r, u, rfl, hp, by rw [ht]; exact hP, hD⟩, hS.F ht⟩) hS.2.2 hdg
theorem z_vdn {g : zG} {C : zC} {cc : ByteArray} {own : String} {d mc ms k n : Nat} {ws : va_W} {lv : List (Nat × Value)} {pc : Nat} {st rest : List Value} {S : Type} {y : MethodName} {cy : ByteArray} {nl d' np idx b : Nat} {As : List Value} {w : va_W} {w' : S → va_W} (hC : zOK g C cc own d mc ms) (hy : vM y cy nl (some .double) np) (hl : Cond.methodLink own idx y ∈ aw) (hdg : decode cc pc = .ok (.invokevirtual idx, 3)) {post : UInt64 → S → Prop} (hM : FN g y cy nl d' (.ref b :: As) w post w') (K : va_W → va_W) (hK : isCtx K) (hw : ws = K w) (q0 ci : Nat) {fs : List Value} {r : vw_C} (he : w[q0]? = some (b, .inr (ci, fs))) (hr : vwCl[ci]? = some r) (hR : r.1 = y.cls)
    (hn : As.length = np) (hst : st = As.reverse ++ .ref b :: rest) (hd : d' + 1 ≤ d) (hcat : (rest.map fun v => v.category).sum ≤ 8) (hk : k ≤ mc ∧ n ≤ ms)
    (kk : ∀ (r : UInt64) (u : S), post r u → Z g C k n (K (w' u)) lv (pc + 3) (.double r :: rest)) : Z g C k n ws lv pc st := by
  obtain ⟨pre, suf, hKw⟩ := hK
  rw [hKw] at hw
  subst hw hst
  intro H locs ls hP hD hS hl0
  have hPw : va_P g.1 vwCl w H := (va_P_app.mp (va_P_app.mp hP).2).1
  have hDw : va_D (fun _ => True) w := ((va_D_app.mp (va_D_app.mp hD).2.1).1).weaken (fun _ _ _ _ => trivial)
  have hF := mid_free hD hS hC.2.2.2.2.2.2.1
  refine va_calld (va_runV (As := As) (rest := rest) (z_fix hC) (hM (zl C) H.size) (z_cw (mc' := 0) (ms' := 0) hC hy hl hd) (z_preV hC hPw hDw hr hR he) rfl hn hl0.1 rfl (lv_room hcat) hdg ?_) hS (fun q _ h => hF q h) hF (fun r u t H1 locs1 ht hvm hp hB hz hk1 hS1 => ?_)
  · rw [hC.2.2.2.2.2.1]; exact hk
  · obtain ⟨hP1, hD1⟩ := hB
    rw [ht] at hP1
    obtain ⟨hP2, hD2⟩ := mid_join hP hD hk1 hF hP1 hD1
    have := kk r u hp
    rw [hKw] at this
    exact this H1 locs1 ls hP2 hD2 hS1 hl0
