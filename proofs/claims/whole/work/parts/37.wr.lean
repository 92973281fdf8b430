/-! CALLERS THAT CATCH -/
theorem W_room {p : Program} {l : Launch} {e : Env} {R R' : Room} {s : State} {m : MethodId} {args : Array Value} {below : List Frame} {meth : Method} {c : Code} {H : Heap} {locs : List Loc} {cells slots : Nat} {Q : State → Prop} {f : JFrame} (h1 : R'.frames ≤ R.frames) (h2 : R'.locals ≤ R.locals) (h3 : R'.cells ≤ R.cells) (h4 : R'.slots ≤ R.slots) (k : W p l e R' s m args below meth c H locs cells slots Q f) : W p l e R s m args below meth c H locs cells slots Q f := by
  intro T hT X
  refine k T hT ⟨X.admits, X.cas, X.clock, X.frames, ?_, X.hears, X.method, X.code, X.here, X.tail, X.warmed, X.limits, X.bytes, X.same⟩
  have h := X.room
  simp only [State.hasRoom, Bool.and_eq_true, decide_eq_true_eq] at h ⊢
  obtain ⟨⟨⟨⟨a1, a2, a3, a4, a5, a6⟩, a7⟩, a8⟩, a9⟩ := h
  exact ⟨⟨⟨⟨by omega, by omega, by omega, by omega, by omega, a6⟩, by omega⟩, by omega⟩, a9⟩
abbrev xA_ : String := "java/lang/IllegalArgumentException"
abbrev xS_ : String := "java/lang/IllegalStateException"
abbrev xO_ : String := "java/lang/IndexOutOfBoundsException"
def zNc (U : State) : Prop := va_Nc xA_ xO_ U ∧ va_Nc xS_ xO_ U ∧ va_Nc xS_ xA_ U
theorem zNc.moved {u U : State} (h : u.vm.Alike U.vm) (hZ : zNc u) : zNc U := ⟨hZ.1.moved h, hZ.2.1.moved h, hZ.2.2.moved h⟩
def zPreW (g : zG) (av : List Value) (w : va_W) (sz : Nat) : Array Value → State → Prop := va_Pc av (fun U => U.heap.size = sz ∧ va_P g.1 vwCl w U.heap ∧ va_K g.1 vwCl (zT g.2) U ∧ va_D (fun _ => True) w ∧ zN U ∧ zX (va_A w sz) U U.heap ∧ zNc U)
theorem zPreW_blind {g : zG} {av : List Value} {w : va_W} {sz : Nat} : FrameBlind (zPreW g av w sz) := fun a U f mk q => by
  obtain ⟨q0, q1, qP, qK, qD, qN, ⟨q3, q4, q5, q6⟩, q7⟩ := q
  exact ⟨q0, q1, qP, va_K.moved (u := U) (U := U.calling f mk a) (Vm.Alike.refl U.vm) qK, qD, zN.same (u := U) (U := U.calling f mk a) rfl qN, ⟨zD.al (u := U) (U := U.calling f mk a) (Vm.Alike.refl U.vm) q3, zS.same (u := U) (U := U.calling f mk a) rfl q4, q5.moved (u := U) (U := U.calling f mk a) (Vm.Alike.refl U.vm), q6.moved (u := U) (U := U.calling f mk a) (Vm.Alike.refl U.vm)⟩, q7.moved (u := U) (U := U.calling f mk a) (Vm.Alike.refl U.vm)⟩
abbrev wH (y : MethodName) (cy : ByteArray) (nl : Nat) (hh : List (Nat × Nat × Nat × Nat)) : List Cond := Cond.codeWith y cy nl (some .int) hh :: aw
/-- a method that catches all: it answers an int -/
def FW {S : Type} (g : zG) (y : MethodName) (cy : ByteArray) (nl : Nat) (hh : List (Nat × Nat × Nat × Nat)) (d : Nat) (av : List Value) (w : va_W) (post : Int32 → S → Prop) (w' : S → va_W) : Prop :=
  ∀ (l : Launch) (sz : Nat), l.stackTraces = false → Met l y (wH y cy nl hh) (zRm d 1 6) (zPreW g av w sz) (va_Qi post (zPost g w sz w') (va_A w sz)) 1 6 (va_A w sz)
theorem fw_entry {S : Type} {g : zG} {y : MethodName} {cy : ByteArray} {nl : Nat} {hh : List (Nat × Nat × Nat × Nat)} {d : Nat} {av : List Value} {w : va_W} {post : Int32 → S → Prop} {w' : S → va_W} (hy : plainName y.cls = true) (hn : (lg_sl av).length ≤ nl)
    (h : ∀ C : zC, zOK g C cy y.cls d 1 6 → (zc C).maxLocals = nl → (zc C).exceptionTable.toList = tableOf hh → (zl C).stackTraces = false → zX (zA C) (zs C) (zs C).heap → zNc (zs C) → zI g C cy .int 1 6 post w' → Z g C 0 0 w (lv_args 0 av) 0 []) : FW g y cy nl hh d av w post w' := by
  intro l sz hl0
  refine MetFree.of_bodyS (code := cy) (maxLocals := nl) (ret := some .int) hy ?_ ?_
  · intro args s m h hn
    obtain ⟨m9, meth, c, hn9, h1, h2, h3, h4, -, h5, h6, -⟩ := Cond.codeWith_spec (atoms_spec (ws := wH y cy nl hh) h _ List.mem_cons_self)
    cases hn.symm.trans hn9
    exact ⟨meth, c, h1, h2, h3, h4, h5, h6⟩
  intro p e s m args below meth c s₁ B hml hv _
  have hh0 : s₁.heap = s.heap := by rw [B.state]; rfl
  obtain ⟨rfl, hsz, hP, hK, hD0, hN, hZ, hNc⟩ := hv
  have hx := B.exec
  have hb := B.bytes
  have hr := B.returns
  have hts := atoms_spec (ws := wH y cy nl hh) B.pre
  have htab := vx_table (x := y) B (hts _ List.mem_cons_self)
  have hown : s.vm.findClass y.cls = some m.cls := findClass_of_methodNamed B.named
  have hlocks := B.notSynchronized
  subst hsz
  have K : W p l e (zRm d 1 6) s m av.toArray below meth c s.heap [] 0 0 (MQ below (va_Qi post (zPost g w s.heap.size w') (va_A w s.heap.size)) av.toArray s 1 6 (va_A w s.heap.size)) (entryFrame m av.toArray nl) := by
    rw [lg_entry_eq]
    have hl := lv_entry av (n := nl) hn
    generalize (lg_sl av ++ List.replicate (nl - (lg_sl av).length) Slot.unset).toArray = ls at hl ⊢
    refine h (p, l, e, zRm d 1 6, s, m, av.toArray, below, meth, c, va_A w s.heap.size, MQ below (va_Qi post (zPost g w s.heap.size w') (va_A w s.heap.size)) av.toArray s 1 6 (va_A w s.heap.size)) ⟨hx, hb, hown, fun x hx' => hts x (List.mem_cons_of_mem _ hx'), hK, rfl, fun q hq => Or.inr hq, hN⟩ hml htab hl0 hZ hNc ?_ s.heap [] ls hP hD0.self va_S.rf (by rw [show (zc (p, l, e, zRm d 1 6, s, m, av.toArray, below, meth, c, va_A w s.heap.size, MQ below (va_Qi post (zPost g w s.heap.size w') (va_A w s.heap.size)) av.toArray s 1 6 (va_A w s.heap.size))).maxLocals = nl from hml]; exact hl)
    intro pc lv r u k n ws hdg hnar hp hw h1 h2
    subst hw
    intro H locs ls2 hP hD hS hl2
    refine W.widen h1 h2 ?_
    exact W.zret hx hb hr hnar (fun t ht hW => ⟨⟨r, u, rfl, hp, by rw [ht]; exact hP, hD⟩, hS.F ht⟩) hS.2.2 hdg
  obtain ⟨t, a1, o, b1, b2, b3⟩ := K s₁ hh0 (Stand.of_body B)
  exact ⟨t, o, a1, b1, b2, ⟨b3.1, b3.2⟩⟩
section ZVX
variable {g : zG} {C : zC} {cc : ByteArray} {own : String} {d mc ms k n : Nat} {ws ws' : va_W} {lv : List (Nat × Value)} {pc : Nat} {st rest : List Value}
variable {S : Type} {y : MethodName} {cy : ByteArray} {nl d' np idx b : Nat} {ret : FieldType} {As : List Value} {pre w suf : va_W} {w' wx : S → va_W}
theorem z_vx (hC : zOK g C cc own d mc ms) (hl0 : (zl C).stackTraces = false) (hX : zX (zA C) (zs C) (zs C).heap) (hy : vM y cy nl (some ret) np) (hl : Cond.methodLink own idx y ∈ aw) (hdg : decode cc pc = .ok (.invokevirtual idx, 3)) {px : String → S → Prop} {post : Int32 → S → Prop} (hM : FX g y cy nl ret d' (.ref b :: As) w px wx post w') (pre suf : va_W) (hw : ws = pre ++ (w ++ suf)) (q0 ci : Nat) {fs : List Value} (he : w[q0]? = some (b, .inr (ci, fs))) {r : vw_C} (hr : vwCl[ci]? = some r) (hR : r.1 = y.cls)
    (hn : As.length = np) (hst : st = As.reverse ++ .ref b :: rest) (hd : d' + 1 ≤ d) (hcat : (rest.map fun v => v.category).sum ≤ 8) (hk : k + 1 ≤ mc ∧ n + 6 ≤ ms)
    (kx : ∀ (E : String) (u : S), px E u → ∃ (pr : List ExceptionTableEntry) (x : ExceptionTableEntry) (su : List ExceptionTableEntry) (name : String), (zc C).exceptionTable.toList = pr ++ x :: su ∧ (∀ z ∈ pr, covers z pc = false ∨ (z.catchType ≠ 0 ∧ ∃ nm : String, Cond.classLink own z.catchType nm ∈ aw ∧ va_Nc E nm (zs C))) ∧ covers x pc = true ∧ x.catchType ≠ 0 ∧ Cond.classLink own x.catchType name ∈ aw ∧ Cond.castable E name ∈ xD ∧ ∀ q9 : Nat, Z g C (k + 1) (n + 6) (pre ++ (wx u ++ suf)) lv x.handlerPc [.ref q9])
    (kk : ∀ (r : Int32) (u : S), post r u → Z g C (k + 1) (n + 6) (pre ++ (w' u ++ suf)) lv (pc + 3) (.int r :: rest)) : Z g C k n ws lv pc st := by
  subst hw hst
  intro H locs ls hP hD hS hl0'
  have hPw : va_P g.1 vwCl w H := (va_P_app.mp (va_P_app.mp hP).2).1
  have hDw : va_D (fun _ => True) w := ((va_D_app.mp (va_D_app.mp hD).2.1).1).weaken (fun _ _ _ _ => trivial)
  have hF := mid_free hD hS hC.2.2.2.2.2.2.1
  have hpre : PreV (zs C) H y.cls b (zPreX g (.ref b :: As) w H.size) As :=
    ⟨zPreX_blind, by rw [← hR]; exact va_recv hC.2.2.2.2.1 hPw hr he, fun U hU hW => ⟨rfl, by rw [hU], by rw [hU]; exact hPw, va_K.moved hW.alike hC.2.2.2.2.1, hDw, zN.warm hW hC.2.2.2.2.2.2.2, by rw [hU]; exact zX.call hW hX hS.2.1 hF⟩⟩
  refine vx_calli (vx_runV (As := As) (rest := rest) (z_fix hC) (hM (zl C) H.size hl0) (z_cw hC hy hl hd) hpre rfl hn hl0'.1 rfl (lv_room hcat) hdg ?_) hS (fun q _ h => hF q h) hF (fun q _ h => hF q h) (fun E ce q9 u t H1 locs1 ht hvm hp hB hz hk1 hS1 hce hcv hcl => ?_) (fun r u t H1 locs1 ht hvm hp hB hz hk1 hS1 => ?_)
  · rw [hC.2.2.2.2.2.1]; exact hk
  · obtain ⟨hpx, hP1, hD1⟩ := hB
    rw [ht] at hP1
    obtain ⟨hP2, hD2⟩ := mid_join hP hD hk1 hF hP1 hD1
    obtain ⟨pr, x, su, name, e1, e2, e3, e4, e5, e6, e7⟩ := kx E u hpx
    have hcast : (Cond.castable E name).before (za C) (zs C) = true := by
      have hq := hX.1 _ e6
      have e := Cond.onTables_vm (A := #[]) (A' := za C) (U := zs C) (U' := zs C) (zs C).vm (Cond.castable E name) rfl
      exact e.symm.trans hq
    exact vx_catch hC.2.2.1 pr x su e1 (fun z hz => (e2 z hz).imp id (fun ⟨a1, nm, a2, a3⟩ => ⟨a1, nm, hC.2.2.2.1 _ a2, a3⟩)) e3 e4 (hC.2.2.2.1 _ e5) hcast hce hcv hcl (e7 q9 H1 locs1 ls hP2 hD2 hS1 hl0')
  · obtain ⟨hP1, hD1⟩ := hB
    rw [ht] at hP1
    obtain ⟨hP2, hD2⟩ := mid_join hP hD hk1 hF hP1 hD1
    exact kk r u hp H1 locs1 ls hP2 hD2 hS1 hl0'
theorem z_last (hC : zOK g C cc own d mc ms) (q0 : Nat) {a nn : Nat} {f : Nat → Int64} (ha : ws[q0]? = some (a, .inl (g.2 3, nn, .inr (.inl f)))) (hdg : decode cc pc = .ok (.lastore, 1)) {x : Int32} {v : Int64} (j : Nat) (hx : x = nI j) (hj : j < nn) (hn : nn < 2 ^ 31) (hw : ws.set q0 (a, .inl (g.2 3, nn, .inr (.inl (vp_updL f j v)))) = ws') (h : Z g C k n ws' lv (pc + 1) st) : Z g C k n ws lv pc (.long v :: .int x :: .ref a :: st) := by
  subst hx hw
  have hc := nI_clamp (n := j) (by omega)
  rw [← hc] at h
  exact fun H locs ls hP hD hS hl => va_last hC.1 hC.2.1 hC.2.2.2.2.1 hP hD hS q0 3 ha rfl (vp_in_nI hj hn) hdg (fun H1 locs1 hP1 hD1 hS1 => h H1 locs1 ls hP1 hD1 hS1 hl)
end ZVX
