/-! METHODS THAT MAY THROW -/
abbrev xNm : List String := ["java/lang/RuntimeException", "java/lang/Exception"]
def xD : List Cond := [.declares ⟨"java/lang/RuntimeException", "<init>", "(Ljava/lang/String;)V"⟩, .declares ⟨"java/lang/Exception", "<init>", "(Ljava/lang/String;)V"⟩, .declares ⟨"java/lang/Throwable", "<init>", "(Ljava/lang/String;)V"⟩, .castable "java/lang/IllegalArgumentException" "java/lang/IllegalArgumentException", .castable "java/lang/IllegalStateException" "java/lang/IllegalStateException", .castable "java/lang/IndexOutOfBoundsException" "java/lang/IndexOutOfBoundsException"]
def zD (U : State) : Prop := ∀ w ∈ xD, w.before #[] U = true
theorem zD.al {u U : State} (hvm : u.vm.Alike U.vm) (hZ : zD u) : zD U := by
  have key : ∀ y : MethodName, (Cond.declares y).before #[] u = true → (Cond.declares y).before #[] U = true := fun y h => by
    have h1 : (Cond.declares y).before #[] (u.setVm U.vm) = true := by rw [Cond.declares_setVm hvm]; exact h
    have e := Cond.onTables_vm (A := #[]) (A' := #[]) (U := u) (U' := U) U.vm (Cond.declares y) rfl
    rw [e] at h1
    exact h1
  have key2 : ∀ X Y : String, (Cond.castable X Y).before #[] u = true → (Cond.castable X Y).before #[] U = true := fun X Y h => by
    have h1 : (Cond.castable X Y).before #[] (u.setVm U.vm) = true := by rw [Cond.castable_setVm hvm]; exact h
    have e := Cond.onTables_vm (A := #[]) (A' := #[]) (U := u) (U' := U) U.vm (Cond.castable X Y) rfl
    rw [e] at h1
    exact h1
  intro w hw
  have h := hZ w hw
  simp only [xD, List.mem_cons, List.not_mem_nil, or_false] at hw
  rcases hw with rfl | rfl | rfl | rfl | rfl | rfl
  · exact key _ h
  · exact key _ h
  · exact key _ h
  · exact key2 _ _ h
  · exact key2 _ _ h
  · exact key2 _ _ h
def xStr : List (Nat × String) := [(39, "an argument is out of range"), (50, "the room takes no such job now"), (73, "no such job"), (80, "the job neither waits nor runs"), (92, "no such reel"), (94, "the volume is out of range"), (108, "the reel is on a drive"), (114, "the number of minutes is out of range"), (124, "this is the last day"), (130, "no such setting"), (132, "the value is out of the range of the setting"), (140, "the character code is out of range"), (145, "the text is full"), (155, "the text is not valid"), (188, "there is no saved state"), (203, "no such part of a reel"), (205, "no such drive"), (230, "no such part of a job"), (235, "no such job or reel"), (278, "no such count")]
def zS (U : State) : Prop := ∀ q ∈ xStr, ∃ sa : Nat, vk_R RX5 q.1 q.2 sa U
theorem zS.same {u U : State} (h : U.vm = u.vm) (hZ : zS u) : zS U := fun q hq => by
  obtain ⟨sa, h1⟩ := hZ q hq
  exact ⟨sa, vk_R.same h h1⟩
theorem zS.warm {s U : State} (hW : s.WarmedH U.vm) (hZ : zS s) : zS U := fun q hq => by
  obtain ⟨sa, h1⟩ := hZ q hq
  exact ⟨sa, vk_R.warm hW h1⟩
/-- what a throw needs beyond: the two statics of Throwable lie outside A -/
def zX (A : Nat → Prop) (U : State) (H : Heap) : Prop := zD U ∧ zS U ∧ vx_Zq Bundle.tN "UNASSIGNED_STACK" Bundle.steD A U H ∧ vx_Zq Bundle.tN "SUPPRESSED_SENTINEL" Bundle.listD A U H
theorem zX.call {A B : Nat → Prop} {s U : State} {H : Heap} (hW : s.WarmedH U.vm) (h : zX A s s.heap) (hq : ∀ a : Nat, a < s.heap.size → ¬ A a → H[a]? = s.heap[a]?) (hAB : ∀ q, B q → A q) : zX B U H :=
  ⟨zD.al hW.alike h.1, zS.warm hW h.2.1, ((h.2.2.1.kept hq).moved hW.alike).narrow hAB, ((h.2.2.2.kept hq).moved hW.alike).narrow hAB⟩
def zPreX (g : zG) (av : List Value) (w : va_W) (sz : Nat) : Array Value → State → Prop := va_Pc av (fun U => U.heap.size = sz ∧ va_P g.1 vwCl w U.heap ∧ va_K g.1 vwCl (zT g.2) U ∧ va_D (fun _ => True) w ∧ zN U ∧ zX (va_A w sz) U U.heap)
theorem zPreX_blind {g : zG} {av : List Value} {w : va_W} {sz : Nat} : FrameBlind (zPreX g av w sz) := fun a U f mk q => by
  obtain ⟨q0, q1, qP, qK, qD, qN, q3, q4, q5, q6⟩ := q
  exact ⟨q0, q1, qP, va_K.moved (u := U) (U := U.calling f mk a) (Vm.Alike.refl U.vm) qK, qD, zN.same (u := U) (U := U.calling f mk a) rfl qN, zD.al (u := U) (U := U.calling f mk a) (Vm.Alike.refl U.vm) q3, zS.same (u := U) (U := U.calling f mk a) rfl q4, q5.moved (u := U) (U := U.calling f mk a) (Vm.Alike.refl U.vm), q6.moved (u := U) (U := U.calling f mk a) (Vm.Alike.refl U.vm)⟩
abbrev zXC {S : Type} (g : zG) (w : va_W) (sz : Nat) (px : String → S → Prop) (wx : S → va_W) : String → State → State → Prop := vx_X (S := S) (fun _ => True) (fun E u t => px E u ∧ va_P g.1 vwCl (wx u) t.heap ∧ va_D (va_A w sz) (wx u)) (va_A w sz)
/-- a method that answers an int, or throws a class of px with the world wx -/
def FX {S : Type} (g : zG) (y : MethodName) (cy : ByteArray) (nl : Nat) (ret : FieldType) (d : Nat) (av : List Value) (w : va_W) (px : String → S → Prop) (wx : S → va_W) (post : Int32 → S → Prop) (w' : S → va_W) : Prop :=
  ∀ (l : Launch) (sz : Nat), l.stackTraces = false → vx_Met l y (w_ y cy nl (some ret)) (zRm d 1 6) (zPreX g av w sz) (va_Qi post (zPost g w sz w') (va_A w sz)) (zXC g w sz px wx) 1 6 (va_A w sz)
/-- a class that is thrown: its entry ik, its constructor's entry ic -/
def xOK (ik ic : Nat) (cls : String) : Prop :=
  Bundle.fit cls = true ∧ Cond.classLink RX5 ik cls ∈ aw ∧ Cond.initialized cls ∈ aw ∧ (∀ w ∈ (vx_atS RX5 ic cls xNm).filter goodWord, w ∈ aw) ∧ (∀ w ∈ (vx_atS RX5 ic cls xNm).filter (fun w => !goodWord w), w ∈ xD) ∧ (∀ w ∈ Cond.classLink RX5 ik cls :: Cond.initialized cls :: vx_atS RX5 ic cls xNm, vx_ot w = true)
theorem xIAE : xOK 37 41 "java/lang/IllegalArgumentException" := ⟨by decide +kernel, in_aw 394 (by decide +kernel) (by decide +kernel), by decide +kernel, by decide +kernel, by decide +kernel, by decide +kernel⟩
theorem xISE : xOK 48 52 "java/lang/IllegalStateException" := ⟨by decide +kernel, in_aw 479 (by decide +kernel) (by decide +kernel), by decide +kernel, by decide +kernel, by decide +kernel, by decide +kernel⟩
theorem xIOE : xOK 71 75 "java/lang/IndexOutOfBoundsException" := ⟨by decide +kernel, in_aw 536 (by decide +kernel) (by decide +kernel), by decide +kernel, by decide +kernel, by decide +kernel, by decide +kernel⟩
theorem xNm_fit : ∀ n ∈ xNm, Bundle.fit n = true := by decide +kernel
/-- the throw at pc -/
def zThr {S : Type} (g : zG) (C : zC) (cy : ByteArray) (px : String → S → Prop) (wx : S → va_W) : Prop :=
  ∀ (pc ik is ic : Nat) (cls text : String) (lv : List (Nat × Value)) (ws : va_W), xOK ik ic cls → decode cy pc = .ok (.new ik, 3) → decode cy (pc + 3) = .ok (.dup, 1) → decode cy (pc + 4) = .ok (.ldc is, 2) → decode cy (pc + 6) = .ok (.invokespecial ic, 3) → decode cy (pc + 9) = .ok (.athrow, 1) → (is, text) ∈ xStr → ∀ u : S, px cls u → ws = wx u → Z g C 0 0 ws lv pc []
/-- .. with a wide entry -/
def zThrW {S : Type} (g : zG) (C : zC) (cy : ByteArray) (px : String → S → Prop) (wx : S → va_W) : Prop :=
  ∀ (pc ik is ic : Nat) (cls text : String) (lv : List (Nat × Value)) (ws : va_W), xOK ik ic cls → decode cy pc = .ok (.new ik, 3) → decode cy (pc + 3) = .ok (.dup, 1) → decode cy (pc + 4) = .ok (.ldc_w is, 3) → decode cy (pc + 7) = .ok (.invokespecial ic, 3) → decode cy (pc + 10) = .ok (.athrow, 1) → (is, text) ∈ xStr → ∀ u : S, px cls u → ws = wx u → Z g C 0 0 ws lv pc []
theorem zXC_of {S : Type} {g : zG} {w : va_W} {s t : State} {H : Heap} {locs : List Loc} {px : String → S → Prop} {wx : S → va_W} {u : S} {cls : String} (hp : px cls u) (hP : va_P g.1 vwCl (wx u) H) (hD : va_D (va_A w s.heap.size) (wx u)) (hS : va_S (va_A w s.heap.size) s.heap H locs) (h1 : H.size ≤ t.heap.size) (h2 : ∀ q : Nat, q < H.size → t.heap[q]? = H[q]?) : zXC g w s.heap.size px wx cls s t :=
  ⟨u, trivial, ⟨hp, va_P_mem.mpr fun q hq => (va_P_mem.mp hP q hq).kept (h2 q.1 (va_P_mem.mp hP q hq).lt), hD⟩, Nat.le_trans hS.1 h1, fun q hq hA => (h2 q (Nat.lt_of_lt_of_le hq hS.1)).trans (hS.2.1 q hq hA)⟩
theorem fx_entry {S : Type} {g : zG} {y : MethodName} {cy : ByteArray} {nl : Nat} {ret : FieldType} {d : Nat} {av : List Value} {w : va_W} {px : String → S → Prop} {wx : S → va_W} {post : Int32 → S → Prop} {w' : S → va_W} (hy : plainName y.cls = true) (hyc : y.cls = RX5) (hd : 6 ≤ d) (hn : (lg_sl av).length ≤ nl)
    (h : ∀ C : zC, zOK g C cy y.cls d 1 6 → (zc C).maxLocals = nl → zI g C cy ret 1 6 post w' → zThr g C cy px wx → zThrW g C cy px wx → Z g C 0 0 w (lv_args 0 av) 0 []) : FX g y cy nl ret d av w px wx post w' := by
  intro l sz hl0
  refine vx_ofW (cc := cy) (maxL := nl) (ret := some ret) hy rfl ?_
  intro p e s m args below meth c s₁ B hml htab hv
  obtain ⟨rfl, hsz, hP, hK, hD0, hN, hZ⟩ := hv
  have hx := B.exec
  have hb := B.bytes
  have hr := B.returns
  have hts := atoms_spec (ws := w_ y cy nl (some ret)) B.pre
  have hown : s.vm.findClass y.cls = some m.cls := findClass_of_methodNamed B.named
  have hlocks := B.notSynchronized
  subst hsz
  rw [lg_entry_eq]
  have hl := lv_entry av (n := nl) hn
  have hau : ∀ w ∈ aw, w.before av.toArray s = true := fun x hx' => hts x (List.mem_cons_of_mem _ hx')
  have hDs : ∀ w ∈ xD, w.before av.toArray s = true := fun w hw => by
    have hq := hZ.1 w hw
    have e := Cond.onTables_vm (A := #[]) (A' := av.toArray) (U := s) (U' := s) s.vm w (by simp only [xD, List.mem_cons, List.not_mem_nil, or_false] at hw; rcases hw with rfl | rfl | rfl | rfl | rfl | rfl <;> rfl)
    exact e.symm.trans hq
  generalize (lg_sl av ++ List.replicate (nl - (lg_sl av).length) Slot.unset).toArray = ls at hl ⊢
  refine h (p, l, e, zRm d 1 6, s, m, av.toArray, below, meth, c, va_A w s.heap.size, vx_MQ below (va_Qi post (zPost g w s.heap.size w') (va_A w s.heap.size)) (zXC g w s.heap.size px wx) av.toArray s 1 6 (va_A w s.heap.size)) ⟨hx, hb, hown, hau, hK, rfl, fun q hq => Or.inr hq, hN⟩ hml ?_ ?_ ?_ s.heap [] ls hP hD0.self va_S.rf (by rw [show (zc (p, l, e, zRm d 1 6, s, m, av.toArray, below, meth, c, va_A w s.heap.size, vx_MQ below (va_Qi post (zPost g w s.heap.size w') (va_A w s.heap.size)) (zXC g w s.heap.size px wx) av.toArray s 1 6 (va_A w s.heap.size))).maxLocals = nl from hml]; exact hl)
  · intro pc lv r u k n ws hdg hnar hp hw h1 h2
    subst hw
    intro H locs ls2 hP hD hS hl2
    refine vx_ret (W.widen h1 h2 ?_)
    exact W.zret hx hb hr hnar (fun t ht hW => ⟨⟨r, u, rfl, hp, by rw [ht]; exact hP, hD⟩, hS.F ht⟩) hS.2.2 hdg
  · intro pc ik is ic cls text lv ws hX d0 d3 d4 d6 d9 hstr u hp hw
    subst hw
    intro H locs ls2 hP2 hD2 hS hl2
    obtain ⟨sa, hsa⟩ := hZ.2.1 _ hstr
    exact vx_throwS (A := va_A w s.heap.size) hx hb hl0 (by rw [← hyc]; exact hown) hX.1 xNm_fit (hau _ hX.2.1) (hau _ hX.2.2.1) hsa (vx_hat (fun w hw => hau w (hX.2.2.2.1 w hw)) hX.2.2.2.2.1 hDs) hX.2.2.2.2.2 hZ.2.2.1 hZ.2.2.2 hS hl2.1 d0 d3 d4 d6 d9 (fun x hx' => (htab x hx').elim)
      (show 5 < d by omega) (show 0 + 82 ≤ 32 * d by omega) (Nat.le_refl _) (Nat.le_refl _) hlocks (fun t _ h1 h2 => zXC_of hp hP2 hD2 hS h1 h2) hS.2.2 (Nat.le_refl _) (Nat.le_refl _)
  · intro pc ik is ic cls text lv ws hX d0 d3 d4 d6 d9 hstr u hp hw
    subst hw
    intro H locs ls2 hP2 hD2 hS hl2
    obtain ⟨sa, hsa⟩ := hZ.2.1 _ hstr
    exact vx_throwSW (A := va_A w s.heap.size) hx hb hl0 (by rw [← hyc]; exact hown) hX.1 xNm_fit (hau _ hX.2.1) (hau _ hX.2.2.1) hsa (vx_hat (fun w hw => hau w (hX.2.2.2.1 w hw)) hX.2.2.2.2.1 hDs) hX.2.2.2.2.2 hZ.2.2.1 hZ.2.2.2 hS hl2.1 d0 d3 d4 d6 d9 (fun x hx' => (htab x hx').elim)
      (show 5 < d by omega) (show 0 + 82 ≤ 32 * d by omega) (Nat.le_refl _) (Nat.le_refl _) hlocks (fun t _ h1 h2 => zXC_of hp hP2 hD2 hS h1 h2) hS.2.2 (Nat.le_refl _) (Nat.le_refl _)
