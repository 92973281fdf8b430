/-! contracts, entries, ends, calls -/
/-- what a method starts from -/
def zPre (g : zG) (av : List Value) (w : va_W) (sz : Nat) : Array Value → State → Prop := va_Pc av (fun U => U.heap.size = sz ∧ va_P g.1 vwCl w U.heap ∧ va_K g.1 vwCl (zT g.2) U ∧ va_D (fun _ => True) w ∧ zN U)
def zPost {S : Type} (g : zG) (w : va_W) (sz : Nat) (w' : S → va_W) : S → State → Prop := fun u t => va_P g.1 vwCl (w' u) t.heap ∧ va_D (va_A w sz) (w' u)
/-- a method that answers an int -/
def FI {S : Type} (g : zG) (y : MethodName) (cy : ByteArray) (nl : Nat) (ret : FieldType) (d mc ms : Nat) (av : List Value) (w : va_W) (post : Int32 → S → Prop) (w' : S → va_W) : Prop :=
  ∀ (l : Launch) (sz : Nat), Met l y (w_ y cy nl (some ret)) (zRm d mc ms) (zPre g av w sz) (va_Qi post (zPost g w sz w') (va_A w sz)) mc ms (va_A w sz)
/-- a method that answers nothing -/
def FV {S : Type} (g : zG) (y : MethodName) (cy : ByteArray) (nl : Nat) (d mc ms : Nat) (av : List Value) (w : va_W) (post : S → Prop) (w' : S → va_W) : Prop :=
  ∀ (l : Launch) (sz : Nat), Met l y (w_ y cy nl none) (zRm d mc ms) (zPre g av w sz) (va_Qv post (zPost g w sz w') (va_A w sz)) mc ms (va_A w sz)
/-- .. of which the answer and the new world are known, and which makes nothing -/
abbrev Gi (g : zG) (y : MethodName) (cy : ByteArray) (nl : Nat) (ret : FieldType) (d : Nat) (av : List Value) (w : va_W) (r : Int32) (w' : va_W) : Prop :=
  FI (S := Unit) g y cy nl ret d 0 0 av w (fun r' _ => r' = r) (fun _ => w')
abbrev Gv (g : zG) (y : MethodName) (cy : ByteArray) (nl : Nat) (d : Nat) (av : List Value) (w w' : va_W) : Prop :=
  FV (S := Unit) g y cy nl d 0 0 av w (fun _ => True) (fun _ => w')
theorem zPre_blind {g : zG} {av : List Value} {w : va_W} {sz : Nat} : FrameBlind (zPre g av w sz) := fun a U f mk q => by
  obtain ⟨q0, q1, qP, qK, qD, qN⟩ := q
  exact ⟨q0, q1, qP, va_K.moved (u := U) (U := U.calling f mk a) (Vm.Alike.refl U.vm) qK, qD, zN.same (u := U) (U := U.calling f mk a) rfl qN⟩
/-- the ends of a body -/
def zI {S : Type} (g : zG) (C : zC) (cc : ByteArray) (ret : FieldType) (mc ms : Nat) (post : Int32 → S → Prop) (w' : S → va_W) : Prop :=
  ∀ (pc : Nat) (lv : List (Nat × Value)) (r : Int32) (u : S) (k n : Nat) (ws : va_W), decode cc pc = .ok (.ireturn, 1) → narrow ret (.int r) = .int r → post r u → ws = w' u → k ≤ mc → n ≤ ms → Z g C k n ws lv pc [.int r]
def zV {S : Type} (g : zG) (C : zC) (cc : ByteArray) (mc ms : Nat) (post : S → Prop) (w' : S → va_W) : Prop :=
  ∀ (pc : Nat) (lv : List (Nat × Value)) (u : S) (k n : Nat) (ws : va_W), decode cc pc = .ok (.return_, 1) → post u → ws = w' u → k ≤ mc → n ≤ ms → Z g C k n ws lv pc []
theorem fi_entry {S : Type} {g : zG} {y : MethodName} {cy : ByteArray} {nl : Nat} {ret : FieldType} {d mc ms : Nat} {av : List Value} {w : va_W} {post : Int32 → S → Prop} {w' : S → va_W} (hy : plainName y.cls = true) (hn : (lg_sl av).length ≤ nl)
    (h : ∀ C : zC, zOK g C cy y.cls d mc ms → (zc C).maxLocals = nl → zI g C cy ret mc ms post w' → Z g C 0 0 w (lv_args 0 av) 0 []) : FI g y cy nl ret d mc ms av w post w' := by
  intro l sz
  refine Met.ofW (cc := cy) (maxL := nl) (ret := some ret) hy rfl ?_
  intro p e s m args below meth c s₁ B hml hv
  obtain ⟨rfl, hsz, hP, hK, hD0, hN⟩ := hv
  have hx := B.exec
  have hb := B.bytes
  have hr := B.returns
  have hts := atoms_spec (ws := w_ y cy nl (some ret)) B.pre
  have hown : s.vm.findClass y.cls = some m.cls := findClass_of_methodNamed B.named
  have hlocks := B.notSynchronized
  subst hsz
  rw [lg_entry_eq]
  have hl := lv_entry av (n := nl) hn
  generalize (lg_sl av ++ List.replicate (nl - (lg_sl av).length) Slot.unset).toArray = ls at hl ⊢
  refine h (p, l, e, zRm d mc ms, s, m, av.toArray, below, meth, c, va_A w s.heap.size, MQ below (va_Qi post (zPost g w s.heap.size w') (va_A w s.heap.size)) av.toArray s mc ms (va_A w s.heap.size)) ⟨hx, hb, hown, fun x hx' => hts x (List.mem_cons_of_mem _ hx'), hK, rfl, fun q hq => Or.inr hq, hN⟩ hml ?_ s.heap [] ls hP hD0.self va_S.rf (by rw [show (zc (p, l, e, zRm d mc ms, s, m, av.toArray, below, meth, c, va_A w s.heap.size, MQ below (va_Qi post (zPost g w s.heap.size w') (va_A w s.heap.size)) av.toArray s mc ms (va_A w s.heap.size))).maxLocals = nl from hml]; exact hl)
  intro pc lv r u k n ws hdg hnar hp hw h1 h2
  subst hw
  intro H locs ls2 hP hD hS hl2
  refine W.widen h1 h2 ?_
  exact W.zret hx hb hr hnar (fun t ht hW => ⟨⟨r, u, rfl, hp, by rw [ht]; exact hP, hD⟩, hS.F ht⟩) hS.2.2 hdg
theorem fv_entry {S : Type} {g : zG} {y : MethodName} {cy : ByteArray} {nl : Nat} {d mc ms : Nat} {av : List Value} {w : va_W} {post : S → Prop} {w' : S → va_W} (hy : plainName y.cls = true) (hn : (lg_sl av).length ≤ nl)
    (h : ∀ C : zC, zOK g C cy y.cls d mc ms → (zc C).maxLocals = nl → (zM C).name = y.name → zV g C cy mc ms post w' → Z g C 0 0 w (lv_args 0 av) 0 []) : FV g y cy nl d mc ms av w post w' := by
  intro l sz
  refine Met.ofW (cc := cy) (maxL := nl) (ret := none) hy rfl ?_
  intro p e s m args below meth c s₁ B hml hv
  obtain ⟨rfl, hsz, hP, hK, hD0, hN⟩ := hv
  have hx := B.exec
  have hb := B.bytes
  have hr := B.returns
  have hts := atoms_spec (ws := w_ y cy nl none) B.pre
  have hown : s.vm.findClass y.cls = some m.cls := findClass_of_methodNamed B.named
  have hlocks := B.notSynchronized
  have hin : meth.name = y.name := (name_of_methodNamed B.named B.method).1
  subst hsz
  rw [lg_entry_eq]
  have hl := lv_entry av (n := nl) hn
  generalize (lg_sl av ++ List.replicate (nl - (lg_sl av).length) Slot.unset).toArray = ls at hl ⊢
  refine h (p, l, e, zRm d mc ms, s, m, av.toArray, below, meth, c, va_A w s.heap.size, MQ below (va_Qv post (zPost g w s.heap.size w') (va_A w s.heap.size)) av.toArray s mc ms (va_A w s.heap.size)) ⟨hx, hb, hown, fun x hx' => hts x (List.mem_cons_of_mem _ hx'), hK, rfl, fun q hq => Or.inr hq, hN⟩ hml hin ?_ s.heap [] ls hP hD0.self va_S.rf (by rw [show (zc (p, l, e, zRm d mc ms, s, m, av.toArray, below, meth, c, va_A w s.heap.size, MQ below (va_Qv post (zPost g w s.heap.size w') (va_A w s.heap.size)) av.toArray s mc ms (va_A w s.heap.size))).maxLocals = nl from hml]; exact hl)
  intro pc lv u k n ws hdg hp hw h1 h2
  subst hw
  intro H locs ls2 hP hD hS hl2
  refine W.widen h1 h2 ?_
  exact W.vret hx hb hr (fun t ht hW => ⟨⟨u, rfl, hp, by rw [ht]; exact hP, hD⟩, hS.F ht⟩) hS.2.2 hdg
/-! worlds as lists: a part in the middle -/
theorem va_P_mem {D : va_G} {cl : List vw_C} {ws : va_W} {H : Heap} : va_P D cl ws H ↔ ∀ q ∈ ws, va_at D cl q H := by
  refine ⟨fun h q hq => ?_, fun h k q hk => h q (List.mem_of_getElem? hk)⟩
  obtain ⟨k, hk⟩ := List.getElem?_of_mem hq
  exact h k q hk
theorem va_D_iff {A : Nat → Prop} {ws : va_W} : va_D A ws ↔ (ws.map Prod.fst).Nodup ∧ ∀ q ∈ ws, A q.1 := by
  constructor
  · intro h
    refine ⟨?_, fun q hq => ?_⟩
    · rw [List.Nodup, List.pairwise_iff_getElem]
      intro i j hi hj hij he
      have hi' : i < ws.length := by simpa using hi
      have hj' : j < ws.length := by simpa using hj
      have := h.1 i j ws[i] ws[j] (List.getElem?_eq_getElem hi') (List.getElem?_eq_getElem hj') (by simpa using he)
      omega
    · obtain ⟨k, hk⟩ := List.getElem?_of_mem hq
      exact h.2 k q hk
  · intro h
    refine ⟨fun i j p q hi hj he => ?_, fun k q hk => h.2 q (List.mem_of_getElem? hk)⟩
    obtain ⟨hi', ei⟩ := List.getElem?_eq_some_iff.mp hi
    obtain ⟨hj', ej⟩ := List.getElem?_eq_some_iff.mp hj
    have h1 := h.1
    rw [List.Nodup, List.pairwise_iff_getElem] at h1
    have key : ∀ (a b : Nat) (ha : a < ws.length) (hb : b < ws.length), a < b → ws[a].1 ≠ ws[b].1 := fun a b ha hb hab => by
      have := h1 a b (by simpa using ha) (by simpa using hb) hab
      simpa using this
    rcases Nat.lt_trichotomy i j with q1 | q1 | q1
    · exact absurd (by rw [ei, ej, he]) (key i j hi' hj' q1)
    · exact q1
    · exact absurd (by rw [ei, ej, he]) (key j i hj' hi' q1)
theorem va_P_app {D : va_G} {cl : List vw_C} {w1 w2 : va_W} {H : Heap} : va_P D cl (w1 ++ w2) H ↔ va_P D cl w1 H ∧ va_P D cl w2 H := by
  simp only [va_P_mem, List.mem_append]
  exact ⟨fun h => ⟨fun q hq => h q (Or.inl hq), fun q hq => h q (Or.inr hq)⟩, fun h q hq => hq.elim (h.1 q) (h.2 q)⟩
theorem va_D_app {A : Nat → Prop} {w1 w2 : va_W} : va_D A (w1 ++ w2) ↔ va_D A w1 ∧ va_D A w2 ∧ ∀ q ∈ w1, ∀ q' ∈ w2, q.1 ≠ q'.1 := by
  simp only [va_D_iff, List.map_append, List.nodup_append, List.mem_append, List.mem_map]
  constructor
  · rintro ⟨⟨h1, h2, h3⟩, h4⟩
    exact ⟨⟨h1, fun q hq => h4 q (Or.inl hq)⟩, ⟨h2, fun q hq => h4 q (Or.inr hq)⟩, fun q hq q' hq' => h3 _ ⟨q, hq, rfl⟩ _ ⟨q', hq', rfl⟩⟩
  · rintro ⟨⟨h1, h2⟩, ⟨h3, h4⟩, h5⟩
    refine ⟨⟨h1, h3, ?_⟩, fun q hq => hq.elim (h2 q) (h4 q)⟩
    rintro a ⟨q, hq, rfl⟩ b ⟨q', hq', rfl⟩
    exact h5 q hq q' hq'
theorem va_A_in {w : va_W} {sz : Nat} {q : Nat × va_E} (h : q ∈ w) : va_A w sz q.1 := by
  obtain ⟨k, hk⟩ := List.getElem?_of_mem h
  exact va_A.in hk
theorem va_A_out {w : va_W} {sz a : Nat} (h1 : a < sz) (h2 : ∀ q ∈ w, q.1 ≠ a) : ¬ va_A w sz a := by
  rintro (⟨k, e, hk⟩ | h)
  · exact h2 _ (List.mem_of_getElem? hk) rfl
  · omega
theorem mid_free {A : Nat → Prop} {pre w suf : va_W} {H0 H : Heap} {locs : List Loc} (hD : va_D A (pre ++ (w ++ suf))) (hS : va_S A H0 H locs) (hA : ∀ q : Nat, H0.size ≤ q → A q) : ∀ q, va_A w H.size q → A q := by
  rintro q (⟨k, e, hk⟩ | h)
  · exact (va_D_iff.mp hD).2 (q, e) (List.mem_append_right _ (List.mem_append_left _ (List.mem_of_getElem? hk)))
  · exact hA q (Nat.le_trans hS.1 h)
theorem mid_join {A : Nat → Prop} {D : va_G} {cl : List vw_C} {pre w w' suf : va_W} {H H1 : Heap} (hP : va_P D cl (pre ++ (w ++ suf)) H) (hD : va_D A (pre ++ (w ++ suf))) (hk : ∀ q : Nat, q < H.size → ¬ va_A w H.size q → H1[q]? = H[q]?) (hF : ∀ q, va_A w H.size q → A q)
    (hP1 : va_P D cl w' H1) (hD1 : va_D (va_A w H.size) w') : va_P D cl (pre ++ (w' ++ suf)) H1 ∧ va_D A (pre ++ (w' ++ suf)) := by
  obtain ⟨hPa, hPb⟩ := va_P_app.mp hP
  obtain ⟨hPw, hPs⟩ := va_P_app.mp hPb
  obtain ⟨hDa, hDb, hab⟩ := va_D_app.mp hD
  obtain ⟨hDw, hDs, hws⟩ := va_D_app.mp hDb
  have oa : ∀ q ∈ pre, q.1 < H.size ∧ ¬ va_A w H.size q.1 := fun q hq => by
    have hl := (va_P_mem.mp hPa q hq).lt
    exact ⟨hl, va_A_out hl (fun q' hq' => (hab q hq q' (List.mem_append_left _ hq')).symm)⟩
  have os : ∀ q ∈ suf, q.1 < H.size ∧ ¬ va_A w H.size q.1 := fun q hq => by
    have hl := (va_P_mem.mp hPs q hq).lt
    exact ⟨hl, va_A_out hl (fun q' hq' => hws q' hq' q hq)⟩
  refine ⟨va_P_app.mpr ⟨?_, va_P_app.mpr ⟨hP1, ?_⟩⟩, va_D_app.mpr ⟨hDa, va_D_app.mpr ⟨hD1.weaken (fun _ q _ h => hF q.1 h), hDs, ?_⟩, ?_⟩⟩
  · exact va_P_mem.mpr fun q hq => (va_P_mem.mp hPa q hq).kept (hk q.1 (oa q hq).1 (oa q hq).2)
  · exact va_P_mem.mpr fun q hq => (va_P_mem.mp hPs q hq).kept (hk q.1 (os q hq).1 (os q hq).2)
  · intro q hq q' hq' he
    exact (os q' hq').2 (he ▸ (va_D_iff.mp hD1).2 q hq)
  · intro q hq q' hq' he
    rcases List.mem_append.mp hq' with h | h
    · exact (oa q hq).2 (he ▸ (va_D_iff.mp hD1).2 q' h)
    · exact hab q hq q' (List.mem_append_right _ h) he
/-! calls -/
def mOK (y : MethodName) (cy : ByteArray) (nl : Nat) (ret : Option FieldType) (np : Nat) : Prop :=
  Cond.initialized y.cls ∈ aw ∧ Cond.code y cy nl ret ∈ aw ∧ (y.cls ≠ "java/lang/invoke/MethodHandle" ∧ y.cls ≠ "java/lang/invoke/VarHandle" ∧ (parseMethodDescriptor y.desc).map (fun d => d.parameters.length) = some np) ∧ nl ≤ 18
/-- a virtual method -/
def vM (y : MethodName) (cy : ByteArray) (nl : Nat) (ret : Option FieldType) (np : Nat) : Prop := Cond.instanceMethod y ∈ aw ∧ Cond.selects y.cls y y ∈ aw ∧ mOK y cy nl ret np
/-- a static one -/
def sM (y : MethodName) (cy : ByteArray) (nl : Nat) (ret : Option FieldType) (np : Nat) : Prop := Cond.static y ∈ aw ∧ mOK y cy nl ret np
/-- a constructor -/
def iM (y : MethodName) (cy : ByteArray) (nl : Nat) (np : Nat) : Prop := Cond.instanceMethod y ∈ aw ∧ y.name = "<init>" ∧ mOK y cy nl none np
theorem good_wV {big : List Cond} {own : String} {idx : Nat} {y : MethodName} {cy : ByteArray} {nl np : Nat} {ret : Option FieldType} (h : ∀ w ∈ aw, w ∈ big) (hl : Cond.methodLink own idx y ∈ aw) (hy : vM y cy nl ret np) : GoodIn big (wsV own idx y.cls y (w_ y cy nl ret)) := by
  intro w hw
  unfold wsV at hw
  have key : ∀ w ∈ aw, w ∈ big ∧ ((w.onTables && w.keeps) = true ∨ ∃ ty, w = .arrayClass ty) := fun w hw => ⟨h w hw, good_of_word (aw_good w hw)⟩
  rcases List.mem_append.mp hw with hw | hw
  · simp only [List.mem_cons, List.not_mem_nil, or_false] at hw
    rcases hw with rfl | rfl | rfl | rfl
    · exact key _ hl
    · exact key _ hy.1
    · exact key _ hy.2.1
    · exact key _ hy.2.2.1
  · exact good_w h hy.2.2.2.1 w hw
section ZCALLS
variable {g : zG} {C : zC} {cc : ByteArray} {own : String} {d mc ms k n : Nat} {ws ws' : va_W} {lv lv' : List (Nat × Value)} {pc : Nat} {st rest : List Value}
variable {S : Type} {y : MethodName} {cy : ByteArray} {nl d' mc' ms' np idx b : Nat} {ret : FieldType} {As : List Value} {pre w suf : va_W} {w' : S → va_W}
theorem z_room (hC : zOK g C cc own d mc ms) (hd : d' + 1 ≤ d) (hnl : nl ≤ 18) : (zRm d' mc' ms').frames + 1 ≤ (zR C).frames ∧ 8 + (nl + 11) + (zRm d' mc' ms').locals ≤ (zR C).locals := by
  rw [hC.2.2.2.2.2.1]
  exact ⟨hd, by show 8 + (nl + 11) + 37 * d' ≤ 37 * d; omega⟩
theorem z_preS (hC : zOK g C cc own d mc ms) {av : List Value} {H : Heap} (hP : va_P g.1 vwCl w H) (hD : va_D (fun _ => True) w) : PreS (zs C) H (zPre g av w H.size) av :=
  ⟨zPre_blind, fun U hU hW => ⟨rfl, by rw [hU], by rw [hU]; exact hP, va_K.moved hW.alike hC.2.2.2.2.1, hD, zN.warm hW hC.2.2.2.2.2.2.2⟩⟩
theorem z_preV (hC : zOK g C cc own d mc ms) {H : Heap} {R : String} {q0 ci : Nat} {fs : List Value} {r : vw_C} (hP : va_P g.1 vwCl w H) (hD : va_D (fun _ => True) w) (hr : vwCl[ci]? = some r) (hR : r.1 = R) (he : w[q0]? = some (b, .inr (ci, fs))) : PreV (zs C) H R b (zPre g (.ref b :: As) w H.size) As :=
  ⟨zPre_blind, by rw [← hR]; exact va_recv hC.2.2.2.2.1 hP hr he, fun U hU hW => ⟨rfl, by rw [hU], by rw [hU]; exact hP, va_K.moved hW.alike hC.2.2.2.2.1, hD, zN.warm hW hC.2.2.2.2.2.2.2⟩⟩
theorem z_fix (hC : zOK g C cc own d mc ms) : CallFix (zp C) (zm C) (zc C) cc (zc C).maxLocals (zs C) (za C) aw own := ⟨hC.1, hC.2.1, rfl, hC.2.2.1, hC.2.2.2.1⟩
theorem z_cw (hC : zOK g C cc own d mc ms) {rt : Option FieldType} (hy : vM y cy nl rt np) (hl : Cond.methodLink own idx y ∈ aw) (hd : d' + 1 ≤ d) : CallW (zR C) (zs C) (za C) own y.cls idx y cy nl rt (w_ y cy nl rt) (zRm d' mc' ms') mc' ms' np :=
  cwV np hC.2.2.2.1 (good_wV (fun _ h => h) hl hy) rfl rfl rfl ⟨rfl, hy.2.2.2.2.1⟩ (z_room hC hd hy.2.2.2.2.2)
/-- a virtual call with an int for an answer: the callee's world w lies within the caller's -/
theorem z_vi (hC : zOK g C cc own d mc ms) (hy : vM y cy nl (some ret) np) (hl : Cond.methodLink own idx y ∈ aw) (hdg : decode cc pc = .ok (.invokevirtual idx, 3)) {post : Int32 → S → Prop} (hM : FI g y cy nl ret d' mc' ms' (.ref b :: As) w post w') (pre suf : va_W) (hw : ws = pre ++ (w ++ suf)) (q0 ci : Nat) {fs : List Value} {r : vw_C} (he : w[q0]? = some (b, .inr (ci, fs))) (hr : vwCl[ci]? = some r) (hR : r.1 = y.cls)
    (hn : As.length = np) (hst : st = As.reverse ++ .ref b :: rest) (hd : d' + 1 ≤ d) (hcat : (rest.map fun v => v.category).sum ≤ 8) (hk : k + mc' ≤ mc ∧ n + ms' ≤ ms)
    (kk : ∀ (r : Int32) (u : S), post r u → Z g C (k + mc') (n + ms') (pre ++ (w' u ++ suf)) lv (pc + 3) (.int r :: rest)) : Z g C k n ws lv pc st := by
  subst hw hst
  intro H locs ls hP hD hS hl0
  have hPw : va_P g.1 vwCl w H := (va_P_app.mp (va_P_app.mp hP).2).1
  have hDw : va_D (fun _ => True) w := ((va_D_app.mp (va_D_app.mp hD).2.1).1).weaken (fun _ _ _ _ => trivial)
  have hF := mid_free hD hS hC.2.2.2.2.2.2.1
  refine va_calli (va_runV (As := As) (rest := rest) (z_fix hC) (hM (zl C) H.size) (z_cw hC hy hl hd) (z_preV hC hPw hDw hr hR he) rfl hn hl0.1 rfl (lv_room hcat) hdg ?_) hS (fun q _ h => hF q h) hF (fun r u t H1 locs1 ht hvm hp hB hz hk1 hS1 => ?_)
  · rw [hC.2.2.2.2.2.1]; exact hk
  · obtain ⟨hP1, hD1⟩ := hB
    rw [ht] at hP1
    obtain ⟨hP2, hD2⟩ := mid_join hP hD hk1 hF hP1 hD1
    exact kk r u hp H1 locs1 ls hP2 hD2 hS1 hl0
theorem z_vv (hC : zOK g C cc own d mc ms) (hy : vM y cy nl none np) (hl : Cond.methodLink own idx y ∈ aw) (hdg : decode cc pc = .ok (.invokevirtual idx, 3)) {post : S → Prop} (hM : FV g y cy nl d' mc' ms' (.ref b :: As) w post w') (pre suf : va_W) (hw : ws = pre ++ (w ++ suf)) (q0 ci : Nat) {fs : List Value} {r : vw_C} (he : w[q0]? = some (b, .inr (ci, fs))) (hr : vwCl[ci]? = some r) (hR : r.1 = y.cls)
    (hn : As.length = np) (hst : st = As.reverse ++ .ref b :: rest) (hd : d' + 1 ≤ d) (hcat : (rest.map fun v => v.category).sum ≤ 8) (hk : k + mc' ≤ mc ∧ n + ms' ≤ ms)
    (kk : ∀ (u : S), post u → Z g C (k + mc') (n + ms') (pre ++ (w' u ++ suf)) lv (pc + 3) rest) : Z g C k n ws lv pc st := by
  subst hw hst
  intro H locs ls hP hD hS hl0
  have hPw : va_P g.1 vwCl w H := (va_P_app.mp (va_P_app.mp hP).2).1
  have hDw : va_D (fun _ => True) w := ((va_D_app.mp (va_D_app.mp hD).2.1).1).weaken (fun _ _ _ _ => trivial)
  have hF := mid_free hD hS hC.2.2.2.2.2.2.1
  refine va_callv (va_runV (As := As) (rest := rest) (z_fix hC) (hM (zl C) H.size) (z_cw hC hy hl hd) (z_preV hC hPw hDw hr hR he) rfl hn hl0.1 rfl (lv_room hcat) hdg ?_) hS (fun q _ h => hF q h) hF (fun u t H1 locs1 ht hvm hp hB hz hk1 hS1 => ?_)
  · rw [hC.2.2.2.2.2.1]; exact hk
  · obtain ⟨hP1, hD1⟩ := hB
    rw [ht] at hP1
    obtain ⟨hP2, hD2⟩ := mid_join hP hD hk1 hF hP1 hD1
    exact kk u hp H1 locs1 ls hP2 hD2 hS1 hl0
theorem z_iv (hC : zOK g C cc own d mc ms) (hy : iM y cy nl np) (hl : Cond.methodLink own idx y ∈ aw) (hdg : decode cc pc = .ok (.invokespecial idx, 3)) {post : S → Prop} (hM : FV g y cy nl d' mc' ms' (.ref b :: As) w post w') (pre suf : va_W) (hw : ws = pre ++ (w ++ suf))
    (hn : As.length = np) (hst : st = As.reverse ++ .ref b :: rest) (hd : d' + 1 ≤ d) (hcat : (rest.map fun v => v.category).sum ≤ 8) (hk : k + mc' ≤ mc ∧ n + ms' ≤ ms)
    (kk : ∀ (u : S), post u → Z g C (k + mc') (n + ms') (pre ++ (w' u ++ suf)) lv (pc + 3) rest) : Z g C k n ws lv pc st := by
  subst hw hst
  intro H locs ls hP hD hS hl0
  have hPw : va_P g.1 vwCl w H := (va_P_app.mp (va_P_app.mp hP).2).1
  have hDw : va_D (fun _ => True) w := ((va_D_app.mp (va_D_app.mp hD).2.1).1).weaken (fun _ _ _ _ => trivial)
  have hF := mid_free hD hS hC.2.2.2.2.2.2.1
  refine va_callv (va_runI (As := As) (rest := rest) (z_fix hC) (hM (zl C) H.size) (cwI np hC.2.2.2.1 (good_w (fun _ h => h) hy.2.2.2.1) rfl rfl rfl (hC.2.2.2.1 _ hy.2.2.1) (hC.2.2.2.1 _ hl) (hC.2.2.2.1 _ hy.1) hy.2.1 hy.2.2.2.2.1 (z_room hC hd hy.2.2.2.2.2)) (z_preS hC hPw hDw) rfl hn hl0.1 rfl (lv_room hcat) hdg ?_) hS (fun q _ h => hF q h) hF (fun u t H1 locs1 ht hvm hp hB hz hk1 hS1 => ?_)
  · rw [hC.2.2.2.2.2.1]; exact hk
  · obtain ⟨hP1, hD1⟩ := hB
    rw [ht] at hP1
    obtain ⟨hP2, hD2⟩ := mid_join hP hD hk1 hF hP1 hD1
    exact kk u hp H1 locs1 ls hP2 hD2 hS1 hl0
/-- .. a private constructor of a nest mate -/
theorem z_ivN (hC : zOK g C cc own d mc ms) (hy : iM y cy nl np) {host : String} (hl : Cond.methodLinkNest own idx y host ∈ aN) (hdg : decode cc pc = .ok (.invokespecial idx, 3)) {post : S → Prop} (hM : FV g y cy nl d' mc' ms' (.ref b :: As) w post w') (pre suf : va_W) (hw : ws = pre ++ (w ++ suf))
    (hn : As.length = np) (hst : st = As.reverse ++ .ref b :: rest) (hd : d' + 1 ≤ d) (hcat : (rest.map fun v => v.category).sum ≤ 8) (hk : k + mc' ≤ mc ∧ n + ms' ≤ ms)
    (kk : ∀ (u : S), post u → Z g C (k + mc') (n + ms') (pre ++ (w' u ++ suf)) lv (pc + 3) rest) : Z g C k n ws lv pc st := by
  subst hw hst
  intro H locs ls hP hD hS hl0
  have hPw : va_P g.1 vwCl w H := (va_P_app.mp (va_P_app.mp hP).2).1
  have hDw : va_D (fun _ => True) w := ((va_D_app.mp (va_D_app.mp hD).2.1).1).weaken (fun _ _ _ _ => trivial)
  have hF := mid_free hD hS hC.2.2.2.2.2.2.1
  refine va_callv (va_runIN (As := As) (rest := rest) (z_fix hC) (hM (zl C) H.size) ⟨va_cnB np hC.2.2.2.1 (good_w (fun _ h => h) hy.2.2.2.1) rfl rfl rfl (hC.2.2.2.2.2.2.2.1 _ hl) (hC.2.2.2.1 _ hy.2.2.1) hy.2.2.2.2.1 (z_room hC hd hy.2.2.2.2.2), hy.2.1, hC.2.2.2.1 _ hy.1⟩ (z_preS hC hPw hDw) rfl hn hl0.1 rfl (lv_room hcat) hdg ?_) hS (fun q _ h => hF q h) hF (fun u t H1 locs1 ht hvm hp hB hz hk1 hS1 => ?_)
  · rw [hC.2.2.2.2.2.1]; exact hk
  · obtain ⟨hP1, hD1⟩ := hB
    rw [ht] at hP1
    obtain ⟨hP2, hD2⟩ := mid_join hP hD hk1 hF hP1 hD1
    exact kk u hp H1 locs1 ls hP2 hD2 hS1 hl0
/-- a static call -/
theorem z_si (hC : zOK g C cc own d mc ms) (hy : sM y cy nl (some ret) np) (hl : Cond.methodLink own idx y ∈ aw) (hdg : decode cc pc = .ok (.invokestatic idx, 3)) {post : Int32 → S → Prop} (hM : FI g y cy nl ret d' mc' ms' As w post w') (pre suf : va_W) (hw : ws = pre ++ (w ++ suf))
    (hn : As.length = np) (hst : st = As.reverse ++ rest) (hd : d' + 1 ≤ d) (hcat : (rest.map fun v => v.category).sum ≤ 8) (hk : k + mc' ≤ mc ∧ n + ms' ≤ ms)
    (kk : ∀ (r : Int32) (u : S), post r u → Z g C (k + mc') (n + ms') (pre ++ (w' u ++ suf)) lv (pc + 3) (.int r :: rest)) : Z g C k n ws lv pc st := by
  subst hw hst
  intro H locs ls hP hD hS hl0
  have hPw : va_P g.1 vwCl w H := (va_P_app.mp (va_P_app.mp hP).2).1
  have hDw : va_D (fun _ => True) w := ((va_D_app.mp (va_D_app.mp hD).2.1).1).weaken (fun _ _ _ _ => trivial)
  have hF := mid_free hD hS hC.2.2.2.2.2.2.1
  refine va_calli (va_runS (As := As) (rest := rest) (z_fix hC) (hM (zl C) H.size) ⟨callB_of np hC.2.2.2.1 (good_w (fun _ h => h) hy.2.2.1) rfl rfl rfl (hC.2.2.2.1 _ hy.2.1) (hC.2.2.2.1 _ hl) hy.2.2.2.1 (z_room hC hd hy.2.2.2.2), hC.2.2.2.1 _ hy.1⟩ (z_preS hC hPw hDw) rfl hn hl0.1 rfl (lv_room hcat) hdg ?_) hS (fun q _ h => hF q h) hF (fun r u t H1 locs1 ht hvm hp hB hz hk1 hS1 => ?_)
  · rw [hC.2.2.2.2.2.1]; exact hk
  · obtain ⟨hP1, hD1⟩ := hB
    rw [ht] at hP1
    obtain ⟨hP2, hD2⟩ := mid_join hP hD hk1 hF hP1 hD1
    exact kk r u hp H1 locs1 ls hP2 hD2 hS1 hl0
/-- .. of a private static method of a nest mate -/
theorem z_siN (hC : zOK g C cc own d mc ms) (hy : sM y cy nl (some ret) np) {host : String} (hl : Cond.methodLinkNest own idx y host ∈ aN) (hdg : decode cc pc = .ok (.invokestatic idx, 3)) {post : Int32 → S → Prop} (hM : FI g y cy nl ret d' mc' ms' As w post w') (pre suf : va_W) (hw : ws = pre ++ (w ++ suf))
    (hn : As.length = np) (hst : st = As.reverse ++ rest) (hd : d' + 1 ≤ d) (hcat : (rest.map fun v => v.category).sum ≤ 8) (hk : k + mc' ≤ mc ∧ n + ms' ≤ ms)
    (kk : ∀ (r : Int32) (u : S), post r u → Z g C (k + mc') (n + ms') (pre ++ (w' u ++ suf)) lv (pc + 3) (.int r :: rest)) : Z g C k n ws lv pc st := by
  subst hw hst
  intro H locs ls hP hD hS hl0
  have hPw : va_P g.1 vwCl w H := (va_P_app.mp (va_P_app.mp hP).2).1
  have hDw : va_D (fun _ => True) w := ((va_D_app.mp (va_D_app.mp hD).2.1).1).weaken (fun _ _ _ _ => trivial)
  have hF := mid_free hD hS hC.2.2.2.2.2.2.1
  refine va_calli (va_runSN (As := As) (rest := rest) (z_fix hC) (hM (zl C) H.size) ⟨va_cnB np hC.2.2.2.1 (good_w (fun _ h => h) hy.2.2.1) rfl rfl rfl (hC.2.2.2.2.2.2.2.1 _ hl) (hC.2.2.2.1 _ hy.2.1) hy.2.2.2.1 (z_room hC hd hy.2.2.2.2), hC.2.2.2.1 _ hy.1, trivial⟩ (z_preS hC hPw hDw) rfl hn hl0.1 rfl (lv_room hcat) hdg ?_) hS (fun q _ h => hF q h) hF (fun r u t H1 locs1 ht hvm hp hB hz hk1 hS1 => ?_)
  · rw [hC.2.2.2.2.2.1]; exact hk
  · obtain ⟨hP1, hD1⟩ := hB
    rw [ht] at hP1
    obtain ⟨hP2, hD2⟩ := mid_join hP hD hk1 hF hP1 hD1
    exact kk r u hp H1 locs1 ls hP2 hD2 hS1 hl0
end ZCALLS
