/-! THE WALK KIT: one judgement Z over the kit's W, that holds heap, frame facts and tables inside; rows of Z; contracts FI, FV; calls -/
abbrev zG : Type := va_G × (Nat → ClassId)
abbrev zC : Type := Program × Launch × Env × Room × State × MethodId × Array Value × List Frame × Method × Code × (Nat → Prop) × (State → Prop)
abbrev zp (C : zC) : Program := C.1
abbrev zl (C : zC) : Launch := C.2.1
abbrev ze (C : zC) : Env := C.2.2.1
abbrev zR (C : zC) : Room := C.2.2.2.1
abbrev zs (C : zC) : State := C.2.2.2.2.1
abbrev zm (C : zC) : MethodId := C.2.2.2.2.2.1
abbrev za (C : zC) : Array Value := C.2.2.2.2.2.2.1
abbrev zb (C : zC) : List Frame := C.2.2.2.2.2.2.2.1
abbrev zM (C : zC) : Method := C.2.2.2.2.2.2.2.2.1
abbrev zc (C : zC) : Code := C.2.2.2.2.2.2.2.2.2.1
abbrev zA (C : zC) : Nat → Prop := C.2.2.2.2.2.2.2.2.2.2.1
abbrev zQ (C : zC) : State → Prop := C.2.2.2.2.2.2.2.2.2.2.2
/-- the words of all methods: the tables' good ones -/
def aw : List Cond := lw_tbl.filter goodWord
theorem aw_good : ∀ w ∈ aw, goodWord w = true := fun _ h => (List.mem_filter.mp h).2
theorem aw_tbl : ∀ w ∈ aw, w ∈ lw_tbl := fun _ h => (List.mem_filter.mp h).1
theorem in_aw {w : Cond} (i : Nat) (h : lw_tbl[i]? = some w) (g : goodWord w = true) : w ∈ aw := List.mem_filter.mpr ⟨List.mem_of_getElem? h, g⟩
abbrev w_ (y : MethodName) (cy : ByteArray) (n : Nat) (r : Option FieldType) : List Cond := Cond.code y cy n r :: aw
theorem good_w {big : List Cond} {y : MethodName} {cy : ByteArray} {n : Nat} {r : Option FieldType} (h : ∀ w ∈ aw, w ∈ big) (hc : Cond.code y cy n r ∈ aw) : GoodIn big (w_ y cy n r) := by
  intro w hw
  rcases List.mem_cons.mp hw with rfl | hw
  · exact ⟨h _ hc, good_of_word (aw_good _ hc)⟩
  · exact ⟨h w hw, good_of_word (aw_good w hw)⟩
/-- the words of calls to private members of nest mates -/
def aN : List Cond := [.methodLinkNest RX2 46 yX5_isWithin "ReelConsole", .methodLinkNest RX4 79 yX5_isReel "ReelConsole", .methodLinkNest RX4 20 yX2_init "ReelConsole", .methodLinkNest RX5 9 yX4_init "ReelConsole", .methodLinkNest RX5 28 yX0_init "ReelConsole", .methodLinkNest RX1 24 yX4_init "ReelConsole"]
theorem aN_is : ∀ w ∈ aN, ∃ a i x h, w = Cond.methodLinkNest a i x h := by
  intro w hw
  simp only [aN, List.mem_cons, List.not_mem_nil, or_false] at hw
  rcases hw with rfl | rfl | rfl | rfl | rfl | rfl <;> exact ⟨_, _, _, _, rfl⟩
def zN (U : State) : Prop := (∀ w ∈ aN, va_Nw w U) ∧ va_AO RX4 U
theorem zN.same {u U : State} (h : u.vm = U.vm) (hZ : zN u) : zN U := by
  refine ⟨fun w hw => ?_, va_AO.moved (by rw [h]; exact Vm.Alike.refl _) hZ.2⟩
  obtain ⟨a, i, x, q, rfl⟩ := aN_is w hw
  exact va_Nw.same rfl h (hZ.1 _ hw)
theorem zN.warm {s U : State} (hW : s.WarmedH U.vm) (hZ : zN s) : zN U := by
  refine ⟨fun w hw => ?_, va_AO.moved hW.alike hZ.2⟩
  obtain ⟨a, i, x, q, rfl⟩ := aN_is w hw
  exact va_Nw.warmM hW (hZ.1 _ hw)
/-- the arrays' classes: int, boolean, Room, long -/
abbrev zT (i : Nat → ClassId) : List (ClassId × FieldType) := [(i 0, .int), (i 1, .boolean), (i 2, .object RX4)]
abbrev zRm (d mc ms : Nat) : Room := { frames := d, cells := mc, slots := ms, locals := 37 * d }
/-- what a walk stands on -/
def zOK (g : zG) (C : zC) (cc : ByteArray) (own : String) (d mc ms : Nat) : Prop :=
  (zp C).tables.exec = Jvm.exec ∧ (zc C).code = cc ∧ (zs C).vm.findClass own = some (zm C).cls ∧ (∀ w ∈ aw, w.before (za C) (zs C) = true) ∧ va_K g.1 vwCl (zT g.2) (zs C) ∧ zR C = zRm d mc ms ∧ (∀ q : Nat, (zs C).heap.size ≤ q → zA C q) ∧ zN (zs C)
/-- the machine stands at pc with these locals, this stack, this world; k cells of n slots are new so far -/
def Z (g : zG) (C : zC) (k n : Nat) (ws : va_W) (lv : List (Nat × Value)) (pc : Nat) (st : List Value) : Prop :=
  ∀ (H : Heap) (locs : List Loc) (ls : Array Slot), va_P g.1 vwCl ws H → va_D (zA C) ws → va_S (zA C) (zs C).heap H locs → lv_has ls (zc C).maxLocals lv →
    W (zp C) (zl C) (ze C) (zR C) (zs C) (zm C) (za C) (zb C) (zM C) (zc C) H locs k n (zQ C) (F0 (zm C) pc ls st)
section ZROWS
variable {g : zG} {C : zC} {cc : ByteArray} {own : String} {d mc ms k n : Nat} {ws ws' : va_W} {lv lv' : List (Nat × Value)} {pc : Nat} {st : List Value}
theorem z_iconst (hC : zOK g C cc own d mc ms) {i : Int} {v : Int32} (hdg : decode cc pc = .ok (.iconst i, 1)) (hv : Int32.ofInt i = v) (h : Z g C k n ws lv (pc + 1) (.int v :: st)) : Z g C k n ws lv pc st :=
  fun H locs ls hP hD hS hl => lv_iconst hC.1 hC.2.1 hdg hv (h H locs ls hP hD hS hl)
theorem z_bipush (hC : zOK g C cc own d mc ms) {i : Int} {v : Int32} (hdg : decode cc pc = .ok (.bipush i, 2)) (hv : (Int8.ofInt i).toInt32 = v) (h : Z g C k n ws lv (pc + 2) (.int v :: st)) : Z g C k n ws lv pc st :=
  fun H locs ls hP hD hS hl => lv_bipush hC.1 hC.2.1 hdg hv (h H locs ls hP hD hS hl)
theorem z_sipush (hC : zOK g C cc own d mc ms) {i : Int} {v : Int32} (hdg : decode cc pc = .ok (.sipush i, 3)) (hv : (Int16.ofInt i).toInt32 = v) (h : Z g C k n ws lv (pc + 3) (.int v :: st)) : Z g C k n ws lv pc st :=
  fun H locs ls hP hD hS hl => lv_sipush hC.1 hC.2.1 hdg hv (h H locs ls hP hD hS hl)
theorem z_lconst (hC : zOK g C cc own d mc ms) {i : Fin 2} {v : Int64} (hdg : decode cc pc = .ok (.lconst i, 1)) (hv : Int64.ofNat (i : Nat) = v) (h : Z g C k n ws lv (pc + 1) (.long v :: st)) : Z g C k n ws lv pc st :=
  fun H locs ls hP hD hS hl => lv_lconst hC.1 hC.2.1 hdg hv (h H locs ls hP hD hS hl)
theorem z_iln (hC : zOK g C cc own d mc ms) {i : Fin 4} {x : Int32} (j : Nat) (hj : lv[j]? = some ((i : Nat), .int x)) (hdg : decode cc pc = .ok (.iload_n i, 1)) (h : Z g C k n ws lv (pc + 1) (.int x :: st)) : Z g C k n ws lv pc st :=
  fun H locs ls hP hD hS hl => lv_iload_n hC.1 hC.2.1 hdg rfl (lv_at hl j hj) (h H locs ls hP hD hS hl)
theorem z_il (hC : zOK g C cc own d mc ms) {i : Nat} {x : Int32} (j : Nat) (hj : lv[j]? = some (i, .int x)) (hdg : decode cc pc = .ok (.iload i, 2)) (h : Z g C k n ws lv (pc + 2) (.int x :: st)) : Z g C k n ws lv pc st :=
  fun H locs ls hP hD hS hl => lv_iload hC.1 hC.2.1 hdg (lv_at hl j hj) (h H locs ls hP hD hS hl)
theorem z_aln (hC : zOK g C cc own d mc ms) {i : Fin 4} {x : Nat} (j : Nat) (hj : lv[j]? = some ((i : Nat), .ref x)) (hdg : decode cc pc = .ok (.aload_n i, 1)) (h : Z g C k n ws lv (pc + 1) (.ref x :: st)) : Z g C k n ws lv pc st :=
  fun H locs ls hP hD hS hl => lv_aload_n hC.1 hC.2.1 hdg rfl (lv_at hl j hj) (h H locs ls hP hD hS hl)
theorem z_al (hC : zOK g C cc own d mc ms) {i : Nat} {x : Nat} (j : Nat) (hj : lv[j]? = some (i, .ref x)) (hdg : decode cc pc = .ok (.aload i, 2)) (h : Z g C k n ws lv (pc + 2) (.ref x :: st)) : Z g C k n ws lv pc st :=
  fun H locs ls hP hD hS hl => lv_aload hC.1 hC.2.1 hdg (lv_at hl j hj) (h H locs ls hP hD hS hl)
theorem z_isn (hC : zOK g C cc own d mc ms) {i : Fin 4} {x : Int32} {nL : Nat} (hm : (zc C).maxLocals = nL) (hi : (i : Nat) < nL) (hl' : ((i : Nat), Value.int x) :: lv.filter (fun q => !(q.1 == (i : Nat)) && !(q.1 + 1 == (i : Nat) && q.2.category == 2)) = lv') (hdg : decode cc pc = .ok (.istore_n i, 1)) (h : Z g C k n ws lv' (pc + 1) st) : Z g C k n ws lv pc (.int x :: st) :=
  fun H locs _ hP hD hS hl => lv_istore_n hC.1 hC.2.1 hdg rfl hl (by rw [hm]; exact hi) hl' (fun ls' hl2 => h H locs ls' hP hD hS hl2)
theorem z_is (hC : zOK g C cc own d mc ms) {i : Nat} {x : Int32} {nL : Nat} (hm : (zc C).maxLocals = nL) (hi : i < nL) (hl' : (i, Value.int x) :: lv.filter (fun q => !(q.1 == i) && !(q.1 + 1 == i && q.2.category == 2)) = lv') (hdg : decode cc pc = .ok (.istore i, 2)) (h : Z g C k n ws lv' (pc + 2) st) : Z g C k n ws lv pc (.int x :: st) :=
  fun H locs _ hP hD hS hl => lv_istore hC.1 hC.2.1 hdg hl (by rw [hm]; exact hi) hl' (fun ls' hl2 => h H locs ls' hP hD hS hl2)
theorem z_asn (hC : zOK g C cc own d mc ms) {i : Fin 4} {x : Nat} {nL : Nat} (hm : (zc C).maxLocals = nL) (hi : (i : Nat) < nL) (hl' : ((i : Nat), Value.ref x) :: lv.filter (fun q => !(q.1 == (i : Nat)) && !(q.1 + 1 == (i : Nat) && q.2.category == 2)) = lv') (hdg : decode cc pc = .ok (.astore_n i, 1)) (h : Z g C k n ws lv' (pc + 1) st) : Z g C k n ws lv pc (.ref x :: st) :=
  fun H locs _ hP hD hS hl => lv_astore_n hC.1 hC.2.1 hdg rfl hl (by rw [hm]; exact hi) hl' (fun ls' hl2 => h H locs ls' hP hD hS hl2)
theorem z_as (hC : zOK g C cc own d mc ms) {i : Nat} {x : Nat} {nL : Nat} (hm : (zc C).maxLocals = nL) (hi : i < nL) (hl' : (i, Value.ref x) :: lv.filter (fun q => !(q.1 == i) && !(q.1 + 1 == i && q.2.category == 2)) = lv') (hdg : decode cc pc = .ok (.astore i, 2)) (h : Z g C k n ws lv' (pc + 2) st) : Z g C k n ws lv pc (.ref x :: st) :=
  fun H locs _ hP hD hS hl => lv_astore hC.1 hC.2.1 hdg hl (by rw [hm]; exact hi) hl' (fun ls' hl2 => h H locs ls' hP hD hS hl2)
theorem z_iinc (hC : zOK g C cc own d mc ms) {i j : Nat} {z : Int} {x v : Int32} {nL : Nat} (hm : (zc C).maxLocals = nL) (hi : i < nL) (hj : lv[j]? = some (i, .int x)) (hv : x + Int32.ofInt z = v) (hl' : (i, Value.int v) :: lv.filter (fun q => !(q.1 == i) && !(q.1 + 1 == i && q.2.category == 2)) = lv') (hdg : decode cc pc = .ok (.iinc i z, 3)) (h : Z g C k n ws lv' (pc + 3) st) : Z g C k n ws lv pc st :=
  fun H locs _ hP hD hS hl => lv_iinc hC.1 hC.2.1 hdg hl hj hv (by rw [hm]; exact hi) hl' (fun ls' hl2 => h H locs ls' hP hD hS hl2)
theorem z_iadd (hC : zOK g C cc own d mc ms) {x y v : Int32} (hv : x + y = v) (hdg : decode cc pc = .ok (.iadd, 1)) (h : Z g C k n ws lv (pc + 1) (.int v :: st)) : Z g C k n ws lv pc (.int y :: .int x :: st) := by
  subst hv
  exact fun H locs ls hP hD hS hl => lv_iadd hC.1 hC.2.1 hdg (h H locs ls hP hD hS hl)
theorem z_isub (hC : zOK g C cc own d mc ms) {x y v : Int32} (hv : x - y = v) (hdg : decode cc pc = .ok (.isub, 1)) (h : Z g C k n ws lv (pc + 1) (.int v :: st)) : Z g C k n ws lv pc (.int y :: .int x :: st) := by
  subst hv
  exact fun H locs ls hP hD hS hl => lv_isub hC.1 hC.2.1 hdg (h H locs ls hP hD hS hl)
theorem z_imul (hC : zOK g C cc own d mc ms) {x y v : Int32} (hv : x * y = v) (hdg : decode cc pc = .ok (.imul, 1)) (h : Z g C k n ws lv (pc + 1) (.int v :: st)) : Z g C k n ws lv pc (.int y :: .int x :: st) := by
  subst hv
  exact fun H locs ls hP hD hS hl => lv_imul hC.1 hC.2.1 hdg (h H locs ls hP hD hS hl)
theorem z_iand (hC : zOK g C cc own d mc ms) {x y v : Int32} (hv : x &&& y = v) (hdg : decode cc pc = .ok (.iand, 1)) (h : Z g C k n ws lv (pc + 1) (.int v :: st)) : Z g C k n ws lv pc (.int y :: .int x :: st) := by
  subst hv
  exact fun H locs ls hP hD hS hl => lv_iand hC.1 hC.2.1 hdg (h H locs ls hP hD hS hl)
theorem z_irem (hC : zOK g C cc own d mc ms) {x y v : Int32} (hy : ¬ y = 0) (hv : x - x / y * y = v) (hdg : decode cc pc = .ok (.irem, 1)) (h : Z g C k n ws lv (pc + 1) (.int v :: st)) : Z g C k n ws lv pc (.int y :: .int x :: st) := by
  subst hv
  exact fun H locs ls hP hD hS hl => lv_irem hC.1 hC.2.1 hdg hy (h H locs ls hP hD hS hl)
theorem z_i2l (hC : zOK g C cc own d mc ms) {x : Int32} {v : Int64} (hv : x.toInt64 = v) (hdg : decode cc pc = .ok (.i2l, 1)) (h : Z g C k n ws lv (pc + 1) (.long v :: st)) : Z g C k n ws lv pc (.int x :: st) :=
  fun H locs ls hP hD hS hl => lv_i2l hC.1 hC.2.1 hdg hv (h H locs ls hP hD hS hl)
theorem z_i2d (hC : zOK g C cc own d mc ms) {x : Int32} (hdg : decode cc pc = .ok (.i2d, 1)) (h : Z g C k n ws lv (pc + 1) (.double (FP.i2d x) :: st)) : Z g C k n ws lv pc (.int x :: st) :=
  fun H locs ls hP hD hS hl => lv_i2d hC.1 hC.2.1 hdg (h H locs ls hP hD hS hl)
theorem z_dup (hC : zOK g C cc own d mc ms) {v : Value} (hv : v.category = 1) (hdg : decode cc pc = .ok (.dup, 1)) (h : Z g C k n ws lv (pc + 1) (v :: v :: st)) : Z g C k n ws lv pc (v :: st) :=
  fun H locs ls hP hD hS hl => lv_dup hC.1 hC.2.1 hdg hv (h H locs ls hP hD hS hl)
theorem z_dup2 (hC : zOK g C cc own d mc ms) {v w : Value} (hv : v.category = 1) (hw : w.category = 1) (hdg : decode cc pc = .ok (.dup2, 1)) (h : Z g C k n ws lv (pc + 1) (v :: w :: v :: w :: st)) : Z g C k n ws lv pc (v :: w :: st) :=
  fun H locs ls hP hD hS hl => lv_dup2_11 hC.1 hC.2.1 hdg hv hw (h H locs ls hP hD hS hl)
theorem z_pop (hC : zOK g C cc own d mc ms) {v : Value} (hv : v.category = 1) (hdg : decode cc pc = .ok (.pop, 1)) (h : Z g C k n ws lv (pc + 1) st) : Z g C k n ws lv pc (v :: st) :=
  fun H locs ls hP hD hS hl => lv_pop hC.1 hC.2.1 hdg hv (h H locs ls hP hD hS hl)
theorem z_goto (hC : zOK g C cc own d mc ms) {off : Int} (tgt : Nat) (ht : (pc : Int) + off = (tgt : Int)) (hdg : decode cc pc = .ok (.goto off, 3)) (h : Z g C k n ws lv tgt st) : Z g C k n ws lv pc st :=
  fun H locs ls hP hD hS hl => lv_goto hC.1 hC.2.1 hdg ht (h H locs ls hP hD hS hl)
theorem z_ifeq (hC : zOK g C cc own d mc ms) {x : Int32} {off : Int} (tgt : Nat) (ht : (pc : Int) + off = (tgt : Int)) (hdg : decode cc pc = .ok (.ifCond .eq off, 3)) (kt : x = 0 → Z g C k n ws lv tgt st) (kf : ¬ x = 0 → Z g C k n ws lv (pc + 3) st) : Z g C k n ws lv pc (.int x :: st) :=
  fun H locs ls hP hD hS hl => lv_if_eq hC.1 hC.2.1 hdg ht (fun q => kt q H locs ls hP hD hS hl) (fun q => kf q H locs ls hP hD hS hl)
theorem z_ifne (hC : zOK g C cc own d mc ms) {x : Int32} {off : Int} (tgt : Nat) (ht : (pc : Int) + off = (tgt : Int)) (hdg : decode cc pc = .ok (.ifCond .ne off, 3)) (kt : ¬ x = 0 → Z g C k n ws lv tgt st) (kf : x = 0 → Z g C k n ws lv (pc + 3) st) : Z g C k n ws lv pc (.int x :: st) :=
  fun H locs ls hP hD hS hl => lv_if_ne hC.1 hC.2.1 hdg ht (fun q => kt q H locs ls hP hD hS hl) (fun q => kf q H locs ls hP hD hS hl)
theorem z_iflt (hC : zOK g C cc own d mc ms) {x : Int32} {off : Int} (tgt : Nat) (ht : (pc : Int) + off = (tgt : Int)) (hdg : decode cc pc = .ok (.ifCond .lt off, 3)) (kt : x < 0 → Z g C k n ws lv tgt st) (kf : ¬ x < 0 → Z g C k n ws lv (pc + 3) st) : Z g C k n ws lv pc (.int x :: st) :=
  fun H locs ls hP hD hS hl => lv_if_lt hC.1 hC.2.1 hdg ht (fun q => kt q H locs ls hP hD hS hl) (fun q => kf q H locs ls hP hD hS hl)
theorem z_ifge (hC : zOK g C cc own d mc ms) {x : Int32} {off : Int} (tgt : Nat) (ht : (pc : Int) + off = (tgt : Int)) (hdg : decode cc pc = .ok (.ifCond .ge off, 3)) (kt : 0 ≤ x → Z g C k n ws lv tgt st) (kf : ¬ 0 ≤ x → Z g C k n ws lv (pc + 3) st) : Z g C k n ws lv pc (.int x :: st) :=
  fun H locs ls hP hD hS hl => lv_if_ge hC.1 hC.2.1 hdg ht (fun q => kt q H locs ls hP hD hS hl) (fun q => kf q H locs ls hP hD hS hl)
theorem z_ifgt (hC : zOK g C cc own d mc ms) {x : Int32} {off : Int} (tgt : Nat) (ht : (pc : Int) + off = (tgt : Int)) (hdg : decode cc pc = .ok (.ifCond .gt off, 3)) (kt : 0 < x → Z g C k n ws lv tgt st) (kf : ¬ 0 < x → Z g C k n ws lv (pc + 3) st) : Z g C k n ws lv pc (.int x :: st) :=
  fun H locs ls hP hD hS hl => lv_if_gt hC.1 hC.2.1 hdg ht (fun q => kt q H locs ls hP hD hS hl) (fun q => kf q H locs ls hP hD hS hl)
theorem z_ifle (hC : zOK g C cc own d mc ms) {x : Int32} {off : Int} (tgt : Nat) (ht : (pc : Int) + off = (tgt : Int)) (hdg : decode cc pc = .ok (.ifCond .le off, 3)) (kt : x ≤ 0 → Z g C k n ws lv tgt st) (kf : ¬ x ≤ 0 → Z g C k n ws lv (pc + 3) st) : Z g C k n ws lv pc (.int x :: st) :=
  fun H locs ls hP hD hS hl => lv_if_le hC.1 hC.2.1 hdg ht (fun q => kt q H locs ls hP hD hS hl) (fun q => kf q H locs ls hP hD hS hl)
theorem z_iceq (hC : zOK g C cc own d mc ms) {x y : Int32} {off : Int} (tgt : Nat) (ht : (pc : Int) + off = (tgt : Int)) (hdg : decode cc pc = .ok (.if_icmp .eq off, 3)) (kt : x = y → Z g C k n ws lv tgt st) (kf : ¬ x = y → Z g C k n ws lv (pc + 3) st) : Z g C k n ws lv pc (.int y :: .int x :: st) :=
  fun H locs ls hP hD hS hl => lv_icmp_eq hC.1 hC.2.1 hdg ht (fun q => kt q H locs ls hP hD hS hl) (fun q => kf q H locs ls hP hD hS hl)
theorem z_icne (hC : zOK g C cc own d mc ms) {x y : Int32} {off : Int} (tgt : Nat) (ht : (pc : Int) + off = (tgt : Int)) (hdg : decode cc pc = .ok (.if_icmp .ne off, 3)) (kt : ¬ x = y → Z g C k n ws lv tgt st) (kf : x = y → Z g C k n ws lv (pc + 3) st) : Z g C k n ws lv pc (.int y :: .int x :: st) :=
  fun H locs ls hP hD hS hl => lv_icmp_ne hC.1 hC.2.1 hdg ht (fun q => kt q H locs ls hP hD hS hl) (fun q => kf q H locs ls hP hD hS hl)
theorem z_iclt (hC : zOK g C cc own d mc ms) {x y : Int32} {off : Int} (tgt : Nat) (ht : (pc : Int) + off = (tgt : Int)) (hdg : decode cc pc = .ok (.if_icmp .lt off, 3)) (kt : x < y → Z g C k n ws lv tgt st) (kf : ¬ x < y → Z g C k n ws lv (pc + 3) st) : Z g C k n ws lv pc (.int y :: .int x :: st) :=
  fun H locs ls hP hD hS hl => lv_icmp_lt hC.1 hC.2.1 hdg ht (fun q => kt q H locs ls hP hD hS hl) (fun q => kf q H locs ls hP hD hS hl)
theorem z_icge (hC : zOK g C cc own d mc ms) {x y : Int32} {off : Int} (tgt : Nat) (ht : (pc : Int) + off = (tgt : Int)) (hdg : decode cc pc = .ok (.if_icmp .ge off, 3)) (kt : y ≤ x → Z g C k n ws lv tgt st) (kf : ¬ y ≤ x → Z g C k n ws lv (pc + 3) st) : Z g C k n ws lv pc (.int y :: .int x :: st) :=
  fun H locs ls hP hD hS hl => lv_icmp_ge hC.1 hC.2.1 hdg ht (fun q => kt q H locs ls hP hD hS hl) (fun q => kf q H locs ls hP hD hS hl)
theorem z_icgt (hC : zOK g C cc own d mc ms) {x y : Int32} {off : Int} (tgt : Nat) (ht : (pc : Int) + off = (tgt : Int)) (hdg : decode cc pc = .ok (.if_icmp .gt off, 3)) (kt : y < x → Z g C k n ws lv tgt st) (kf : ¬ y < x → Z g C k n ws lv (pc + 3) st) : Z g C k n ws lv pc (.int y :: .int x :: st) :=
  fun H locs ls hP hD hS hl => lv_icmp_gt hC.1 hC.2.1 hdg ht (fun q => kt q H locs ls hP hD hS hl) (fun q => kf q H locs ls hP hD hS hl)
theorem z_icle (hC : zOK g C cc own d mc ms) {x y : Int32} {off : Int} (tgt : Nat) (ht : (pc : Int) + off = (tgt : Int)) (hdg : decode cc pc = .ok (.if_icmp .le off, 3)) (kt : x ≤ y → Z g C k n ws lv tgt st) (kf : ¬ x ≤ y → Z g C k n ws lv (pc + 3) st) : Z g C k n ws lv pc (.int y :: .int x :: st) :=
  fun H locs ls hP hD hS hl => lv_icmp_le hC.1 hC.2.1 hdg ht (fun q => kt q H locs ls hP hD hS hl) (fun q => kf q H locs ls hP hD hS hl)
/-- the top gets a name; or another form -/
theorem z_top {x : Int32} (h : ∀ y : Int32, y = x → Z g C k n ws lv pc (.int y :: st)) : Z g C k n ws lv pc (.int x :: st) := h x rfl
theorem z_is_ {x y : Int32} (e : x = y) (h : Z g C k n ws lv pc (.int y :: st)) : Z g C k n ws lv pc (.int x :: st) := by subst e; exact h
theorem z_w (e : ws = ws') (h : Z g C k n ws' lv pc st) : Z g C k n ws lv pc st := by subst e; exact h
theorem z_lv (is : List Nat) (e : lv_pick lv is = lv') (h : Z g C k n ws lv' pc st) : Z g C k n ws lv pc st :=
  fun H locs ls hP hD hS hl => h H locs ls hP hD hS (lv_sub hl is e)
theorem z_widen {k' n' : Nat} (h1 : k ≤ k') (h2 : n ≤ n') (h : Z g C k' n' ws lv pc st) : Z g C k n ws lv pc st :=
  fun H locs ls hP hD hS hl => W.widen h1 h2 (h H locs ls hP hD hS hl)
/-- a field, by its entry of the constant pool: kind ci, place f, declared in its own class -/
def fl (own : String) (idx ci f : Nat) : Prop := ∃ (r : vw_C), vwCl[ci]? = some r ∧ f < r.2.2 ∧ (∀ w ∈ u_ws r.1 r.2.1 r.2.2, w ∈ aw) ∧ Cond.fieldLink own idx (r.2.1 f).1 (r.2.1 f).2.1 (r.2.1 f).2.2.1 ∈ aw
theorem z_get (hC : zOK g C cc own d mc ms) {idx ci f : Nat} (hf : fl own idx ci f) (q0 : Nat) {a : Nat} {fs : List Value} {v : Value} (he : ws[q0]? = some (a, .inr (ci, fs))) (hv : fs[f]? = some v) (hdg : decode cc pc = .ok (.getfield idx, 3)) (h : Z g C k n ws lv (pc + 3) (v :: st)) : Z g C k n ws lv pc (.ref a :: st) := by
  obtain ⟨⟨R, T, N⟩, h1, h2, h3, h4⟩ := hf
  exact fun H locs ls hP hD hS hl => va_get hC.1 hC.2.1 hC.2.2.2.1 h3 hC.2.2.1 hC.2.2.2.2.1 hP q0 he h1 f h2 (hC.2.2.2.1 _ h4) (fun _ q => q) hv hdg (h H locs ls hP hD hS hl)
/-- a field that may be written -/
def fp (ci f : Nat) (ty : FieldType) : Prop := ∃ (r : vw_C) (ty0 : Nat → FieldType), vwCl[ci]? = some r ∧ (∀ j, j < r.2.2 → parseFieldDescriptor (r.2.1 j).2.2.1 = some (ty0 j)) ∧ (∀ a, a < r.2.2 → ∀ b, b < r.2.2 → a ≠ b → (r.2.1 a).2.1 ≠ (r.2.1 b).2.1) ∧ (r.2.1 f).2.2.2 = false ∧ parseFieldDescriptor (r.2.1 f).2.2.1 = some ty
theorem z_put (hC : zOK g C cc own d mc ms) {idx ci f : Nat} (hf : fl own idx ci f) (hp : fp ci f .int) (q0 : Nat) {a : Nat} {fs : List Value} {x : Int32} (he : ws[q0]? = some (a, .inr (ci, fs))) (hl : f < fs.length) (hw : ws.set q0 (a, .inr (ci, fs.set f (.int x))) = ws') (hdg : decode cc pc = .ok (.putfield idx, 3)) (h : Z g C k n ws' lv (pc + 3) st) : Z g C k n ws lv pc (.int x :: .ref a :: st) := by
  obtain ⟨⟨R, T, N⟩, h1, h2, h3, h4⟩ := hf
  obtain ⟨r', ty0, p1, p2, p3, p4, p5⟩ := hp
  obtain rfl : (R, T, N) = r' := Option.some.inj (h1.symm.trans p1)
  subst hw
  exact fun H locs ls hP hD hS hl0 => va_put hC.1 hC.2.1 hC.2.2.2.1 h3 ty0 p2 p3 hC.2.2.1 hC.2.2.2.2.1 hP hD hS q0 he h1 f h2 (hC.2.2.2.1 _ h4) (fun _ q => q) p4 p5 rfl rfl hl hdg (fun H1 locs1 hP1 hD1 hS1 => h H1 locs1 ls hP1 hD1 hS1 hl0)
theorem z_iald (hC : zOK g C cc own d mc ms) (q0 : Nat) {a nn : Nat} {f : Nat → Int32} (ha : ws[q0]? = some (a, .inl (g.2 0, nn, .inl f))) (hdg : decode cc pc = .ok (.iaload, 1)) {x : Int32} (j : Nat) (hx : x = nI j) (hj : j < nn) (hn : nn < 2 ^ 31) (h : Z g C k n ws lv (pc + 1) (.int (f j) :: st)) : Z g C k n ws lv pc (.int x :: .ref a :: st) := by
  subst hx
  have hc := nI_clamp (n := j) (by omega)
  rw [← hc] at h
  exact fun H locs ls hP hD hS hl => va_iald hC.1 hC.2.1 hC.2.2.2.2.1 hP q0 0 ha rfl (vp_in_nI hj hn) hdg (h H locs ls hP hD hS hl)
theorem z_zald (hC : zOK g C cc own d mc ms) (q0 : Nat) {a nn : Nat} {f : Nat → Int32} (ha : ws[q0]? = some (a, .inl (g.2 1, nn, .inl f))) (hdg : decode cc pc = .ok (.baload, 1)) {x : Int32} (j : Nat) (hx : x = nI j) (hj : j < nn) (hn : nn < 2 ^ 31) (h : Z g C k n ws lv (pc + 1) (.int (f j) :: st)) : Z g C k n ws lv pc (.int x :: .ref a :: st) := by
  subst hx
  have hc := nI_clamp (n := j) (by omega)
  rw [← hc] at h
  exact fun H locs ls hP hD hS hl => va_zald hC.1 hC.2.1 hC.2.2.2.2.1 hP q0 1 ha rfl (vp_in_nI hj hn) hdg (h H locs ls hP hD hS hl)
theorem z_iast (hC : zOK g C cc own d mc ms) (q0 : Nat) {a nn : Nat} {f : Nat → Int32} (ha : ws[q0]? = some (a, .inl (g.2 0, nn, .inl f))) (hdg : decode cc pc = .ok (.iastore, 1)) {x v : Int32} (j : Nat) (hx : x = nI j) (hj : j < nn) (hn : nn < 2 ^ 31) (hw : ws.set q0 (a, .inl (g.2 0, nn, .inl (upd f j v))) = ws') (h : Z g C k n ws' lv (pc + 1) st) : Z g C k n ws lv pc (.int v :: .int x :: .ref a :: st) := by
  subst hx hw
  have hc := nI_clamp (n := j) (by omega)
  rw [← hc] at h
  exact fun H locs ls hP hD hS hl => va_iast hC.1 hC.2.1 hC.2.2.2.2.1 hP hD hS q0 0 ha rfl (vp_in_nI hj hn) hdg (fun H1 locs1 hP1 hD1 hS1 => h H1 locs1 ls hP1 hD1 hS1 hl)
theorem z_zast (hC : zOK g C cc own d mc ms) (q0 : Nat) {a nn : Nat} {f : Nat → Int32} (ha : ws[q0]? = some (a, .inl (g.2 1, nn, .inl f))) (hdg : decode cc pc = .ok (.bastore, 1)) {x v : Int32} (j : Nat) (hx : x = nI j) (hj : j < nn) (hn : nn < 2 ^ 31) (hv : vp_nar .boolean v = v) (hw : ws.set q0 (a, .inl (g.2 1, nn, .inl (upd f j v))) = ws') (h : Z g C k n ws' lv (pc + 1) st) : Z g C k n ws lv pc (.int v :: .int x :: .ref a :: st) := by
  subst hx hw
  have hc := nI_clamp (n := j) (by omega)
  rw [← hc] at h
  refine fun H locs ls hP hD hS hl => va_zast hC.1 hC.2.1 hC.2.2.2.2.1 hP hD hS q0 1 ha rfl (vp_in_nI hj hn) hdg (fun H1 locs1 hP1 hD1 hS1 => h H1 locs1 ls ?_ ?_ hS1 hl)
  · rw [hv] at hP1; exact hP1
  · rw [hv] at hD1; exact hD1
end ZROWS
