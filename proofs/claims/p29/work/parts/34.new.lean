/-! MAKING: rows of new, newarray, anewarray, final fields, aastore; Object's constructor -/
theorem aw_int : Cond.arrayClass .int ∈ aw := in_aw 67 (by decide +kernel) (by decide +kernel)
theorem aw_bool : Cond.arrayClass .boolean ∈ aw := in_aw 68 (by decide +kernel) (by decide +kernel)
theorem aw_oi : Cond.instanceMethod objectInit ∈ aw := in_aw 22 (by decide +kernel) (by decide +kernel)
theorem aw_oc : Cond.code objectInit ⟨#[0xb1]⟩ 1 none ∈ aw := in_aw 23 (by decide +kernel) (by decide +kernel)
section ZNEW
variable {g : zG} {C : zC} {cc : ByteArray} {own : String} {d mc ms k n : Nat} {ws ws' : va_W} {lv : List (Nat × Value)} {pc : Nat} {st : List Value}
theorem z_objInit (hC : zOK g C cc own d mc ms) {idx : Nat} (hl : Cond.methodLink own idx objectInit ∈ aw) (hd : 1 ≤ d) {a : Nat} (hdg : decode cc pc = .ok (.invokespecial idx, 3)) (hcat : (st.map fun v => v.category).sum ≤ 8) (h : Z g C k n ws lv (pc + 3) st) : Z g C k n ws lv pc (.ref a :: st) := by
  intro H locs ls hP hD hS hl0
  refine W.objInit hC.1 hC.2.1 hC.2.2.1 (hC.2.2.2.1 _ hl) (hC.2.2.2.1 _ aw_oi) (hC.2.2.2.1 _ aw_oc) rfl hl0.1 rfl hdg ?_ ?_ (h H locs ls hP hD hS hl0)
  · rw [hC.2.2.2.2.2.1]; exact hd
  · rw [hC.2.2.2.2.2.1]
    show _ ≤ 37 * d
    simp only [List.map_cons, List.sum_cons]
    have : (Value.ref a).category = 1 := rfl
    omega
theorem z_newa (hC : zOK g C cc own d mc ms) (ti : Nat) {ty : FieldType} (hty : (zT g.2)[ti]? = some (g.2 ti, ty)) (hra : ∀ (U : State) (cA : ClassId), va_RA U cA ty → U.vm.findClass ("[" ++ ty.toString) = some cA) {atype : ArrayType} (hat : newarray.typeOf atype = ty) (harr : Cond.arrayClass ty ∈ aw) (hdg : decode cc pc = .ok (.newarray atype, 2)) {x : Int32} (N : Nat) (hx : x = nI N) (hN : N ≤ 4096) (hb : componentBytes ty ≤ 8) (hk : k + 1 ≤ mc ∧ n + N ≤ ms) {a0 : vp_A} (ha : ∀ cA : ClassId, vp_cell cA a0 = arrV cA N (fun _ => defaultValue ty))
    (h : ∀ q : Nat, Z g C (k + 1) (n + N) (ws ++ [(q, .inl (g.2 ti, a0))]) lv (pc + 2) (.ref q :: st)) : Z g C k n ws lv pc (.int x :: st) := by
  subst hx hat
  intro H locs ls hP hD hS hl0
  refine va_newa hC.1 hC.2.1 (hC.2.2.2.1 _ harr) rfl hC.2.2.2.2.1 hP hD hS hC.2.2.2.2.2.2.1 ha (nI_pos (by omega)) (nI_clamp (by omega)) (Nat.le_trans (Nat.mul_le_mul hN hb) (by omega)) (by rw [hC.2.2.2.2.2.1]; exact hk.1) (by rw [hC.2.2.2.2.2.1]; exact hk.2) hdg (fun q cA H1 hK1 hP1 hD1 hS1 => ?_)
  have e1 := hra _ _ (hC.2.2.2.2.1.2 ti _ hty).2
  have e2 := hra _ _ (hK1.2 (zT g.2).length _ (by rw [List.getElem?_append_right (Nat.le_refl _), Nat.sub_self]; rfl)).2
  have e : cA = g.2 ti := Option.some.inj (e2.symm.trans e1)
  subst e
  exact h q H1 locs ls hP1 hD1 hS1 hl0
theorem z_newq (hC : zOK g C cc own d mc ms) {idx : Nat} (hcl : Cond.classLink own idx RX4 ∈ aw) (hdg : decode cc pc = .ok (.anewarray idx, 3)) {x : Int32} (N : Nat) (hx : x = nI N) (hN : N ≤ 4096) (hk : k + 1 ≤ mc ∧ n + N ≤ ms)
    (h : ∀ q : Nat, Z g C (k + 1) (n + N) (ws ++ [(q, .inl (g.2 2, N, .inr (.inr (.inr (.inr (fun _ => none))))))]) lv (pc + 3) (.ref q :: st)) : Z g C k n ws lv pc (.int x :: st) := by
  subst hx
  intro H locs ls hP hD hS hl0
  have hao : va_AO RX4 (zs C) := hC.2.2.2.2.2.2.2.2
  refine va_newq hC.1 hC.2.1 hC.2.2.1 (hC.2.2.2.1 _ hcl) hao hC.2.2.2.2.1 hP hD hS hC.2.2.2.2.2.2.1 (nI_pos (by omega)) (nI_clamp (by omega)) (by omega) (by rw [hC.2.2.2.2.2.1]; exact hk.1) (by rw [hC.2.2.2.2.2.1]; exact hk.2) hdg (fun q cA H1 hK1 hP1 hD1 hS1 => ?_)
  obtain ⟨_, _, _, _, _, e1⟩ := (hC.2.2.2.2.1.2 2 _ rfl).2
  obtain ⟨_, _, _, _, _, e2⟩ := (hK1.2 (zT g.2).length _ (by rw [List.getElem?_append_right (Nat.le_refl _), Nat.sub_self]; rfl)).2
  have e : cA = g.2 2 := Option.some.inj (e2.symm.trans e1)
  subst e
  exact h q H1 locs ls hP1 hD1 hS1 hl0
theorem z_new (hC : zOK g C cc own d mc ms) {R : String} {T : u_T} {N ci idx : Nat} (hin : ∀ w ∈ u_ws R T N, w ∈ aw) (ty : Nat → FieldType) (hty : ∀ k, k < N → parseFieldDescriptor (T k).2.2.1 = some (ty k)) (hcl : Cond.classLink own idx R ∈ aw) (hinst : Cond.instantiable R N ∈ aw) (hini : Cond.initialized R ∈ aw) (hc : vwCl[ci]? = some (R, T, N)) {fs : List Value} (hfs : ∀ j, j < N → defaultValue (ty j) = vp_V fs j) (hk : k + 1 ≤ mc ∧ n + N ≤ ms) (hdg : decode cc pc = .ok (.new idx, 3))
    (h : ∀ q : Nat, Z g C (k + 1) (n + N) (ws ++ [(q, .inr (ci, fs))]) lv (pc + 3) (.ref q :: st)) : Z g C k n ws lv pc st :=
  fun H locs ls hP hD hS hl0 => va_new hC.1 hC.2.1 hC.2.2.2.1 hin ty hty hC.2.2.1 (hC.2.2.2.1 _ hcl) (hC.2.2.2.1 _ hinst) (hC.2.2.2.1 _ hini) hC.2.2.2.2.1 hP hD hS hC.2.2.2.2.2.2.1 hc hfs (by rw [hC.2.2.2.2.2.1]; exact hk.1) (by rw [hC.2.2.2.2.2.1]; exact hk.2) hdg (fun q H1 hP1 hD1 hS1 => h q H1 locs ls hP1 hD1 hS1 hl0)
theorem z_putF (hC : zOK g C cc own d mc ms) (hm0 : (zM C).name = "<init>") {R : String} {T : u_T} {N ci idx f : Nat} (hin : ∀ w ∈ u_ws R T N, w ∈ aw) (ty0 : Nat → FieldType) (hty : ∀ k, k < N → parseFieldDescriptor (T k).2.2.1 = some (ty0 k)) (hnm : ∀ a, a < N → ∀ b, b < N → a ≠ b → (T a).2.1 ≠ (T b).2.1) (hc : vwCl[ci]? = some (R, T, N)) (hf : f < N) (hl : Cond.fieldLink own idx (T f).1 (T f).2.1 (T f).2.2.1 ∈ aw) (hfin : (T f).2.2.2 = true) (hdecl : (T f).1 = own) {ty : FieldType} (hd : parseFieldDescriptor (T f).2.2.1 = some ty) {v : Value} (hn : narrow ty v = v) (hfit : fits ty v = true)
    (q0 : Nat) {a : Nat} {fs : List Value} (he : ws[q0]? = some (a, .inr (ci, fs))) (hlen : f < fs.length) (hw : ws.set q0 (a, .inr (ci, fs.set f v)) = ws') (hdg : decode cc pc = .ok (.putfield idx, 3)) (h : Z g C k n ws' lv (pc + 3) st) : Z g C k n ws lv pc (v :: .ref a :: st) := by
  subst hw
  exact fun H locs ls hP hD hS hl0 => va_putF hC.1 hC.2.1 hC.2.2.2.1 hin ty0 hty hnm hC.2.2.1 hC.2.2.2.2.1 hP hD hS q0 he hc f hf (hC.2.2.2.1 _ hl) (fun _ q => q) hfin hm0 hdecl hd hn hfit hlen hdg (fun H1 locs1 hP1 hD1 hS1 => h H1 locs1 ls hP1 hD1 hS1 hl0)
theorem z_aast (hC : zOK g C cc own d mc ms) (q0 qk : Nat) {a nn v : Nat} {vs : List Value} {f : Nat → Option Nat} (ha : ws[q0]? = some (a, .inl (g.2 2, nn, .inr (.inr (.inr (.inr f)))))) (hv : ws[qk]? = some (v, .inr (4, vs))) (hdg : decode cc pc = .ok (.aastore, 1)) {x : Int32} (j : Nat) (hx : x = nI j) (hj : j < nn) (hn : nn < 2 ^ 31) (hw : ws.set q0 (a, .inl (g.2 2, nn, .inr (.inr (.inr (.inr (va_up f j (some v))))))) = ws') (h : Z g C k n ws' lv (pc + 1) st) : Z g C k n ws lv pc (.ref v :: .int x :: .ref a :: st) := by
  subst hx hw
  have hc := nI_clamp (n := j) (by omega)
  rw [← hc] at h
  exact fun H locs ls hP hD hS hl => va_astq hC.1 hC.2.1 hC.2.2.2.2.1 hP hD hS q0 2 qk 4 ha rfl hv rfl (vp_in_nI hj hn) hdg (fun H1 locs1 hP1 hD1 hS1 => h H1 locs1 ls hP1 hD1 hS1 hl)
end ZNEW
