/-! THE SCRIPT, THE START -/
theorem arr_of {s : State} {args : Array Value} {ty : FieldType} (h : (Cond.arrayClass ty).before args s = true) : ∃ cA : ClassId, ArrOfT s cA ty ∧ s.vm.findClass ("[" ++ ty.toString) = some cA := by
  obtain ⟨c, k, comp, h1, h2, h3⟩ := Cond.arrayClass_spec h
  exact ⟨c, fun n z => ⟨fun k h => (by cases h), k, h2, comp, h3⟩, h1⟩
theorem arr_ov {s : State} {args : Array Value} {C : String} (h : (Cond.arrayOver (.object C)).before args s = true) : ∃ cA : ClassId, ArrOfT s cA (.object C) ∧ va_RA s cA (.object C) := by
  obtain ⟨comp, c, k, h1, h2, h3, h4, h5⟩ := Cond.arrayOver_spec h
  exact ⟨c, fun n z => ⟨fun k h => (by cases h), k, h3, comp, h4⟩, k, comp, h3, h4, h1, h5⟩
theorem aN_tbl : ∀ w ∈ aN, w ∈ lw_tbl := by decide +kernel
theorem ao_tbl : Cond.arrayOver (.object RX4) ∈ lw_tbl := by decide +kernel
theorem GR_new0 : GR (RI_ 12) := by
  refine gr_of (n := 0) ⟨by decide, by decide, fun j hj => absurd hj (Nat.not_lt_zero _), fun r hr => ⟨Or.inl rfl, ?_⟩, fun r r' hr hr' e1 e2 => ?_⟩ (by decide)
  · show RI_ 12 4 r ≤ 99
    have : RI_ 12 4 r = 0 := by simp [RI_]
    rw [this]; decide
  · exact absurd (show RI_ 12 5 r = -1 by simp [RI_, hr]) e2
theorem st_zN {s : State} {args : Array Value} (hts : ∀ w ∈ lw_tbl, w.before args s = true) : zN s := by
  refine ⟨fun w hw => ?_, va_AO.of (hts _ ao_tbl)⟩
  obtain ⟨a, i, x, q, rfl⟩ := aN_is w hw
  exact va_Nw.of rfl (hts _ (aN_tbl _ hw))
theorem st_zK {s : State} {args : Array Value} (hts : ∀ w ∈ lw_tbl, w.before args s = true) : ∃ g : zG, va_K g.1 vwCl (zT g.2) s := by
  have ht : ∀ w ∈ aw, w.before args s = true := fun w hw => hts w (aw_tbl w hw)
  obtain ⟨c0, i0, h0⟩ := u_known (C := RX0) (T := TX0) (N := 8) (n := 8) ht uX0 (ht _ (in_aw 190 (by decide +kernel) (by decide +kernel)))
  obtain ⟨c1, i1, h1⟩ := u_known (C := RX1) (T := TX1) (N := 3) (n := 3) ht uX1 (ht _ (in_aw 171 (by decide +kernel) (by decide +kernel)))
  obtain ⟨c2, i2, h2⟩ := u_known (C := RX2) (T := TX2) (N := 9) (n := 9) ht uX2 (ht _ (in_aw 70 (by decide +kernel) (by decide +kernel)))
  obtain ⟨c3, i3, h3⟩ := u_known (C := RX3) (T := TX3) (N := 6) (n := 6) ht uX3 (ht _ (in_aw 31 (by decide +kernel) (by decide +kernel)))
  obtain ⟨c4, i4, h4⟩ := u_known (C := RX4) (T := TX4) (N := 12) (n := 12) ht uX4 (ht _ (in_aw 25 (by decide +kernel) (by decide +kernel)))
  obtain ⟨c5, i5, h5⟩ := u_known (C := RX5) (T := TX5) (N := 4) (n := 4) ht uX5 (ht _ (in_aw 17 (by decide +kernel) (by decide +kernel)))
  obtain ⟨a0, p0, q0⟩ := arr_of (ht _ aw_int)
  obtain ⟨a1, p1, q1⟩ := arr_of (ht _ aw_bool)
  obtain ⟨a2, p2, q2⟩ := arr_ov (hts _ ao_tbl)
  refine ⟨((fun k => match k with | 0 => c0 | 1 => c1 | 2 => c2 | 3 => c3 | 4 => c4 | _ => c5, fun k => match k with | 0 => i0 | 1 => i1 | 2 => i2 | 3 => i3 | 4 => i4 | _ => i5), fun k => match k with | 0 => a0 | 1 => a1 | _ => a2), fun k q hq => ?_, fun k q hq => ?_⟩
  · match k, hq with
    | 0, hq => cases hq; exact h0
    | 1, hq => cases hq; exact h1
    | 2, hq => cases hq; exact h2
    | 3, hq => cases hq; exact h3
    | 4, hq => cases hq; exact h4
    | 5, hq => cases hq; exact h5
    | k + 6, hq => simp [vwCl] at hq
  · match k, hq with
    | 0, hq => cases hq; exact ⟨p0, q0⟩
    | 1, hq => cases hq; exact ⟨p1, q1⟩
    | 2, hq => cases hq; exact ⟨p2, q2⟩
    | k + 3, hq => simp [zT] at hq
section ZSC
variable {g : zG} {C : zC} {cc : ByteArray} {own : String} {d mc ms k n : Nat} {ws ws' : va_W} {lv lv' : List (Nat × Value)} {pc : Nat} {st rest : List Value}
theorem z_sld (hC : zOK g C cc own d mc ms) {b L : Nat} {xs : Nat → Int32} (hX : va_X b L xs (zs C) (zs C).heap) (hbl : b < (zs C).heap.size) (hbA : ¬ zA C b) (hL : L < 2 ^ 31) (hdg : decode cc pc = .ok (.iaload, 1)) {x : Int32} (j : Nat) (hx : x = nI j) (hj : j < L) (h : Z g C k n ws lv (pc + 1) (.int (xs j) :: st)) : Z g C k n ws lv pc (.int x :: .ref b :: st) := by
  subst hx
  have hc := nI_clamp (n := j) (by omega)
  rw [← hc] at h
  exact fun H locs ls hP hD hS hl => va_sld hC.1 hC.2.1 hX hbl hbA hS (vp_in_nI hj hL) hdg (h H locs ls hP hD hS hl)
theorem z_slen (hC : zOK g C cc own d mc ms) {b L : Nat} {xs : Nat → Int32} (hX : va_X b L xs (zs C) (zs C).heap) (hbl : b < (zs C).heap.size) (hbA : ¬ zA C b) (hdg : decode cc pc = .ok (.arraylength, 1)) (h : Z g C k n ws lv (pc + 1) (.int (nI L) :: st)) : Z g C k n ws lv pc (.ref b :: st) :=
  fun H locs ls hP hD hS hl => va_slen hC.1 hC.2.1 hX hbl hbA hS hdg (h H locs ls hP hD hS hl)
end ZSC
def zPreC (g : zG) (av : List Value) (b L : Nat) (xs : Nat → Int32) (sz : Nat) : Array Value → State → Prop := va_Pc av (fun U => U.heap.size = sz ∧ va_P g.1 vwCl [] U.heap ∧ va_K g.1 vwCl (zT g.2) U ∧ va_D (fun _ => True) [] ∧ zN U ∧ va_X b L xs U U.heap ∧ b < U.heap.size)
theorem zPreC_blind {g : zG} {av : List Value} {b L : Nat} {xs : Nat → Int32} {sz : Nat} : FrameBlind (zPreC g av b L xs sz) := fun a U f mk q => by
  obtain ⟨q0, q1, qP, qK, qD, qN, q3, q4⟩ := q
  exact ⟨q0, q1, qP, va_K.moved (u := U) (U := U.calling f mk a) (Vm.Alike.refl U.vm) qK, qD, zN.same (u := U) (U := U.calling f mk a) rfl qN, va_X.moved (u := U) (U := U.calling f mk a) (Vm.Alike.refl U.vm) q3, q4⟩
/-- a number out of the script, or beyond it -/
def FC (g : zG) (b L : Nat) (xs : Nat → Int32) (kk : Nat) : Prop :=
  ∀ (l : Launch) (sz : Nat), Met l yL_cell (w_ yL_cell cL_cell 2 (some .int)) (zRm 0 0 0) (zPreC g [.ref b, .int (nI kk)] b L xs sz) (va_Qi (S := Unit) (fun _ _ => True) (zPost g [] sz (fun _ => [])) (va_A [] sz)) 0 0 (va_A [] sz)
theorem fc_entry {g : zG} {b L : Nat} {xs : Nat → Int32} {kk : Nat}
    (h : ∀ C : zC, zOK g C cL_cell RL 0 0 0 → (zc C).maxLocals = 2 → va_X b L xs (zs C) (zs C).heap → b < (zs C).heap.size → ¬ zA C b → zI (S := Unit) g C cL_cell .int 0 0 (fun _ _ => True) (fun _ => []) → Z g C 0 0 [] (lv_args 0 [.ref b, .int (nI kk)]) 0 []) : FC g b L xs kk := by
  intro l sz
  refine Met.ofW (cc := cL_cell) (maxL := 2) (ret := some .int) (by decide) rfl ?_
  intro p e s m args below meth c s₁ B hml hv
  obtain ⟨rfl, hsz, hP, hK, hD0, hN, hX, hbl⟩ := hv
  have hx := B.exec
  have hb := B.bytes
  have hr := B.returns
  have hts := atoms_spec (ws := w_ yL_cell cL_cell 2 (some .int)) B.pre
  have hown : s.vm.findClass yL_cell.cls = some m.cls := findClass_of_methodNamed B.named
  have hlocks := B.notSynchronized
  subst hsz
  rw [lg_entry_eq]
  have hl := lv_entry ([.ref b, .int (nI kk)]) (n := 2) (Nat.le_of_ble_eq_true rfl)
  generalize (lg_sl ([.ref b, .int (nI kk)]) ++ List.replicate (2 - (lg_sl ([.ref b, .int (nI kk)])).length) Slot.unset).toArray = ls at hl ⊢
  have hbA : ¬ va_A [] s.heap.size b := by
    rintro (⟨k, e, hk⟩ | h)
    · simp at hk
    · omega
  refine h (p, l, e, zRm 0 0 0, s, m, ([.ref b, .int (nI kk)] : List Value).toArray, below, meth, c, va_A [] s.heap.size, MQ below (va_Qi (S := Unit) (fun _ _ => True) (zPost g [] s.heap.size (fun _ => [])) (va_A [] s.heap.size)) ([.ref b, .int (nI kk)] : List Value).toArray s 0 0 (va_A [] s.heap.size)) ⟨hx, hb, hown, fun x hx' => hts x (List.mem_cons_of_mem _ hx'), hK, rfl, fun q hq => Or.inr hq, hN⟩ hml hX hbl hbA ?_ s.heap [] ls hP hD0.self va_S.rf (by rw [show (zc (p, l, e, zRm 0 0 0, s, m, ([.ref b, .int (nI kk)] : List Value).toArray, below, meth, c, va_A [] s.heap.size, MQ below (va_Qi (S := Unit) (fun _ _ => True) (zPost g [] s.heap.size (fun _ => [])) (va_A [] s.heap.size)) ([.ref b, .int (nI kk)] : List Value).toArray s 0 0 (va_A [] s.heap.size))).maxLocals = 2 from hml]; exact hl)
  intro pc lv r u k n ws hdg hnar hp hw h1 h2
  subst hw
  intro H locs ls2 hP hD hS hl2
  refine W.widen h1 h2 ?_
  exact W.zret hx hb hr hnar (fun t ht hW => ⟨⟨r, u, rfl, hp, by rw [ht]; exact hP, hD⟩, hS.F ht⟩) hS.2.2 hdg
theorem l_cell {g : zG} {b L : Nat} {xs : Nat → Int32} (hL : L ≤ 260) {kk : Nat} (hk : kk < 2 ^ 31) : FC g b L xs kk := by
  refine fc_entry (fun C hC hm hX hbl hbA hE => ?_)
  refine z_iln (pc := 0) hC 1 rfl dL_cell_0 ?_
  refine z_aln (pc := 1) hC 0 rfl dL_cell_1 ?_
  refine z_slen (pc := 2) hC hX hbl hbA dL_cell_2 ?_
  refine z_icge (pc := 3) hC 12 (by decide) dL_cell_3 (fun _ => ?_) (fun c3 => ?_)
  · refine z_ldc (pc := 12) (v := 1099904445) hC kL_7 dL_cell_12 ?_
    refine z_iln (pc := 14) hC 1 rfl dL_cell_14 ?_
    refine z_iconst (pc := 15) (v := 1) hC dL_cell_15 (by decide) ?_
    refine z_iadd (pc := 16) (v := nI kk + 1) hC rfl dL_cell_16 ?_
    refine z_imul (pc := 17) (v := 1099904445 * (nI kk + 1)) hC rfl dL_cell_17 ?_
    exact hE _ _ _ () _ _ _ dL_cell_18 rfl trivial rfl (Nat.le_refl _) (Nat.le_refl _)
  · have hlt : kk < L := Nat.lt_of_not_le (fun q => c3 (nI_le q hk))
    refine z_aln (pc := 6) hC 0 rfl dL_cell_6 ?_
    refine z_iln (pc := 7) hC 1 rfl dL_cell_7 ?_
    refine z_sld (pc := 8) hC hX hbl hbA (by omega) dL_cell_8 kk rfl hlt ?_
    refine z_goto (pc := 9) hC 18 (by decide) dL_cell_9 ?_
    exact hE _ _ _ () _ _ _ dL_cell_18 rfl trivial rfl (Nat.le_refl _) (Nat.le_refl _)
/-- what the law's walk stands on -/
def lOK (g : zG) (C : zC) (b L : Nat) (xs : Nat → Int32) : Prop :=
  zOK g C cL_law RL 11 600104 7301314 ∧ (zc C).maxLocals = 10 ∧ va_X b L xs (zs C) (zs C).heap ∧ b < (zs C).heap.size ∧ ¬ zA C b ∧ L ≤ 260
theorem z_sc {g : zG} {C : zC} {b L : Nat} {xs : Nat → Int32} {k n : Nat} {ws : va_W} {lv : List (Nat × Value)} {pc : Nat} {st rest : List Value} (hO : lOK g C b L xs) {kk : Nat} (hkk : kk < 2 ^ 31) (hdg : decode cL_law pc = .ok (.invokestatic 131, 3)) (hst : st = .int (nI kk) :: .ref b :: rest) (hcat : (rest.map fun v => v.category).sum ≤ 8) (hk : k ≤ 600104 ∧ n ≤ 7301314)
    (h : ∀ r : Int32, Z g C k n ws lv (pc + 3) (.int r :: rest)) : Z g C k n ws lv pc st := by
  obtain ⟨hC, hm, hX, hbl, hbA, hL⟩ := hO
  subst hst
  intro H locs ls hP hD hS hl0
  have hP0 : va_P g.1 vwCl [] H := fun k q hq => by simp at hq
  have hD0 : va_D (fun _ => True) ([] : va_W) := ⟨fun i j p q hi => by simp at hi, fun k q hq => by simp at hq⟩
  have hF : ∀ q, va_A [] H.size q → zA C q := by
    rintro q (⟨k, e, hk⟩ | h)
    · simp at hk
    · exact hC.2.2.2.2.2.2.1 q (Nat.le_trans hS.1 h)
  have hpre : PreS (zs C) H (zPreC g [.ref b, .int (nI kk)] b L xs H.size) [.ref b, .int (nI kk)] :=
    ⟨zPreC_blind, fun U hU hW => ⟨rfl, by rw [hU], by rw [hU]; exact hP0, va_K.moved hW.alike hC.2.2.2.2.1, hD0, zN.warm hW hC.2.2.2.2.2.2.2, by rw [hU]; exact (hX.kept (hS.2.1 b hbl hbA)).moved hW.alike, by rw [hU]; exact Nat.lt_of_lt_of_le hbl hS.1⟩⟩
  refine va_calli (va_runS (As := [.ref b, .int (nI kk)]) (rest := rest) (z_fix hC) (l_cell hL hkk (zl C) H.size) ⟨callB_of 2 hC.2.2.2.1 (good_w (fun _ h => h) sL_cell.2.2.1) rfl rfl rfl (hC.2.2.2.1 _ sL_cell.2.1) (hC.2.2.2.1 _ lL_131) sL_cell.2.2.2.1 (z_room (d' := 0) (mc' := 0) (ms' := 0) hC (by omega) sL_cell.2.2.2.2), hC.2.2.2.1 _ sL_cell.1⟩ hpre rfl rfl hl0.1 rfl (lv_room hcat) hdg ?_) hS (fun q _ h => hF q h) hF (fun r u t H1 locs1 ht hvm hp hB hz hk1 hS1 => ?_)
  · rw [hC.2.2.2.2.2.1]; exact hk
  · have hP1 : va_P g.1 vwCl ws H1 := by
      refine va_P_mem.mpr fun q hq => (va_P_mem.mp hP q hq).kept (hk1 q.1 (va_P_mem.mp hP q hq).lt ?_)
      rintro (⟨k, e, hk⟩ | h)
      · simp at hk
      · exact absurd (va_P_mem.mp hP q hq).lt (Nat.not_lt.mpr h)
    exact h r H1 locs1 ls hP1 hD hS1 hl0
theorem RI_0 : setS (fun _ _ => 0) 14 9 10 = RI_ 0 := by
  funext c r
  simp only [setS_at, RI_, Nat.not_lt_zero, if_false]
  by_cases h : c = 14 ∧ r = 9
  · obtain ⟨h1, h2⟩ := h
    subst h1 h2; rfl
  · rw [if_neg h]
    split
    · rfl
    · split <;> rfl
theorem li_new (K : Nat → St) : LI 0 (RI_ 12, 0, (fun _ => 0, fun _ => 0, RI_ 12, 0, K)) := by
  refine ⟨GR_new0, ⟨fun j hj => ?_, fun r hr => Or.inl (by simp [RI_, hr]), (show (0 : Int32) ≤ RI_ 12 14 8 by decide)⟩, ⟨0, Nat.le_refl _, (show RI_ 12 14 0 = nI 0 by decide)⟩, fun _ => RI_ 12, fun _ => 0, 0, fun p hp => absurd hp (Nat.not_lt_zero _), nI_0.symm, Nat.zero_le 80, Nat.zero_le 6, (show (0 : Nat) < 6 by decide), fun k hk => absurd hk (Nat.not_lt_zero _)⟩
  have : nn (RI_ 12) = 0 := by decide
  exact absurd (this ▸ hj) (Nat.not_lt_zero _)
theorem lab_t {m : Nat} (hm : m < 12) (h : ¬ nI 6 ≤ nI m) : nI (m + 1) = lab m := by
  rw [lab, if_pos (Nat.lt_of_not_le (fun q => h (nI_le q (by omega))))]
