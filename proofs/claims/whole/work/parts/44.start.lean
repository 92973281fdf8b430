/-! THE LAW FROM ITS ENTRY -/
theorem lw_ret2 {p : Program} {l : Launch} {e : Env} {R : Room} {s : State} {m : MethodId} {below : List Frame} {meth : Method} {c : Code} {b : Nat} {d0 : Drawn} (hd0 : s.drawn.sameBut d0 lw_cs) (hx : p.tables.exec = Jvm.exec) (hb : c.code = code) (hr : meth.sig.returnType = ret) (hlocks : meth.locks = false) {pc : Nat} {H : Heap} {ls : Array Slot} (hdg : decode code pc = .ok (.ireturn, 1)) : W p l e R (s.setDrawn d0) m #[Value.ref b] below meth c H [] 601024 7293034 (lw_Z below #[Value.ref b] s) (F0 m pc ls [.int 1]) := by
  intro T hT X
  obtain ⟨fs, hret, hrun, hended, hW, hframe⟩ := X.leave (v := some (.int 1)) (hlocks := hlocks) (fun h => by rw [hr] at h; cases h)
  have hmeth' : T.vm.method? m = some meth := X.method'
  refine ⟨T.setFrames fs, ?_, .returned (some (.int 1)), hrun, hended, rfl, lw_closed hd0 ⟨_, rfl⟩ hW hframe⟩
  jvm_step X.here [X.here.top, hx, hb, hdg, hmeth', hr, ret, narrow_b1]
  (try refine ⟨rfl, ?_⟩); (try refine ⟨rfl, ?_⟩)
  first | (intro acts; rw [hret _ acts rfl rfl rfl]) | rw [hret _ _ rfl rfl rfl]
  exact Steps.refl _
theorem arr_of {s : State} {args : Array Value} {ty : FieldType} (h : (Cond.arrayClass ty).before args s = true) : ∃ cA : ClassId, ArrOfT s cA ty ∧ s.vm.findClass ("[" ++ ty.toString) = some cA := by
  obtain ⟨c, k, comp, h1, h2, h3⟩ := Cond.arrayClass_spec h
  exact ⟨c, fun n z => ⟨fun k h => (by cases h), k, h2, comp, h3⟩, h1⟩
theorem arr_ov {s : State} {args : Array Value} {C : String} (h : (Cond.arrayOver (.object C)).before args s = true) : ∃ cA : ClassId, ArrOfT s cA (.object C) ∧ va_RA s cA (.object C) := by
  obtain ⟨comp, c, k, h1, h2, h3, h4, h5⟩ := Cond.arrayOver_spec h
  exact ⟨c, fun n z => ⟨fun k h => (by cases h), k, h3, comp, h4⟩, k, comp, h3, h4, h1, h5⟩
theorem aN_tbl : ∀ w ∈ aN, w ∈ lw_tbl := by decide +kernel
theorem xD_tbl : ∀ w ∈ xD, w ∈ lw_tbl := by decide +kernel
theorem xD_on : ∀ w ∈ xD, w.onTables = true := by decide +kernel
theorem ao_tbl : Cond.arrayOver (.object RX4) ∈ lw_tbl := by decide +kernel
theorem xS_tbl : ∀ q ∈ xStr, Cond.stringRef RX5 q.1 q.2 ∈ lw_tbl := by decide +kernel
theorem xS_ex : ∀ q ∈ xStr, Cond.exactly (.string RX5 q.1) "java/lang/String" ∈ flatC (Jvm.Cond.and given_1 narrow_1) := by decide +kernel
theorem ls_1 : Cond.laysStatic Bundle.tN "UNASSIGNED_STACK" Bundle.steD ∈ lw_tbl := by decide +kernel
theorem ls_2 : Cond.laysStatic Bundle.tN "SUPPRESSED_SENTINEL" Bundle.listD ∈ lw_tbl := by decide +kernel
theorem ls_i : Cond.initialized Bundle.tN ∈ lw_tbl := by decide +kernel
theorem lr_1 : Cond.isRef (.static Bundle.tN "UNASSIGNED_STACK" Bundle.steD) ∈ flatC (Jvm.Cond.and given_1 narrow_1) := by decide +kernel
theorem lr_2 : Cond.isRef (.static Bundle.tN "SUPPRESSED_SENTINEL" Bundle.listD) ∈ flatC (Jvm.Cond.and given_1 narrow_1) := by decide +kernel
theorem ln_1 : Cond.not (.castable xA_ xO_) ∈ flatC (Jvm.Cond.and given_1 narrow_1) := by decide +kernel
theorem ln_2 : Cond.not (.castable xS_ xO_) ∈ flatC (Jvm.Cond.and given_1 narrow_1) := by decide +kernel
theorem ln_3 : Cond.not (.castable xS_ xA_) ∈ flatC (Jvm.Cond.and given_1 narrow_1) := by decide +kernel
theorem GR_new0 : GR (RI_ 12) := by
  refine gr_of (n := 0) ⟨by decide, by decide, fun j hj => absurd hj (Nat.not_lt_zero _), fun r hr => ⟨Or.inl rfl, ?_⟩, fun r r' hr hr' e1 e2 => ?_⟩ (by decide)
  · show RI_ 12 4 r ≤ 99
    have : RI_ 12 4 r = 0 := by simp [RI_]
    rw [this]; decide
  · exact absurd (show RI_ 12 5 r = -1 by simp [RI_, hr]) e2
theorem st_zN {s : State} {args : Array Value} (hts : ∀ w ∈ lw_tbl, w.before args s = true) : zN s := by
  refine ⟨fun w hw => ?_, va_AO.of (hts _ ao_tbl)⟩
  obtain ⟨a, i, x, q, rfl⟩ := aN_is w hw
  exact va_Nw.of rfl (hts _ (aN_tbl _ hw))
theorem st_zX {s : State} {args : Array Value} (hts : ∀ w ∈ lw_tbl, w.before args s = true) (hgv : (Jvm.Cond.and given_1 narrow_1).before args s = true) : zX (fun q : Nat => s.heap.size ≤ q) s s.heap := by
  have hf := flat_of_before _ hgv
  have hA : ∀ a : Nat, a < s.heap.size → ¬ (fun q : Nat => s.heap.size ≤ q) a := fun a h => Nat.not_le.mpr h
  refine ⟨fun w hw => va_Nw.of (xD_on w hw) (hts _ (xD_tbl w hw)), fun q hq => ?_, vx_Zqof (hts _ ls_1) (hts _ ls_i) (hf _ lr_1) hA, vx_Zqof (hts _ ls_2) (hts _ ls_i) (hf _ lr_2) hA⟩
  obtain ⟨a, -, -, -, q1, -⟩ := Cond.exactly_spec (hf _ (xS_ex q hq))
  exact ⟨a, vk_R.of (hts _ (xS_tbl q hq)) q1⟩
theorem st_zNc {s : State} {args : Array Value} (hgv : (Jvm.Cond.and given_1 narrow_1).before args s = true) : zNc s := by
  have hf := flat_of_before _ hgv
  exact ⟨va_Nc.of (hf _ ln_1), va_Nc.of (hf _ ln_2), va_Nc.of (hf _ ln_3)⟩
theorem st_zK {s : State} {args : Array Value} (hts : ∀ w ∈ lw_tbl, w.before args s = true) : ∃ g : zG, va_K g.1 vwCl (zT g.2) s := by
  have ht : ∀ w ∈ aw, w.before args s = true := fun w hw => hts w (aw_tbl w hw)
  obtain ⟨c0, i0, h0⟩ := u_known (C := RX0) (T := TX0) (N := 8) (n := 8) ht uX0 (ht _ (in_aw 228 (by decide +kernel) (by decide +kernel)))
  obtain ⟨c1, i1, h1⟩ := u_known (C := RX1) (T := TX1) (N := 3) (n := 3) ht uX1 (ht _ (in_aw 208 (by decide +kernel) (by decide +kernel)))
  obtain ⟨c2, i2, h2⟩ := u_known (C := RX2) (T := TX2) (N := 9) (n := 9) ht uX2 (ht _ (in_aw 107 (by decide +kernel) (by decide +kernel)))
  obtain ⟨c3, i3, h3⟩ := u_known (C := RX3) (T := TX3) (N := 6) (n := 6) ht uX3 (ht _ (in_aw 68 (by decide +kernel) (by decide +kernel)))
  obtain ⟨c4, i4, h4⟩ := u_known (C := RX4) (T := TX4) (N := 12) (n := 12) ht uX4 (ht _ (in_aw 62 (by decide +kernel) (by decide +kernel)))
  obtain ⟨c5, i5, h5⟩ := u_known (C := RX5) (T := TX5) (N := 4) (n := 4) ht uX5 (ht _ (in_aw 54 (by decide +kernel) (by decide +kernel)))
  obtain ⟨c6, i6, h6⟩ := u_known (C := RX6) (T := TX6) (N := 14) (n := 14) ht uX6 (ht _ (in_aw 752 (by decide +kernel) (by decide +kernel)))
  obtain ⟨a0, p0, q0⟩ := arr_of (ht _ aw_int)
  obtain ⟨a1, p1, q1⟩ := arr_of (ht _ aw_bool)
  obtain ⟨a2, p2, q2⟩ := arr_ov (hts _ ao_tbl)
  obtain ⟨a3, p3, q3⟩ := arr_of (ht _ aw_long)
  refine ⟨((fun k => match k with | 0 => c0 | 1 => c1 | 2 => c2 | 3 => c3 | 4 => c4 | 5 => c5 | _ => c6, fun k => match k with | 0 => i0 | 1 => i1 | 2 => i2 | 3 => i3 | 4 => i4 | 5 => i5 | _ => i6), fun k => match k with | 0 => a0 | 1 => a1 | 2 => a2 | _ => a3), fun k q hq => ?_, fun k q hq => ?_⟩
  · match k, hq with
    | 0, hq => cases hq; exact h0
    | 1, hq => cases hq; exact h1
    | 2, hq => cases hq; exact h2
    | 3, hq => cases hq; exact h3
    | 4, hq => cases hq; exact h4
    | 5, hq => cases hq; exact h5
    | 6, hq => cases hq; exact h6
    | k + 7, hq => simp [vwCl] at hq
  · match k, hq with
    | 0, hq => cases hq; exact ⟨p0, q0⟩
    | 1, hq => cases hq; exact ⟨p1, q1⟩
    | 2, hq => cases hq; exact ⟨p2, q2⟩
    | 3, hq => cases hq; exact ⟨p3, q3⟩
    | k + 4, hq => simp [zT] at hq
theorem perm_lw (X M W : va_W) : ((X ++ M) ++ W).Perm ((X ++ W) ++ M) := by
  rw [List.append_assoc, List.append_assoc]
  exact List.Perm.append_left X List.perm_append_comm
set_option maxRecDepth 100000 in
set_option maxHeartbeats 4000000 in
/-- the law's body over Z: what it makes, then the loop -/
theorem lc_start {g : zG} {p : Program} {l : Launch} {v : Env} {s : State} {m : MethodId} {below : List Frame} {meth : Method} {cd : Code} {b L : Nat} {xs : Nat → Int32} (hO : ∀ d, lOK g (lC p l v s m below meth cd b d) b L xs) (hE : ∀ (d : Drawn) (k n : Nat) (ws : va_W) (lv : List (Nat × Value)), s.drawn.sameBut d lw_cs → k ≤ 601024 → n ≤ 7293034 → Z g (lC p l v s m below meth cd b d) k n ws lv 1362 [.int 1]) : Z g (lC p l v s m below meth cd b s.drawn) 0 0 [] [(0, .ref b)] 0 [] := by
  obtain ⟨hC, hm, hXs, hbl, hbA, h0, hZX, hNc, hL⟩ := id (hO s.drawn)
  have hd0 := Drawn.sameBut.refl s.drawn lw_cs
  refine z_new (pc := 0) (ci := 5) hC uX5 tyX5 tyX5_ok (in_aw 53 (by decide +kernel) (by decide +kernel)) (in_aw 54 (by decide +kernel) (by decide +kernel)) (in_aw 38 (by decide +kernel) (by decide +kernel)) rfl (fs := [.null, .null, .null, .null]) (fun j hj => by rcases (show j = 0 ∨ j = 1 ∨ j = 2 ∨ j = 3 by omega) with h | h | h | h <;> subst h <;> rfl) ⟨Nat.le_of_ble_eq_true rfl, Nat.le_of_ble_eq_true rfl⟩ dL_law_0 (fun x => ?_)
  refine z_w (ws' := [(x, .inr (5, [.null, .null, .null, .null]))]) rfl ?_
  refine z_dup (pc := 3) hC rfl dL_law_3 ?_
  refine z_iv (pc := 4) (rest := [.ref x]) hC iX5_init lL_72 dL_law_4 i_console [] [] rfl rfl rfl (by decide) (Nat.le_of_ble_eq_true rfl) ⟨Nat.le_of_ble_eq_true rfl, Nat.le_of_ble_eq_true rfl⟩ (fun S _ => ?_)
  obtain ⟨u, c, a, h, e⟩ := S
  refine z_w (ws' := xW g.2 x u c a h e (fun _ => 0) (fun _ => 0) (RI_ 12) (RI_ 12) (nI 0) (nI 0) (fun _ => RI_ 12)) (by rw [List.append_nil]; rfl) ?_
  refine z_asn (pc := 7) (lv' := [(1, .ref x), (0, .ref b)]) hC hm (by decide) rfl dL_law_7 ?_
  refine z_new (pc := 8) (ci := 6) hC uX6 tyX6 tyX6_ok (in_aw 751 (by decide +kernel) (by decide +kernel)) (in_aw 752 (by decide +kernel) (by decide +kernel)) (in_aw 44 (by decide +kernel) (by decide +kernel)) rfl (fs := [.null, .null, .int 0, .null, .int 0, .null, .int 0, .int 0, .int 0, .int 0, .null, .null, .null, .null]) (fun j hj => by rcases (show j = 0 ∨ j = 1 ∨ j = 2 ∨ j = 3 ∨ j = 4 ∨ j = 5 ∨ j = 6 ∨ j = 7 ∨ j = 8 ∨ j = 9 ∨ j = 10 ∨ j = 11 ∨ j = 12 ∨ j = 13 by omega) with h | h | h | h | h | h | h | h | h | h | h | h | h | h <;> subst h <;> rfl) ⟨Nat.le_of_ble_eq_true rfl, Nat.le_of_ble_eq_true rfl⟩ dL_law_8 (fun r => ?_)
  refine z_dup (pc := 11) hC rfl dL_law_11 ?_
  refine z_iv (pc := 12) (rest := [.ref r]) hC iX6_init lL_75 dL_law_12 i_model (xW g.2 x u c a h e (fun _ => 0) (fun _ => 0) (RI_ 12) (RI_ 12) (nI 0) (nI 0) (fun _ => RI_ 12)) [] rfl rfl rfl (by decide) (Nat.le_of_ble_eq_true rfl) ⟨Nat.le_of_ble_eq_true rfl, Nat.le_of_ble_eq_true rfl⟩ (fun mb hmb => ?_)
  subst hmb
  refine z_w (ws' := xW g.2 x u c a h e (fun _ => 0) (fun _ => 0) (RI_ 12) (RI_ 12) (nI 0) (nI 0) (fun _ => RI_ 12) ++ mW g.2 mb (RI_ 12) (fun _ _ => 0) (fun _ => 0)) (by rw [List.append_nil]) ?_
  refine z_asn (pc := 15) (lv' := [(2, .ref (mb 0)), (1, .ref x), (0, .ref b)]) hC hm (by decide) rfl dL_law_15 ?_
  refine z_iconst (pc := 16) (v := nI 1) hC dL_law_16 (by decide) ?_
  refine z_newa (pc := 17) hC 3 rfl (fun _ _ h => h) rfl aw_long dL_law_17 1 rfl (by decide) (by decide) ⟨Nat.le_of_ble_eq_true rfl, Nat.le_of_ble_eq_true rfl⟩ (a0 := (1, .inr (.inl (fun _ => 0)))) (fun _ => rfl) (fun o => ?_)
  refine z_asn (pc := 19) (lv' := [(3, .ref o), (2, .ref (mb 0)), (1, .ref x), (0, .ref b)]) hC hm (by decide) rfl dL_law_19 ?_
  refine z_iconst (pc := 20) (v := nI 0) hC dL_law_20 (by decide) ?_
  refine z_is (pc := 21) (lv' := [(4, .int (nI 0)), (3, .ref o), (2, .ref (mb 0)), (1, .ref x), (0, .ref b)]) hC hm (by decide) rfl dL_law_21 ?_
  refine z_lv (lv' := lL b x (mb 0) o 0) [0, 4, 3, 2, 1] rfl ?_
  refine z_perm (perm_lw _ _ _) ?_
  refine lc_loop (x := x) (u := u) (c := c) (a := a) (h := h) (e := e) (mb := mb) (o := o) hO hE 512 0 151 3380 _ s.drawn hd0 (by omega) (Nat.zero_le _) (by omega) (by omega) ?_
  exact ⟨fun _ => 0, fun _ => 0, RI_ 12, RI_ 12, 0, 0, fun _ => RI_ 12, fun _ => RI_ 12, fun _ => 0, 0, fun _ => 0, fun _ _ => 0, fun _ => 0, GR_new0, ⟨fun p hp => absurd hp (Nat.not_lt_zero _), nI_0.symm, by decide, by decide, by decide, fun k hk => absurd hk (Nat.not_lt_zero _)⟩, ⟨nI_0.symm, by decide, fun k hk => absurd hk (Nat.not_lt_zero _), nI_0.symm, by decide, fun p hp => absurd hp (Nat.not_lt_zero _)⟩, fun k hk => absurd hk (Nat.not_lt_zero _), rfl⟩
theorem whole_start {p : Program} {e : Env} {s : State} {m : MethodId} {below : List Frame} {meth : Method} {c : Code} (l : Launch) (hflags : l.flags = flags0) {b L : Nat} {xs : Nat → Int32} (hL : L ≤ 2560) (C0 : lw_At p s m meth c b L xs) : W p l e room_1 s m #[Value.ref b] below meth c s.heap [] 0 0 (lw_Z below #[Value.ref b] s) (entryFrame m ([Value.ref b] : List Value).toArray 9) := by
  obtain ⟨hx, hb, hr, hml, hown, hts, hX, hbl, hlocks, hgv⟩ := id C0
  have hbA : ¬ (fun q : Nat => s.heap.size ≤ q) b := Nat.not_le.mpr hbl
  obtain ⟨g, hK⟩ := st_zK hts
  have hN := st_zN hts
  have hZX := st_zX hts hgv
  have hNc := st_zNc hgv
  have hl0 : l.stackTraces = false := by unfold Launch.stackTraces; rw [hflags]; decide +kernel
  have hO : ∀ d, lOK g (lC p l e s m below meth c b d) b L xs := fun d =>
    ⟨⟨hx, hb, hown, fun w hw => dr_words hts d w (aw_tbl w hw), hK, rfl, fun q hq => hq, zN.same (u := s) (U := s.setDrawn d) rfl hN⟩, hml, hX, hbl, hbA, hl0, ⟨zD.al (u := s) (U := s.setDrawn d) (Vm.Alike.refl s.vm) hZX.1, zS.same (u := s) (U := s.setDrawn d) rfl hZX.2.1, hZX.2.2.1.moved (U := s.setDrawn d) (Vm.Alike.refl s.vm), hZX.2.2.2.moved (U := s.setDrawn d) (Vm.Alike.refl s.vm)⟩, hNc.moved (u := s) (U := s.setDrawn d) (Vm.Alike.refl s.vm), hL⟩
  have hE : ∀ (d : Drawn) (k n : Nat) (ws : va_W) (lv : List (Nat × Value)), s.drawn.sameBut d lw_cs → k ≤ 601024 → n ≤ 7293034 → Z g (lC p l e s m below meth c b d) k n ws lv 1362 [.int 1] := by
    intro d k n ws lv hd h1 h2 H locs ls hP hD hS hl
    refine W.widen h1 h2 ?_
    refine va_forget (fun q hq => hS.2.2 q hq) ?_
    exact lw_ret2 hd hx hb hr hlocks dL_law_1362
  refine W.base ?_
  refine W_room (R' := zRm 10 601024 7293034) (by decide) (by decide) (by decide) (by decide) ?_
  have hl := lv_entry ([.ref b]) (n := 9) (Nat.le_of_ble_eq_true rfl)
  rw [lg_entry_eq]
  generalize (lg_sl ([.ref b]) ++ List.replicate (9 - (lg_sl ([.ref b])).length) Slot.unset).toArray = ls at hl ⊢
  have hl : lv_has ls 9 [(0, .ref b)] := hl
  exact lc_start hO hE s.heap [] ls (fun k q h => by simp at h) ⟨fun i j p q h => by simp at h, fun k q h => by simp at h⟩ va_S.rf (by rw [show (zc (lC p l e s m below meth c b s.drawn)).maxLocals = 9 from hml]; exact hl)
