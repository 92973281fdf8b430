theorem lw_ret2 {p : Program} {l : Launch} {e : Env} {R : Room} {s : State} {m : MethodId} {below : List Frame} {meth : Method} {c : Code} {b : Nat} {d0 : Drawn} (hd0 : s.drawn.sameBut d0 lw_cs) (hx : p.tables.exec = Jvm.exec) (hb : c.code = code) (hr : meth.sig.returnType = ret) (hlocks : meth.locks = false) {pc : Nat} {H : Heap} {ls : Array Slot} (hdg : decode code pc = .ok (.ireturn, 1)) : W p l e R (s.setDrawn d0) m #[Value.ref b] below meth c H [] 600104 7301314 (lw_Z below #[Value.ref b] s) (F0 m pc ls [.int 1]) := by
  intro T hT X
  obtain ⟨fs, hret, hrun, hended, hW, hframe⟩ := X.leave (v := some (.int 1)) (hlocks := hlocks) (fun h => by rw [hr] at h; cases h)
  have hmeth' : T.vm.method? m = some meth := X.method'
  refine ⟨T.setFrames fs, ?_, .returned (some (.int 1)), hrun, hended, rfl, lw_closed hd0 ⟨_, rfl⟩ hW hframe⟩
  jvm_step X.here [X.here.top, hx, hb, hdg, hmeth', hr, ret, narrow_b1]
  (try refine ⟨rfl, ?_⟩); (try refine ⟨rfl, ?_⟩)
  first | (intro acts; rw [hret _ acts rfl rfl rfl]) | rw [hret _ _ rfl rfl rfl]
  exact Steps.refl _
theorem whole_start {p : Program} {e : Env} {s : State} {m : MethodId} {below : List Frame} {meth : Method} {c : Code} (l : Launch) (hflags : l.flags = flags0) {b L : Nat} {xs : Nat → Int32} (hL : L ≤ 260) (C0 : lw_At p s m meth c b L xs) : W p l e room_1 s m #[Value.ref b] below meth c s.heap [] 0 0 (lw_Z below #[Value.ref b] s) (entryFrame m ([Value.ref b] : List Value).toArray 10) := by
  obtain ⟨hx, hb, hr, hml, hown, hts, hX, hbl, hlocks, hgv⟩ := id C0
  have hbA : ¬ (fun q : Nat => s.heap.size ≤ q) b := Nat.not_le.mpr hbl
  obtain ⟨g, hK⟩ := st_zK hts
  have hN := st_zN hts
  have hd := Drawn.sameBut.refl s.drawn lw_cs
  have hO : lOK g (p, l, e, zRm 11 600104 7301314, s.setDrawn s.drawn, m, #[.ref b], below, meth, c, fun q => s.heap.size ≤ q, lw_Z below #[Value.ref b] s) b L xs :=
    ⟨⟨hx, hb, hown, fun w hw => dr_words hts s.drawn w (aw_tbl w hw), hK, rfl, fun q hq => hq, zN.same (u := s) (U := s.setDrawn s.drawn) rfl hN⟩, hml, hX, hbl, hbA, hL⟩
  have hE : ∀ (k n : Nat) (ws : va_W) (lv : List (Nat × Value)), k ≤ 600104 → n ≤ 7301314 → Z g (p, l, e, zRm 11 600104 7301314, s.setDrawn s.drawn, m, #[.ref b], below, meth, c, fun q => s.heap.size ≤ q, lw_Z below #[Value.ref b] s) k n ws lv 286 [.int 1] := by
    intro k n ws lv h1 h2 H locs ls hP hD hS hl
    refine W.widen h1 h2 ?_
    refine va_forget (fun q hq => hS.2.2 q hq) ?_
    exact lw_ret2 hd hx hb hr hlocks dL_law_286
  refine W.base ?_
  refine W_room (R' := zRm 11 600104 7301314) (by decide) (by decide) (by decide) (by decide) ?_
  have hl := lv_entry ([.ref b]) (n := 10) (Nat.le_of_ble_eq_true rfl)
  rw [lg_entry_eq]
  generalize (lg_sl ([.ref b]) ++ List.replicate (10 - (lg_sl ([.ref b])).length) Slot.unset).toArray = ls at hl ⊢
  have hl : lv_has ls 10 [(0, .ref b)] := hl
  exact lc_start hO hE s.heap [] ls (fun k q h => by simp at h) ⟨fun i j p q h => by simp at h, fun k q h => by simp at h⟩ va_S.rf (by rw [show (zc (p, l, e, zRm 11 600104 7301314, s.setDrawn s.drawn, m, #[.ref b], below, meth, c, fun q => s.heap.size ≤ q, lw_Z below #[Value.ref b] s)).maxLocals = 10 from hml]; exact hl)
