/-! more rows: cells seen otherwise, worlds in another order, rows of references, arraycopy -/
theorem arrV_congr (cI : ClassId) {n : Nat} {f f' : Nat → Value} (h : ∀ j, j < n → f j = f' j) : arrV cI n f = arrV cI n f' := by
  unfold arrV
  congr 1
  apply Array.ext
  · simp
  · intro j h1 h2
    simp only [Array.size_ofFn] at h1
    simp [h j h1]
theorem va_P_perm {D : va_G} {cl : List vw_C} {w w' : va_W} {H : Heap} (h : w.Perm w') (hP : va_P D cl w H) : va_P D cl w' H := va_P_mem.mpr fun q hq => va_P_mem.mp hP q (h.mem_iff.mpr hq)
theorem va_D_perm {A : Nat → Prop} {w w' : va_W} (h : w.Perm w') (hD : va_D A w) : va_D A w' := by
  obtain ⟨h1, h2⟩ := va_D_iff.mp hD
  exact va_D_iff.mpr ⟨((h.map Prod.fst).nodup_iff).mp h1, fun q hq => h2 q (h.mem_iff.mpr hq)⟩
section ZR2
variable {g : zG} {C : zC} {cc : ByteArray} {own : String} {d mc ms k n : Nat} {ws ws' : va_W} {lv lv' : List (Nat × Value)} {pc : Nat} {st rest : List Value}
theorem z_perm (e : ws.Perm ws') (h : Z g C k n ws' lv pc st) : Z g C k n ws lv pc st :=
  fun H locs ls hP hD hS hl => h H locs ls (va_P_perm e hP) (va_D_perm e hD) hS hl
/-- an int row seen as another function that is the same within its length -/
theorem z_cell (q0 : Nat) {a nn : Nat} {cA : ClassId} {f f' : Nat → Int32} (ha : ws[q0]? = some (a, .inl (cA, nn, .inl f))) (he : ∀ j, j < nn → f j = f' j) (hw : ws.set q0 (a, .inl (cA, nn, .inl f')) = ws') (h : Z g C k n ws' lv pc st) : Z g C k n ws lv pc st := by
  subst hw
  intro H locs ls hP hD hS hl
  refine h H locs ls ?_ (hD.set ha) hS hl
  refine hP.set hD ha ?_ (fun _ _ => rfl)
  have h1 : H[a]? = some (vp_cell cA (nn, .inl f)) := hP q0 _ ha
  show H[a]? = some (vp_cell cA (nn, .inl f'))
  rw [h1, vp_cell_i, vp_cell_i, arrV_congr cA (fun j hj => by rw [he j hj])]
theorem z_aald (hC : zOK g C cc own d mc ms) (q0 : Nat) {a nn : Nat} {f : Nat → Option Nat} (ha : ws[q0]? = some (a, .inl (g.2 2, nn, .inr (.inr (.inr (.inr f)))))) (hdg : decode cc pc = .ok (.aaload, 1)) {x : Int32} (j : Nat) (hx : x = nI j) (hj : j < nn) (hn : nn < 2 ^ 31) (h : Z g C k n ws lv (pc + 1) (va_rf (f j) :: st)) : Z g C k n ws lv pc (.int x :: .ref a :: st) := by
  subst hx
  have hc := nI_clamp (n := j) (by omega)
  rw [← hc] at h
  exact fun H locs ls hP hD hS hl => va_aldq hC.1 hC.2.1 hC.2.2.2.2.1 hP q0 2 ha rfl (vp_in_nI hj hn) hdg (h H locs ls hP hD hS hl)
/-- System.arraycopy of whole int or boolean rows -/
theorem z_acopy (hC : zOK g C cc own d mc ms) (ti : Nat) {idx : Nat} {ty : FieldType} (hty : (zT g.2)[ti]? = some (g.2 ti, ty)) (hp : refKind ty = false) (hl : Cond.methodLink own idx arraycopyName ∈ aw) (h1 : Cond.native arraycopyName ∈ aw) (h2 : Cond.static arraycopyName ∈ aw) (h3 : Cond.initialized "java/lang/System" ∈ aw) (hdg : decode cc pc = .ok (.invokestatic idx, 3))
    (q0 q1 : Nat) {a a0 nn : Nat} {f f' : Nat → Int32} (ha0 : ws[q0]? = some (a0, .inl (g.2 ti, nn, .inl f))) (ha1 : ws[q1]? = some (a, .inl (g.2 ti, nn, .inl f'))) (hn : nn ≤ 4096) (hfit : ∀ i, i < nn → fits ty (.int (f i)) = true) (hd : 1 ≤ d) {x : Int32} (hx : x = nI nn) (hw : ws.set q1 (a, .inl (g.2 ti, nn, .inl f)) = ws')
    (h : Z g C k n ws' lv (pc + 3) []) : Z g C k n ws lv pc (.int x :: .int 0 :: .ref a :: .int 0 :: .ref a0 :: []) := by
  subst hx hw
  intro H locs ls hP hD hS hl0
  have hc := nI_clamp (n := nn) (by omega)
  have h0 : (0 : Int32).toNatClampNeg = 0 := by decide
  refine va_copyi hC.1 hC.2.1 hl0.1.symm hC.2.2.1 (hC.2.2.2.1 _ hl) (hC.2.2.2.1 _ h1) (hC.2.2.2.1 _ h2) (hC.2.2.2.1 _ h3) hC.2.2.2.2.1 hP hD hS q0 q1 ti ti ha0 ha1 hty hty hp (by decide) (by decide) (nI_pos (by omega)) (by rw [h0, hc]; omega) (by rw [h0, hc]; omega) (fun i hi => by rw [h0, Nat.zero_add]; exact hfit i (by rw [hc] at hi; exact hi)) (by rw [hC.2.2.2.2.2.1]; exact hd) ?_ hdg ?_
  · rw [hC.2.2.2.2.2.1]
    show (([] : List Value).map fun v => v.category).sum + (nativeFrameWords "java/lang/System" "arraycopy" 5 + 11) ≤ 37 * d
    have : nativeFrameWords "java/lang/System" "arraycopy" 5 ≤ 20 := by decide
    simp only [List.map_nil, List.sum_nil]
    omega
  · intro H1 locs1 hP1 hD1 hS1
    have hP1s : va_P g.1 vwCl ((ws.set q1 (a, .inl (g.2 ti, nn, .inl (va_cpy f f' (0 : Int32).toNatClampNeg (0 : Int32).toNatClampNeg (nI nn).toNatClampNeg)))).set q1 (a, .inl (g.2 ti, nn, .inl f))) H1 := by
      have hq : q1 < ws.length := (List.getElem?_eq_some_iff.mp ha1).1
      refine hP1.set hD1 (by rw [List.getElem?_set_self hq]) ?_ (fun _ _ => rfl)
      have e1 : H1[a]? = some (vp_cell (g.2 ti) (nn, .inl (va_cpy f f' (0 : Int32).toNatClampNeg (0 : Int32).toNatClampNeg (nI nn).toNatClampNeg))) := hP1 q1 (a, .inl (g.2 ti, nn, .inl (va_cpy f f' (0 : Int32).toNatClampNeg (0 : Int32).toNatClampNeg (nI nn).toNatClampNeg))) (by rw [List.getElem?_set_self hq])
      show H1[a]? = some (vp_cell (g.2 ti) (nn, .inl f))
      rw [e1, vp_cell_i, vp_cell_i, arrV_congr (g.2 ti) (fun j hj => ?_)]
      rw [h0, hc]
      simp [va_cpy, hj]
    rw [List.set_set] at hP1s
    refine h H1 locs1 ls hP1s ?_ hS1 hl0
    have := hD.set ha1 (e := .inl (g.2 ti, nn, .inl f))
    exact this
end ZR2
/-! calls by worlds in another order -/
section ZGP
variable {g : zG} {C : zC} {cc : ByteArray} {own : String} {d mc ms k n : Nat} {ws : va_W} {lv : List (Nat × Value)} {pc : Nat} {st rest : List Value}
variable {S : Type} {y : MethodName} {cy : ByteArray} {nl d' np idx b : Nat} {ret : FieldType} {As : List Value} {w : va_W} {w' : S → va_W}
theorem z_viP (hC : zOK g C cc own d mc ms) (hy : vM y cy nl (some ret) np) (hl : Cond.methodLink own idx y ∈ aw) (hdg : decode cc pc = .ok (.invokevirtual idx, 3)) {post : Int32 → S → Prop} (hM : FI g y cy nl ret d' 0 0 (.ref b :: As) w post w') (suf : va_W) (hw : ws.Perm (w ++ suf)) (q0 ci : Nat) {fs : List Value} {r : vw_C} (he : w[q0]? = some (b, .inr (ci, fs))) (hr : vwCl[ci]? = some r) (hR : r.1 = y.cls)
    (hn : As.length = np) (hst : st = As.reverse ++ .ref b :: rest) (hd : d' + 1 ≤ d) (hcat : (rest.map fun v => v.category).sum ≤ 8) (hk : k ≤ mc ∧ n ≤ ms)
    (ws' : S → va_W) (hw' : ∀ u, (w' u ++ suf).Perm (ws' u)) (kk : ∀ (r : Int32) (u : S), post r u → Z g C k n (ws' u) lv (pc + 3) (.int r :: rest)) : Z g C k n ws lv pc st :=
  z_perm hw (z_vi hC hy hl hdg hM [] suf rfl q0 ci he hr hR hn hst hd hcat hk (fun r u hp => z_perm (hw' u) (kk r u hp)))
theorem z_vvP (hC : zOK g C cc own d mc ms) (hy : vM y cy nl none np) (hl : Cond.methodLink own idx y ∈ aw) (hdg : decode cc pc = .ok (.invokevirtual idx, 3)) {post : S → Prop} (hM : FV g y cy nl d' 0 0 (.ref b :: As) w post w') (suf : va_W) (hw : ws.Perm (w ++ suf)) (q0 ci : Nat) {fs : List Value} {r : vw_C} (he : w[q0]? = some (b, .inr (ci, fs))) (hr : vwCl[ci]? = some r) (hR : r.1 = y.cls)
    (hn : As.length = np) (hst : st = As.reverse ++ .ref b :: rest) (hd : d' + 1 ≤ d) (hcat : (rest.map fun v => v.category).sum ≤ 8) (hk : k ≤ mc ∧ n ≤ ms)
    (ws' : S → va_W) (hw' : ∀ u, (w' u ++ suf).Perm (ws' u)) (kk : ∀ (u : S), post u → Z g C k n (ws' u) lv (pc + 3) rest) : Z g C k n ws lv pc st :=
  z_perm hw (z_vv hC hy hl hdg hM [] suf rfl q0 ci he hr hR hn hst hd hcat hk (fun u hp => z_perm (hw' u) (kk u hp)))
end ZGP
/-- the reference's cells while its row is being written -/
def mX (i : Nat → ClassId) (b : Nat → Nat) (f : Nat → Int32) (F : Nat → Nat → Int32) (V : Nat → Int32) : va_W :=
  [(b 0, .inr (6, [.ref (b 1), .ref (b 2), .int (V 0), .ref (b 3), .int (V 1), .ref (b 4), .int (V 2), .int (V 3), .int (V 4), .int (V 5), .ref (b 5), .ref (b 6), .ref (b 7), .ref (b 8)])),
   (b 1, .inl (i 0, 179, .inl f)), (b 2, .inl (i 0, 1074, .inl (F 0))), (b 3, .inl (i 0, 179, .inl (F 1))), (b 4, .inl (i 0, 80, .inl (F 2))), (b 5, .inl (i 0, 48, .inl (F 3))), (b 6, .inl (i 0, 48, .inl (F 4))), (b 7, .inl (i 0, 48, .inl (F 5))), (b 8, .inl (i 0, 48, .inl (F 6)))]
theorem mW_mX (i : Nat → ClassId) (b : Nat → Nat) (R : St) (F : Nat → Nat → Int32) (V : Nat → Int32) : mW i b R F V = mX i b (flat R) F V := rfl
theorem mX_f {i : Nat → ClassId} {b : Nat → Nat} {f : Nat → Int32} {F : Nat → Nat → Int32} {V : Nat → Int32} {j : Nat} {v : Int32} : (mX i b f F V).set 1 (b 1, .inl (i 0, 179, .inl (upd f j v))) = mX i b (upd f j v) F V := rfl
theorem upd_upd (V : Nat → Int32) (k : Nat) (x y : Int32) : upd (upd V k x) k y = upd V k y := by
  funext j; simp only [upd]; split <;> rfl
theorem upd_self (V : Nat → Int32) (k : Nat) : upd V k (V k) = V := by
  funext j; simp only [upd]; split
  · rename_i h; rw [h]
  · rfl
theorem upd_comm (V : Nat → Int32) {k k' : Nat} (x y : Int32) (h : k ≠ k') : upd (upd V k x) k' y = upd (upd V k' y) k x := by
  funext j; simp only [upd]; split
  · split
    · omega
    · rfl
  · rfl
theorem upd_eq (V : Nat → Int32) (k : Nat) (x : Int32) : upd V k x k = x := by simp [upd]
theorem upd_ne (V : Nat → Int32) {k j : Nat} (x : Int32) (h : j ≠ k) : upd V k x j = V j := by simp [upd, h]
/-- the saved states in one row -/
def enc (f : Nat → Int32) (H : Nat → St) (s : Nat) : Prop := ∀ k, k < s → ∀ q, q < 179 → f (179 * k + q) = flat (H k) q
def pushN (s : Nat) : Nat := if s = 6 then 6 else s + 1
def pushH (H : Nat → St) (s : Nat) (R : St) : Nat → St := if s = 6 then fun k => if k < 5 then H (k + 1) else R else fun k => if k = s then R else H k
theorem pushN_le {s : Nat} (h : s ≤ 6) : pushN s ≤ 6 := by unfold pushN; split <;> omega
/-- the row shifted so far; the block written so far -/
def shf (f : Nat → Int32) (m : Nat) : Nat → Int32 := fun p => if p < m then f (p + 179) else f p
def wrt (f h : Nat → Int32) (o m : Nat) : Nat → Int32 := fun p => if o ≤ p ∧ p < o + m then h (p - o) else f p
theorem shf_0 (f : Nat → Int32) : shf f 0 = f := by funext p; simp [shf]
theorem shf_s (f : Nat → Int32) (m : Nat) : upd (shf f m) m (f (m + 179)) = shf f (m + 1) := by
  funext p; simp only [upd, shf]
  by_cases h : p = m
  · subst h; simp
  · rw [if_neg h]
    by_cases h2 : p < m
    · rw [if_pos h2, if_pos (by omega)]
    · rw [if_neg h2, if_neg (by omega)]
theorem shf_at (f : Nat → Int32) (m : Nat) : shf f m (m + 179) = f (m + 179) := if_neg (by omega)
theorem wrt_0 (f h : Nat → Int32) (o : Nat) : wrt f h o 0 = f := by
  funext p; simp only [wrt]; rw [if_neg (by omega)]
theorem wrt_s (f h : Nat → Int32) (o m : Nat) : upd (wrt f h o m) (o + m) (h m) = wrt f h o (m + 1) := by
  funext p; simp only [upd, wrt]
  by_cases e : p = o + m
  · subst e; rw [if_pos rfl, if_pos (by omega), Nat.add_sub_cancel_left]
  · rw [if_neg e]
    by_cases h2 : o ≤ p ∧ p < o + m
    · rw [if_pos h2, if_pos (by omega)]
    · rw [if_neg h2, if_neg (by omega)]
theorem enc_push {f : Nat → Int32} {H : Nat → St} {s : Nat} {R : St} (h : enc f H s) (hs : s < 6) : enc (wrt f (flat R) (179 * s) 179) (pushH H s R) (pushN s) := by
  intro k hk q hq
  have hk' : k ≤ s := by unfold pushN at hk; rw [if_neg (by omega)] at hk; omega
  unfold pushH
  rw [if_neg (by omega)]
  simp only [wrt]
  by_cases e : k = s
  · subst e
    rw [if_pos (by omega), if_pos rfl, Nat.add_sub_cancel_left]
  · rw [if_neg (by omega), if_neg e]
    exact h k (by omega) q hq
theorem enc_shift {f : Nat → Int32} {H : Nat → St} {R : St} (h : enc f H 6) : enc (wrt (shf f 895) (flat R) (179 * 5) 179) (pushH H 6 R) (pushN 6) := by
  intro k hk q hq
  have hk' : k < 6 := hk
  unfold pushH
  rw [if_pos rfl]
  simp only [wrt, shf]
  by_cases e : k = 5
  · subst e
    rw [if_pos (by omega), if_neg (by omega), Nat.add_sub_cancel_left]
  · rw [if_neg (by omega), if_pos (by omega), if_pos (by omega), show 179 * k + q + 179 = 179 * (k + 1) + q by omega]
    exact h (k + 1) (by omega) q hq
theorem mW_F0' {i : Nat → ClassId} {b : Nat → Nat} {R : St} {F : Nat → Nat → Int32} {V : Nat → Int32} {j : Nat} {v : Int32} {f f' : Nat → Int32} (h : upd f j v = f') : (mW i b R (va_up F 0 f) V).set 2 (b 2, .inl (i 0, 1074, .inl (upd (va_up F 0 f 0) j v))) = mW i b R (va_up F 0 f') V := by subst h; rfl
theorem mW_F1' {i : Nat → ClassId} {b : Nat → Nat} {R : St} {F : Nat → Nat → Int32} {V : Nat → Int32} {j : Nat} {v : Int32} {f f' : Nat → Int32} (h : upd f j v = f') : (mW i b R (va_up F 1 f) V).set 3 (b 3, .inl (i 0, 179, .inl (upd (va_up F 1 f 1) j v))) = mW i b R (va_up F 1 f') V := by subst h; rfl
theorem mX_f' {i : Nat → ClassId} {b : Nat → Nat} {F : Nat → Nat → Int32} {V : Nat → Int32} {j : Nat} {v : Int32} {f f' : Nat → Int32} (h : upd f j v = f') : (mX i b f F V).set 1 (b 1, .inl (i 0, 179, .inl (upd f j v))) = mX i b f' F V := by subst h; rfl
