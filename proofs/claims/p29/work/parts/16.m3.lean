theorem nI_succ_of {s : Nat} (h : ¬ nI s = 0) : ∃ q, s = q + 1 := ⟨s - 1, by
  have : ¬ s = 0 := fun e => h (by rw [e]; rfl)
  omega⟩
theorem va_up_id {α : Type} (F : Nat → α) (k : Nat) : va_up F k (F k) = F := by
  funext j; simp only [va_up]; split
  · rename_i h; rw [h]
  · rfl
section Z0
variable {g : zG} {C : zC} {cc : ByteArray} {own : String} {d mc ms k n : Nat} {ws : va_W} {lv : List (Nat × Value)} {pc : Nat} {st rest : List Value}
variable {S : Type} {y : MethodName} {cy : ByteArray} {nl d' np idx b : Nat} {ret : FieldType} {As : List Value} {w : va_W} {w' : S → va_W}
theorem z_i0 (hC : zOK g C cc own d mc ms) (hy : vM y cy nl (some ret) np) (hl : Cond.methodLink own idx y ∈ aw) (hdg : decode cc pc = .ok (.invokevirtual idx, 3)) {post : Int32 → S → Prop} (hM : FI g y cy nl ret d' 0 0 (.ref b :: As) w post w') (hw : ws = w) (q0 ci : Nat) {fs : List Value} {r : vw_C} (he : w[q0]? = some (b, .inr (ci, fs))) (hr : vwCl[ci]? = some r) (hR : r.1 = y.cls)
    (hn : As.length = np) (hst : st = As.reverse ++ .ref b :: rest) (hd : d' + 1 ≤ d) (hcat : (rest.map fun v => v.category).sum ≤ 8) (hk : k ≤ mc ∧ n ≤ ms)
    (kk : ∀ (r : Int32) (u : S), post r u → Z g C k n (w' u) lv (pc + 3) (.int r :: rest)) : Z g C k n ws lv pc st :=
  z_viP hC hy hl hdg hM [] (by rw [hw, List.append_nil]) q0 ci he hr hR hn hst hd hcat hk w' (fun u => by rw [List.append_nil]) kk
theorem z_v0 (hC : zOK g C cc own d mc ms) (hy : vM y cy nl none np) (hl : Cond.methodLink own idx y ∈ aw) (hdg : decode cc pc = .ok (.invokevirtual idx, 3)) {post : S → Prop} (hM : FV g y cy nl d' 0 0 (.ref b :: As) w post w') (hw : ws = w) (q0 ci : Nat) {fs : List Value} {r : vw_C} (he : w[q0]? = some (b, .inr (ci, fs))) (hr : vwCl[ci]? = some r) (hR : r.1 = y.cls)
    (hn : As.length = np) (hst : st = As.reverse ++ .ref b :: rest) (hd : d' + 1 ≤ d) (hcat : (rest.map fun v => v.category).sum ≤ 8) (hk : k ≤ mc ∧ n ≤ ms)
    (kk : ∀ (u : S), post u → Z g C k n (w' u) lv (pc + 3) rest) : Z g C k n ws lv pc st :=
  z_vvP hC hy hl hdg hM [] (by rw [hw, List.append_nil]) q0 ci he hr hR hn hst hd hcat hk w' (fun u => by rw [List.append_nil]) kk
end Z0
theorem wrt_s0 (f h : Nat → Int32) (m : Nat) : upd (wrt f h 0 m) m (h m) = wrt f h 0 (m + 1) := by
  have := wrt_s f h 0 m
  rwa [Nat.zero_add] at this
theorem wrt_in (f h : Nat → Int32) {m j : Nat} (hj : j < m) : wrt f h 0 m j = h j := by
  simp only [wrt]; rw [if_pos ⟨Nat.zero_le _, by omega⟩, Nat.sub_zero]

/-- in how many minutes job j is done, k minutes looked at, m past -/
def mtd (n j : Nat) : Nat → Nat → St → Int32
  | 0, m, R => if R 10 j = 2 then nI m else -1
  | k + 1, m, R => if R 10 j < 2 then mtd n j k (m + 1) (minu R n).1 else if R 10 j = 2 then nI m else -1
theorem mtd_x {n j k m : Nat} {R : St} (h : k = 0 ∨ ¬ R 10 j < 2) : mtd n j k m R = if R 10 j = 2 then nI m else -1 := by
  cases k with
  | zero => rfl
  | succ k => simp [mtd, h.resolve_left (by omega)]
