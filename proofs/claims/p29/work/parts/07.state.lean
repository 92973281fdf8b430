/-! THE STATE: what a room is (columns 0..5 of reels, 6..13 of jobs, 14: numbers), the cells of a room and of the reference -/
abbrev St : Type := Nat → Nat → Int32
def setS (R : St) (c j : Nat) (v : Int32) : St := va_up R c (upd (R c) j v)
theorem setS_eq (R : St) (c j : Nat) (v : Int32) : setS R c j v c j = v := by simp [setS, va_up, upd]
theorem setS_c (R : St) {c c' : Nat} (j : Nat) (v : Int32) (h : c' ≠ c) (j' : Nat) : setS R c j v c' j' = R c' j' := by simp [setS, va_up, h]
theorem setS_j (R : St) (c : Nat) {j j' : Nat} (v : Int32) (h : j' ≠ j) : setS R c j v c j' = R c j' := by simp [setS, va_up, upd, h]
theorem setS_at (R : St) (c j : Nat) (v : Int32) (c' j' : Nat) : setS R c j v c' j' = if c' = c ∧ j' = j then v else R c' j' := by
  by_cases h1 : c' = c
  · subst h1
    by_cases h2 : j' = j
    · subst h2; simp [setS_eq]
    · simp [setS_j R c' v h2, h2]
  · simp [setS_c R j v h1, h1]
theorem setS_ss (R : St) (c j : Nat) (v v' : Int32) : setS (setS R c j v) c j v' = setS R c j v' := by
  funext a b; simp only [setS_at]; split <;> simp_all
theorem setS_comm (R : St) {c j c' j' : Nat} (v v' : Int32) (h : c ≠ c' ∨ j ≠ j') : setS (setS R c j v) c' j' v' = setS (setS R c' j' v') c j v := by
  funext a b; simp only [setS_at]; split <;> split <;> simp_all
/-- the reference's row -/
def flat (R : St) (q : Nat) : Int32 := if q < 10 then R 14 q else if q < 82 then R ((q - 10) % 6) ((q - 10) / 6) else if q = 82 then R 14 10 else R (6 + (q - 83) % 8) ((q - 83) / 8)
theorem flat_reel (R : St) {r w : Nat} (hr : r < 12) (hw : w < 6) : flat R (10 + 6 * r + w) = R w r := by
  unfold flat
  rw [if_neg (by omega), if_pos (by omega), show (10 + 6 * r + w - 10) % 6 = w by omega, show (10 + 6 * r + w - 10) / 6 = r by omega]
theorem flat_job (R : St) {j w : Nat} (hw : w < 8) : flat R (83 + 8 * j + w) = R (6 + w) j := by
  unfold flat
  rw [if_neg (by omega), if_neg (by omega), if_neg (by omega), show (83 + 8 * j + w - 83) % 8 = w by omega, show (83 + 8 * j + w - 83) / 8 = j by omega]
theorem flat_num (R : St) {k : Nat} (hk : k < 10) : flat R k = R 14 k := by
  unfold flat; rw [if_pos hk]
theorem flat_82 (R : St) : flat R 82 = R 14 10 := by
  unfold flat; simp
theorem flat_set_reel (R : St) {r w : Nat} (hr : r < 12) (hw : w < 6) (v : Int32) : upd (flat R) (10 + 6 * r + w) v = flat (setS R w r v) := by
  funext q
  simp only [upd, flat, setS_at]
  repeat' split
  all_goals first | rfl | omega | (exfalso; omega)
theorem flat_set_job (R : St) {j w : Nat} (hw : w < 8) (v : Int32) : upd (flat R) (83 + 8 * j + w) v = flat (setS R (6 + w) j v) := by
  funext q
  simp only [upd, flat, setS_at]
  repeat' split
  all_goals first | rfl | omega | (exfalso; omega)
theorem flat_set_num (R : St) {k : Nat} (hk : k < 10) (v : Int32) : upd (flat R) k v = flat (setS R 14 k v) := by
  funext q
  by_cases h : q = k
  · subst h
    rw [flat_num _ hk, setS_eq]
    simp [upd]
  · simp only [upd, if_neg h, flat]
    rw [setS_j R 14 v h, setS_c R k v (show (q - 10) % 6 ≠ 14 by omega), setS_c R k v (show 6 + (q - 83) % 8 ≠ 14 by omega), setS_j R 14 v (show 10 ≠ k by omega)]
theorem flat_set_82 (R : St) (v : Int32) : upd (flat R) 82 v = flat (setS R 14 10 v) := by
  funext q
  by_cases h : q = 82
  · subst h
    rw [flat_82, setS_eq]
    simp [upd]
  · simp only [upd, if_neg h, flat]
    by_cases h1 : q < 10
    · rw [if_pos h1, if_pos h1, setS_j R 14 v (show q ≠ 10 by omega)]
    · rw [setS_c R 10 v (show (q - 10) % 6 ≠ 14 by omega), setS_c R 10 v (show 6 + (q - 83) % 8 ≠ 14 by omega), if_neg h1, if_neg h1]
/-- the cells of a room: the room, its reels, its jobs, six columns, eight columns -/
def rW (i : Nat → ClassId) (a : Nat → Nat) (R : St) : va_W :=
  [(a 0, .inr (4, [.ref (a 1), .ref (a 2), .int (R 14 0), .int (R 14 8), .int (R 14 9), .int (R 14 1), .int (R 14 2), .int (R 14 3), .int (R 14 4), .int (R 14 5), .int (R 14 6), .int (R 14 7)])),
   (a 1, .inr (3, [.ref (a 3), .ref (a 4), .ref (a 5), .ref (a 6), .ref (a 7), .ref (a 8)])),
   (a 2, .inr (2, [.ref (a 9), .ref (a 10), .ref (a 11), .ref (a 12), .ref (a 13), .ref (a 14), .ref (a 15), .ref (a 16), .int (R 14 10)])),
   (a 3, .inl (i 0, 12, .inl (R 0))), (a 4, .inl (i 0, 12, .inl (R 1))), (a 5, .inl (i 1, 12, .inl (R 2))), (a 6, .inl (i 0, 12, .inl (R 3))), (a 7, .inl (i 0, 12, .inl (R 4))), (a 8, .inl (i 0, 12, .inl (R 5))),
   (a 9, .inl (i 0, 12, .inl (R 6))), (a 10, .inl (i 0, 12, .inl (R 7))), (a 11, .inl (i 0, 12, .inl (R 8))), (a 12, .inl (i 0, 12, .inl (R 9))), (a 13, .inl (i 0, 12, .inl (R 10))), (a 14, .inl (i 0, 12, .inl (R 11))), (a 15, .inl (i 0, 12, .inl (R 12))), (a 16, .inl (i 0, 12, .inl (R 13)))]
/-- the cells of the reference: F 0 saved, 1 aside, 2 text, 3 letter, 4 one, 5 two, 6 three; V 0 savedMany, 1 thrown, 2 length, 3 spot, 4 number, 5 commands -/
def mW (i : Nat → ClassId) (b : Nat → Nat) (R : St) (F : Nat → Nat → Int32) (V : Nat → Int32) : va_W :=
  [(b 0, .inr (6, [.ref (b 1), .ref (b 2), .int (V 0), .ref (b 3), .int (V 1), .ref (b 4), .int (V 2), .int (V 3), .int (V 4), .int (V 5), .ref (b 5), .ref (b 6), .ref (b 7), .ref (b 8)])),
   (b 1, .inl (i 0, 179, .inl (flat R))), (b 2, .inl (i 0, 1074, .inl (F 0))), (b 3, .inl (i 0, 179, .inl (F 1))), (b 4, .inl (i 0, 80, .inl (F 2))), (b 5, .inl (i 0, 48, .inl (F 3))), (b 6, .inl (i 0, 48, .inl (F 4))), (b 7, .inl (i 0, 48, .inl (F 5))), (b 8, .inl (i 0, 48, .inl (F 6)))]
section RW
variable {i : Nat → ClassId} {a : Nat → Nat} {R : St} {j : Nat} {v : Int32}
theorem rW_0 : (rW i a R).set 3 (a 3, .inl (i 0, 12, .inl (upd (R 0) j v))) = rW i a (setS R 0 j v) := rfl
theorem rW_1 : (rW i a R).set 4 (a 4, .inl (i 0, 12, .inl (upd (R 1) j v))) = rW i a (setS R 1 j v) := rfl
theorem rW_2 : (rW i a R).set 5 (a 5, .inl (i 1, 12, .inl (upd (R 2) j v))) = rW i a (setS R 2 j v) := rfl
theorem rW_3 : (rW i a R).set 6 (a 6, .inl (i 0, 12, .inl (upd (R 3) j v))) = rW i a (setS R 3 j v) := rfl
theorem rW_4 : (rW i a R).set 7 (a 7, .inl (i 0, 12, .inl (upd (R 4) j v))) = rW i a (setS R 4 j v) := rfl
theorem rW_5 : (rW i a R).set 8 (a 8, .inl (i 0, 12, .inl (upd (R 5) j v))) = rW i a (setS R 5 j v) := rfl
theorem rW_6 : (rW i a R).set 9 (a 9, .inl (i 0, 12, .inl (upd (R 6) j v))) = rW i a (setS R 6 j v) := rfl
theorem rW_7 : (rW i a R).set 10 (a 10, .inl (i 0, 12, .inl (upd (R 7) j v))) = rW i a (setS R 7 j v) := rfl
theorem rW_8 : (rW i a R).set 11 (a 11, .inl (i 0, 12, .inl (upd (R 8) j v))) = rW i a (setS R 8 j v) := rfl
theorem rW_9 : (rW i a R).set 12 (a 12, .inl (i 0, 12, .inl (upd (R 9) j v))) = rW i a (setS R 9 j v) := rfl
theorem rW_10 : (rW i a R).set 13 (a 13, .inl (i 0, 12, .inl (upd (R 10) j v))) = rW i a (setS R 10 j v) := rfl
theorem rW_11 : (rW i a R).set 14 (a 14, .inl (i 0, 12, .inl (upd (R 11) j v))) = rW i a (setS R 11 j v) := rfl
theorem rW_12 : (rW i a R).set 15 (a 15, .inl (i 0, 12, .inl (upd (R 12) j v))) = rW i a (setS R 12 j v) := rfl
theorem rW_13 : (rW i a R).set 16 (a 16, .inl (i 0, 12, .inl (upd (R 13) j v))) = rW i a (setS R 13 j v) := rfl
theorem rW_n (f : Nat) (k : Nat) (h : (f = 2 ∧ k = 0) ∨ (f = 3 ∧ k = 8) ∨ (f = 4 ∧ k = 9) ∨ (f = 5 ∧ k = 1) ∨ (f = 6 ∧ k = 2) ∨ (f = 7 ∧ k = 3) ∨ (f = 8 ∧ k = 4) ∨ (f = 9 ∧ k = 5) ∨ (f = 10 ∧ k = 6) ∨ (f = 11 ∧ k = 7)) : (rW i a R).set 0 (a 0, .inr (4, ([.ref (a 1), .ref (a 2), .int (R 14 0), .int (R 14 8), .int (R 14 9), .int (R 14 1), .int (R 14 2), .int (R 14 3), .int (R 14 4), .int (R 14 5), .int (R 14 6), .int (R 14 7)] : List Value).set f (.int v))) = rW i a (setS R 14 k v) := by
  rcases h with ⟨rfl, rfl⟩ | ⟨rfl, rfl⟩ | ⟨rfl, rfl⟩ | ⟨rfl, rfl⟩ | ⟨rfl, rfl⟩ | ⟨rfl, rfl⟩ | ⟨rfl, rfl⟩ | ⟨rfl, rfl⟩ | ⟨rfl, rfl⟩ | ⟨rfl, rfl⟩ <;> rfl
theorem rW_num : (rW i a R).set 2 (a 2, .inr (2, ([.ref (a 9), .ref (a 10), .ref (a 11), .ref (a 12), .ref (a 13), .ref (a 14), .ref (a 15), .ref (a 16), .int (R 14 10)] : List Value).set 8 (.int v))) = rW i a (setS R 14 10 v) := rfl
end RW
section MW
variable {i : Nat → ClassId} {b : Nat → Nat} {R : St} {F : Nat → Nat → Int32} {V : Nat → Int32} {j q : Nat} {v : Int32}
theorem mW_reel {r w : Nat} (hr : r < 12) (hw : w < 6) (hq : q = 10 + 6 * r + w) : (mW i b R F V).set 1 (b 1, .inl (i 0, 179, .inl (upd (flat R) q v))) = mW i b (setS R w r v) F V := by
  subst hq; rw [flat_set_reel R hr hw]; rfl
theorem mW_job {w : Nat} (hw : w < 8) (hq : q = 83 + 8 * j + w) : (mW i b R F V).set 1 (b 1, .inl (i 0, 179, .inl (upd (flat R) q v))) = mW i b (setS R (6 + w) j v) F V := by
  subst hq; rw [flat_set_job R hw]; rfl
theorem mW_n (hk : q < 10) : (mW i b R F V).set 1 (b 1, .inl (i 0, 179, .inl (upd (flat R) q v))) = mW i b (setS R 14 q v) F V := by
  rw [flat_set_num R hk]; rfl
theorem mW_82 : (mW i b R F V).set 1 (b 1, .inl (i 0, 179, .inl (upd (flat R) 82 v))) = mW i b (setS R 14 10 v) F V := by
  rw [flat_set_82 R]; rfl
theorem mW_F0 : (mW i b R F V).set 2 (b 2, .inl (i 0, 1074, .inl (upd (F 0) j v))) = mW i b R (setS F 0 j v) V := rfl
theorem mW_F1 : (mW i b R F V).set 3 (b 3, .inl (i 0, 179, .inl (upd (F 1) j v))) = mW i b R (setS F 1 j v) V := rfl
theorem mW_F2 : (mW i b R F V).set 4 (b 4, .inl (i 0, 80, .inl (upd (F 2) j v))) = mW i b R (setS F 2 j v) V := rfl
theorem mW_F3 : (mW i b R F V).set 5 (b 5, .inl (i 0, 48, .inl (upd (F 3) j v))) = mW i b R (setS F 3 j v) V := rfl
theorem mW_F4 : (mW i b R F V).set 6 (b 6, .inl (i 0, 48, .inl (upd (F 4) j v))) = mW i b R (setS F 4 j v) V := rfl
theorem mW_F5 : (mW i b R F V).set 7 (b 7, .inl (i 0, 48, .inl (upd (F 5) j v))) = mW i b R (setS F 5 j v) V := rfl
theorem mW_F6 : (mW i b R F V).set 8 (b 8, .inl (i 0, 48, .inl (upd (F 6) j v))) = mW i b R (setS F 6 j v) V := rfl
theorem mW_V (f k : Nat) (h : (f = 2 ∧ k = 0) ∨ (f = 4 ∧ k = 1) ∨ (f = 6 ∧ k = 2) ∨ (f = 7 ∧ k = 3) ∨ (f = 8 ∧ k = 4) ∨ (f = 9 ∧ k = 5)) : (mW i b R F V).set 0 (b 0, .inr (6, ([.ref (b 1), .ref (b 2), .int (V 0), .ref (b 3), .int (V 1), .ref (b 4), .int (V 2), .int (V 3), .int (V 4), .int (V 5), .ref (b 5), .ref (b 6), .ref (b 7), .ref (b 8)] : List Value).set f (.int v))) = mW i b R F (upd V k v) := by
  rcases h with ⟨rfl, rfl⟩ | ⟨rfl, rfl⟩ | ⟨rfl, rfl⟩ | ⟨rfl, rfl⟩ | ⟨rfl, rfl⟩ | ⟨rfl, rfl⟩ <;> rfl
end MW
/-! booleans -/
def bI (b : Bool) : Int32 := if b = true then 1 else 0
theorem bI_0 {b : Bool} : bI b = 0 ↔ b = false := by cases b <;> decide
theorem bI_n {b : Bool} : ¬ bI b = 0 ↔ b = true := by cases b <;> decide
theorem bI_t {b : Bool} (h : b = true) : (1 : Int32) = bI b := by subst h; rfl
theorem bI_f {b : Bool} (h : b = false) : (0 : Int32) = bI b := by subst h; rfl
theorem bI_nar (b : Bool) : narrow .boolean (.int (bI b)) = .int (bI b) := by cases b <;> rfl
theorem bI_vnar (b : Bool) : vp_nar .boolean (bI b) = bI b := by cases b <;> rfl
/-- the least number of i .. i + k - 1 with p, or -1 -/
def fst_ (p : Nat → Bool) : Nat → Nat → Int32
  | _, 0 => -1
  | i, k + 1 => if p i = true then nI i else fst_ p (i + 1) k
/-! calls of what is known whole -/
def isCtx (K : va_W → va_W) : Prop := ∃ pre suf : va_W, ∀ w, K w = pre ++ (w ++ suf)
theorem isCtx_id : isCtx (fun w => w) := ⟨[], [], fun w => by simp⟩
section ZG
variable {g : zG} {C : zC} {cc : ByteArray} {own : String} {d mc ms k n : Nat} {ws : va_W} {lv : List (Nat × Value)} {pc : Nat} {st rest : List Value}
variable {y : MethodName} {cy : ByteArray} {nl d' np idx b : Nat} {ret : FieldType} {As : List Value} {w w' : va_W} {val : Int32}
theorem z_g (hC : zOK g C cc own d mc ms) (hy : vM y cy nl (some ret) np) (hl : Cond.methodLink own idx y ∈ aw) (hdg : decode cc pc = .ok (.invokevirtual idx, 3)) (hM : Gi g y cy nl ret d' (.ref b :: As) w val w') (K : va_W → va_W) (hK : isCtx K) (hw : ws = K w) (q0 ci : Nat) {fs : List Value} {r : vw_C} (he : w[q0]? = some (b, .inr (ci, fs))) (hr : vwCl[ci]? = some r) (hR : r.1 = y.cls)
    (hn : As.length = np) (hst : st = As.reverse ++ .ref b :: rest) (hd : d' + 1 ≤ d) (hcat : (rest.map fun v => v.category).sum ≤ 8) (hk : k ≤ mc ∧ n ≤ ms)
    (kk : Z g C k n (K w') lv (pc + 3) (.int val :: rest)) : Z g C k n ws lv pc st := by
  obtain ⟨pre, suf, hKw⟩ := hK
  rw [hKw] at hw kk
  exact z_vi hC hy hl hdg hM pre suf hw q0 ci he hr hR hn hst hd hcat hk (fun r u e => by subst e; exact kk)
theorem z_gv (hC : zOK g C cc own d mc ms) (hy : vM y cy nl none np) (hl : Cond.methodLink own idx y ∈ aw) (hdg : decode cc pc = .ok (.invokevirtual idx, 3)) (hM : Gv g y cy nl d' (.ref b :: As) w w') (K : va_W → va_W) (hK : isCtx K) (hw : ws = K w) (q0 ci : Nat) {fs : List Value} {r : vw_C} (he : w[q0]? = some (b, .inr (ci, fs))) (hr : vwCl[ci]? = some r) (hR : r.1 = y.cls)
    (hn : As.length = np) (hst : st = As.reverse ++ .ref b :: rest) (hd : d' + 1 ≤ d) (hcat : (rest.map fun v => v.category).sum ≤ 8) (hk : k ≤ mc ∧ n ≤ ms)
    (kk : Z g C k n (K w') lv (pc + 3) rest) : Z g C k n ws lv pc st := by
  obtain ⟨pre, suf, hKw⟩ := hK
  rw [hKw] at hw kk
  exact z_vv hC hy hl hdg hM pre suf hw q0 ci he hr hR hn hst hd hcat hk (fun u _ => kk)
/-- a static method of numbers alone -/
theorem z_gs (hC : zOK g C cc own d mc ms) (hy : sM y cy nl (some ret) np) (hl : Cond.methodLink own idx y ∈ aw) (hdg : decode cc pc = .ok (.invokestatic idx, 3)) (hM : Gi g y cy nl ret d' As [] val [])
    (hn : As.length = np) (hst : st = As.reverse ++ rest) (hd : d' + 1 ≤ d) (hcat : (rest.map fun v => v.category).sum ≤ 8) (hk : k ≤ mc ∧ n ≤ ms)
    (kk : Z g C k n ws lv (pc + 3) (.int val :: rest)) : Z g C k n ws lv pc st :=
  z_si hC hy hl hdg hM [] ws rfl hn hst hd hcat hk (fun r u e => by subst e; exact kk)
theorem z_gsN (hC : zOK g C cc own d mc ms) (hy : sM y cy nl (some ret) np) {host : String} (hl : Cond.methodLinkNest own idx y host ∈ aN) (hdg : decode cc pc = .ok (.invokestatic idx, 3)) (hM : Gi g y cy nl ret d' As [] val [])
    (hn : As.length = np) (hst : st = As.reverse ++ rest) (hd : d' + 1 ≤ d) (hcat : (rest.map fun v => v.category).sum ≤ 8) (hk : k ≤ mc ∧ n ≤ ms)
    (kk : Z g C k n ws lv (pc + 3) (.int val :: rest)) : Z g C k n ws lv pc st :=
  z_siN hC hy hl hdg hM [] ws rfl hn hst hd hcat hk (fun r u e => by subst e; exact kk)
end ZG
