def fq (ci f : Nat) (own : String) (ty : FieldType) : Prop := ∃ (r : vw_C) (ty0 : Nat → FieldType), vwCl[ci]? = some r ∧ (∀ k, k < r.2.2 → parseFieldDescriptor (r.2.1 k).2.2.1 = some (ty0 k)) ∧ (∀ a, a < r.2.2 → ∀ b, b < r.2.2 → a ≠ b → (r.2.1 a).2.1 ≠ (r.2.1 b).2.1) ∧ (r.2.1 f).2.2.2 = true ∧ (r.2.1 f).1 = own ∧ parseFieldDescriptor (r.2.1 f).2.2.1 = some ty
section ZPF
variable {g : zG} {C : zC} {cc : ByteArray} {own : String} {d mc ms k n : Nat} {ws ws' : va_W} {lv : List (Nat × Value)} {pc : Nat} {st : List Value}
theorem z_putQ (hC : zOK g C cc own d mc ms) (hm0 : (zM C).name = "<init>") {idx ci f : Nat} (hf : fl own idx ci f) {ty : FieldType} (hq : fq ci f own ty) {v : Nat} (hn : narrow ty (.ref v) = .ref v) (hfit : fits ty (.ref v) = true) (q0 : Nat) {a : Nat} {fs : List Value} (he : ws[q0]? = some (a, .inr (ci, fs))) (hl : f < fs.length) (hw : ws.set q0 (a, .inr (ci, fs.set f (.ref v))) = ws') (hdg : decode cc pc = .ok (.putfield idx, 3)) (h : Z g C k n ws' lv (pc + 3) st) : Z g C k n ws lv pc (.ref v :: .ref a :: st) := by
  obtain ⟨⟨R, T, N⟩, h1, h2, h3, h4⟩ := hf
  obtain ⟨r', ty0, p1, p2, p3, p4, p5, p6⟩ := hq
  obtain rfl : (R, T, N) = r' := Option.some.inj (h1.symm.trans p1)
  exact z_putF hC hm0 h3 ty0 p2 p3 h1 h2 h4 p4 p5 p6 hn hfit q0 he hl hw hdg h
/-- a row of references seen as another function that is the same within its length -/
theorem z_cellq (q0 : Nat) {a nn : Nat} {cA : ClassId} {f f' : Nat → Option Nat} (ha : ws[q0]? = some (a, .inl (cA, nn, .inr (.inr (.inr (.inr f)))))) (he : ∀ j, j < nn → f j = f' j) (hw : ws.set q0 (a, .inl (cA, nn, .inr (.inr (.inr (.inr f'))))) = ws') (h : Z g C k n ws' lv pc st) : Z g C k n ws lv pc st := by
  subst hw
  intro H locs ls hP hD hS hl
  refine h H locs ls ?_ (hD.set ha) hS hl
  refine hP.set hD ha ?_ (fun _ _ => rfl)
  have h1 : H[a]? = some (vp_cell cA (nn, .inr (.inr (.inr (.inr f))))) := hP q0 _ ha
  show H[a]? = some (vp_cell cA (nn, .inr (.inr (.inr (.inr f')))))
  rw [h1, vp_cell_q, vp_cell_q, arrV_congr cA (fun j hj => by rw [he j hj])]
end ZPF
def adr (l : List Nat) : Nat → Nat := fun k => l.getD k 0
/-- a new room, m reels laid -/
def lab (r : Nat) : Int32 := if r < 6 then nI (r + 1) else 0
def RI_ (m : Nat) : St := fun c r => if c = 0 ∨ c = 1 then (if r < m then lab r else 0) else if c = 5 then (if r < m then -1 else 0) else if c = 14 ∧ r = 9 then 10 else 0
theorem RI_z {c : Nat} (h : c < 14) : RI_ 0 c = fun _ => 0 := by
  funext r
  simp only [RI_, Nat.not_lt_zero, if_false, show c ≠ 14 by omega, false_and]
  split
  · rfl
  · split <;> rfl
theorem RI_s (m : Nat) : setS (setS (setS (RI_ m) 0 m (lab m)) 1 m (lab m)) 5 m (-1) = RI_ (m + 1) := by
  funext c r
  simp only [setS_at, RI_]
  by_cases h5 : c = 5
  · subst h5
    by_cases hr : r = m
    · subst hr; simp
    · have : (r < m + 1) = (r < m) := propext (by omega)
      simp [hr, this]
  · by_cases h1 : c = 1
    · subst h1
      by_cases hr : r = m
      · subst hr; simp
      · have : (r < m + 1) = (r < m) := propext (by omega)
        simp [hr, this]
    · by_cases h0 : c = 0
      · subst h0
        by_cases hr : r = m
        · subst hr; simp
        · have : (r < m + 1) = (r < m) := propext (by omega)
          simp [hr, this]
      · simp [h5, h1, h0]
def rlA (i : Nat → ClassId) (q : Nat → Nat) (R : St) : va_W := [(q 0, .inl (i 0, 12, .inl (R 0))), (q 1, .inl (i 0, 12, .inl (R 1))), (q 2, .inl (i 1, 12, .inl (R 2))), (q 3, .inl (i 0, 12, .inl (R 3))), (q 4, .inl (i 0, 12, .inl (R 4))), (q 5, .inl (i 0, 12, .inl (R 5)))]
def rl_ (i : Nat → ClassId) (b : Nat) (q : Nat → Nat) (R : St) : va_W := (b, .inr (3, [.ref (q 0), .ref (q 1), .ref (q 2), .ref (q 3), .ref (q 4), .ref (q 5)])) :: rlA i q R
def jbA (i : Nat → ClassId) (q : Nat → Nat) (R : St) : va_W := [(q 0, .inl (i 0, 12, .inl (R 6))), (q 1, .inl (i 0, 12, .inl (R 7))), (q 2, .inl (i 0, 12, .inl (R 8))), (q 3, .inl (i 0, 12, .inl (R 9))), (q 4, .inl (i 0, 12, .inl (R 10))), (q 5, .inl (i 0, 12, .inl (R 11))), (q 6, .inl (i 0, 12, .inl (R 12))), (q 7, .inl (i 0, 12, .inl (R 13)))]
def jo_ (b : Nat) (q : Nat → Nat) (R : St) : Nat × va_E := (b, .inr (2, [.ref (q 0), .ref (q 1), .ref (q 2), .ref (q 3), .ref (q 4), .ref (q 5), .ref (q 6), .ref (q 7), .int (R 14 10)]))
def jb_ (i : Nat → ClassId) (b : Nat) (q : Nat → Nat) (R : St) : va_W := jo_ b q R :: jbA i q R

set_option maxRecDepth 100000 in
set_option maxHeartbeats 4000000 in
theorem i_text {g : zG} {b : Nat} : FV (S := Nat) g yX0_init cX0_init 1 1 1 80 [.ref b] ([(b, .inr (0, [.null, .int 0, .int 0, .int 0, .int 0, .int 0, .int 0, .int 0]))]) (fun _ => True) (fun q => tW g.2 (adr [b, q]) (fun _ => 0) (fun _ => 0)) := by
  refine fv_entry (by decide) (Nat.le_of_ble_eq_true rfl) (fun C hC hm hn0 hE => ?_)
  refine z_aln (pc := 0) hC 0 rfl dX0_init_0 ?_
  refine z_objInit (pc := 1) hC (in_aw 194 (by decide +kernel) (by decide +kernel)) (by decide) dX0_init_1 (Nat.le_of_ble_eq_true rfl) ?_
  refine z_aln (pc := 4) hC 0 rfl dX0_init_4 ?_
  refine z_bipush (pc := 5) (v := nI 80) hC dX0_init_5 (by decide) ?_
  refine z_newa (pc := 7) hC 0 rfl (fun _ _ h => h) rfl aw_int dX0_init_7 80 rfl (by decide) (by decide) ⟨Nat.le_of_ble_eq_true rfl, Nat.le_of_ble_eq_true rfl⟩ (a0 := (80, .inl (fun _ => 0))) (fun _ => rfl) (fun q => ?_)
  refine z_w (ws' := [(b, .inr (0, [.null, .int 0, .int 0, .int 0, .int 0, .int 0, .int 0, .int 0])), (q, .inl (g.2 0, 80, .inl (fun _ => 0)))]) rfl ?_
  refine z_putQ (pc := 9) (ws' := [(b, .inr (0, [.ref q, .int 0, .int 0, .int 0, .int 0, .int 0, .int 0, .int 0])), (q, .inl (g.2 0, 80, .inl (fun _ => 0)))]) hC hn0 fX0_9 (⟨(RX0, TX0, 8), tyX0, rfl, tyX0_ok, nmX0, rfl, rfl, by decide +kernel⟩ : fq 0 0 RX0 (.array .int)) rfl rfl 0 rfl (Nat.le_of_ble_eq_true rfl) rfl dX0_init_9 ?_
  refine z_aln (pc := 12) hC 0 rfl dX0_init_12 ?_
  refine z_iconst (pc := 13) (v := 0) hC dX0_init_13 (by decide) ?_
  refine z_put (pc := 14) (ws' := [(b, .inr (0, [.ref q, .int 0, .int 0, .int 0, .int 0, .int 0, .int 0, .int 0])), (q, .inl (g.2 0, 80, .inl (fun _ => 0)))]) hC fX0_15 p0_1 0 rfl (Nat.le_of_ble_eq_true rfl) rfl dX0_init_14 ?_
  refine z_aln (pc := 17) hC 0 rfl dX0_init_17 ?_
  refine z_iconst (pc := 18) (v := 0) hC dX0_init_18 (by decide) ?_
  refine z_put (pc := 19) (ws' := [(b, .inr (0, [.ref q, .int 0, .int 0, .int 0, .int 0, .int 0, .int 0, .int 0])), (q, .inl (g.2 0, 80, .inl (fun _ => 0)))]) hC fX0_19 p0_2 0 rfl (Nat.le_of_ble_eq_true rfl) rfl dX0_init_19 ?_
  refine z_aln (pc := 22) hC 0 rfl dX0_init_22 ?_
  refine z_iconst (pc := 23) (v := 0) hC dX0_init_23 (by decide) ?_
  refine z_put (pc := 24) (ws' := [(b, .inr (0, [.ref q, .int 0, .int 0, .int 0, .int 0, .int 0, .int 0, .int 0])), (q, .inl (g.2 0, 80, .inl (fun _ => 0)))]) hC fX0_22 p0_3 0 rfl (Nat.le_of_ble_eq_true rfl) rfl dX0_init_24 ?_
  refine z_aln (pc := 27) hC 0 rfl dX0_init_27 ?_
  refine z_iconst (pc := 28) (v := 0) hC dX0_init_28 (by decide) ?_
  refine z_put (pc := 29) (ws' := [(b, .inr (0, [.ref q, .int 0, .int 0, .int 0, .int 0, .int 0, .int 0, .int 0])), (q, .inl (g.2 0, 80, .inl (fun _ => 0)))]) hC fX0_25 p0_4 0 rfl (Nat.le_of_ble_eq_true rfl) rfl dX0_init_29 ?_
  refine z_aln (pc := 32) hC 0 rfl dX0_init_32 ?_
  refine z_iconst (pc := 33) (v := 0) hC dX0_init_33 (by decide) ?_
  refine z_put (pc := 34) (ws' := [(b, .inr (0, [.ref q, .int 0, .int 0, .int 0, .int 0, .int 0, .int 0, .int 0])), (q, .inl (g.2 0, 80, .inl (fun _ => 0)))]) hC fX0_28 p0_5 0 rfl (Nat.le_of_ble_eq_true rfl) rfl dX0_init_34 ?_
  refine z_aln (pc := 37) hC 0 rfl dX0_init_37 ?_
  refine z_iconst (pc := 38) (v := 0) hC dX0_init_38 (by decide) ?_
  refine z_put (pc := 39) (ws' := [(b, .inr (0, [.ref q, .int 0, .int 0, .int 0, .int 0, .int 0, .int 0, .int 0])), (q, .inl (g.2 0, 80, .inl (fun _ => 0)))]) hC fX0_31 p0_6 0 rfl (Nat.le_of_ble_eq_true rfl) rfl dX0_init_39 ?_
  refine z_aln (pc := 42) hC 0 rfl dX0_init_42 ?_
  refine z_iconst (pc := 43) (v := 0) hC dX0_init_43 (by decide) ?_
  refine z_put (pc := 44) (ws' := [(b, .inr (0, [.ref q, .int 0, .int 0, .int 0, .int 0, .int 0, .int 0, .int 0])), (q, .inl (g.2 0, 80, .inl (fun _ => 0)))]) hC fX0_34 p0_7 0 rfl (Nat.le_of_ble_eq_true rfl) rfl dX0_init_44 ?_
  exact hE _ _ q _ _ _ dX0_init_47 trivial rfl (Nat.le_of_ble_eq_true rfl) (Nat.le_of_ble_eq_true rfl)

set_option maxRecDepth 100000 in
set_option maxHeartbeats 4000000 in
theorem i_jobs {g : zG} {b : Nat} : FV (S := Nat → Nat) g yX2_init cX2_init 1 1 8 96 [.ref b] ([(b, .inr (2, [.null, .null, .null, .null, .null, .null, .null, .null, .int 0]))]) (fun _ => True) (fun q => jb_ g.2 b q (RI_ 12)) := by
  refine fv_entry (by decide) (Nat.le_of_ble_eq_true rfl) (fun C hC hm hn0 hE => ?_)
  refine z_aln (pc := 0) hC 0 rfl dX2_init_0 ?_
  refine z_objInit (pc := 1) hC (in_aw 74 (by decide +kernel) (by decide +kernel)) (by decide) dX2_init_1 (Nat.le_of_ble_eq_true rfl) ?_
  refine z_aln (pc := 4) hC 0 rfl dX2_init_4 ?_
  refine z_bipush (pc := 5) (v := nI 12) hC dX2_init_5 (by decide) ?_
  refine z_newa (pc := 7) hC 0 rfl (fun _ _ h => h) rfl aw_int dX2_init_7 12 rfl (by decide) (by decide) ⟨Nat.le_of_ble_eq_true rfl, Nat.le_of_ble_eq_true rfl⟩ (a0 := (12, .inl (fun _ => 0))) (fun _ => rfl) (fun q0 => ?_)
  refine z_w (ws' := [(b, .inr (2, [.null, .null, .null, .null, .null, .null, .null, .null, .int 0])), (q0, .inl (g.2 0, 12, .inl (fun _ => 0)))]) rfl ?_
  refine z_putQ (pc := 9) (ws' := [(b, .inr (2, [.ref q0, .null, .null, .null, .null, .null, .null, .null, .int 0])), (q0, .inl (g.2 0, 12, .inl (fun _ => 0)))]) hC hn0 fX2_9 (⟨(RX2, TX2, 9), tyX2, rfl, tyX2_ok, nmX2, rfl, rfl, by decide +kernel⟩ : fq 2 0 RX2 (.array .int)) rfl rfl 0 rfl (Nat.le_of_ble_eq_true rfl) rfl dX2_init_9 ?_
  refine z_aln (pc := 12) hC 0 rfl dX2_init_12 ?_
  refine z_bipush (pc := 13) (v := nI 12) hC dX2_init_13 (by decide) ?_
  refine z_newa (pc := 15) hC 0 rfl (fun _ _ h => h) rfl aw_int dX2_init_15 12 rfl (by decide) (by decide) ⟨Nat.le_of_ble_eq_true rfl, Nat.le_of_ble_eq_true rfl⟩ (a0 := (12, .inl (fun _ => 0))) (fun _ => rfl) (fun q1 => ?_)
  refine z_w (ws' := [(b, .inr (2, [.ref q0, .null, .null, .null, .null, .null, .null, .null, .int 0])), (q0, .inl (g.2 0, 12, .inl (fun _ => 0))), (q1, .inl (g.2 0, 12, .inl (fun _ => 0)))]) rfl ?_
  refine z_putQ (pc := 17) (ws' := [(b, .inr (2, [.ref q0, .ref q1, .null, .null, .null, .null, .null, .null, .int 0])), (q0, .inl (g.2 0, 12, .inl (fun _ => 0))), (q1, .inl (g.2 0, 12, .inl (fun _ => 0)))]) hC hn0 fX2_15 (⟨(RX2, TX2, 9), tyX2, rfl, tyX2_ok, nmX2, rfl, rfl, by decide +kernel⟩ : fq 2 1 RX2 (.array .int)) rfl rfl 0 rfl (Nat.le_of_ble_eq_true rfl) rfl dX2_init_17 ?_
  refine z_aln (pc := 20) hC 0 rfl dX2_init_20 ?_
  refine z_bipush (pc := 21) (v := nI 12) hC dX2_init_21 (by decide) ?_
  refine z_newa (pc := 23) hC 0 rfl (fun _ _ h => h) rfl aw_int dX2_init_23 12 rfl (by decide) (by decide) ⟨Nat.le_of_ble_eq_true rfl, Nat.le_of_ble_eq_true rfl⟩ (a0 := (12, .inl (fun _ => 0))) (fun _ => rfl) (fun q2 => ?_)
  refine z_w (ws' := [(b, .inr (2, [.ref q0, .ref q1, .null, .null, .null, .null, .null, .null, .int 0])), (q0, .inl (g.2 0, 12, .inl (fun _ => 0))), (q1, .inl (g.2 0, 12, .inl (fun _ => 0))), (q2, .inl (g.2 0, 12, .inl (fun _ => 0)))]) rfl ?_
  refine z_putQ (pc := 25) (ws' := [(b, .inr (2, [.ref q0, .ref q1, .ref q2, .null, .null, .null, .null, .null, .int 0])), (q0, .inl (g.2 0, 12, .inl (fun _ => 0))), (q1, .inl (g.2 0, 12, .inl (fun _ => 0))), (q2, .inl (g.2 0, 12, .inl (fun _ => 0)))]) hC hn0 fX2_18 (⟨(RX2, TX2, 9), tyX2, rfl, tyX2_ok, nmX2, rfl, rfl, by decide +kernel⟩ : fq 2 2 RX2 (.array .int)) rfl rfl 0 rfl (Nat.le_of_ble_eq_true rfl) rfl dX2_init_25 ?_
  refine z_aln (pc := 28) hC 0 rfl dX2_init_28 ?_
  refine z_bipush (pc := 29) (v := nI 12) hC dX2_init_29 (by decide) ?_
  refine z_newa (pc := 31) hC 0 rfl (fun _ _ h => h) rfl aw_int dX2_init_31 12 rfl (by decide) (by decide) ⟨Nat.le_of_ble_eq_true rfl, Nat.le_of_ble_eq_true rfl⟩ (a0 := (12, .inl (fun _ => 0))) (fun _ => rfl) (fun q3 => ?_)
  refine z_w (ws' := [(b, .inr (2, [.ref q0, .ref q1, .ref q2, .null, .null, .null, .null, .null, .int 0])), (q0, .inl (g.2 0, 12, .inl (fun _ => 0))), (q1, .inl (g.2 0, 12, .inl (fun _ => 0))), (q2, .inl (g.2 0, 12, .inl (fun _ => 0))), (q3, .inl (g.2 0, 12, .inl (fun _ => 0)))]) rfl ?_
  refine z_putQ (pc := 33) (ws' := [(b, .inr (2, [.ref q0, .ref q1, .ref q2, .ref q3, .null, .null, .null, .null, .int 0])), (q0, .inl (g.2 0, 12, .inl (fun _ => 0))), (q1, .inl (g.2 0, 12, .inl (fun _ => 0))), (q2, .inl (g.2 0, 12, .inl (fun _ => 0))), (q3, .inl (g.2 0, 12, .inl (fun _ => 0)))]) hC hn0 fX2_21 (⟨(RX2, TX2, 9), tyX2, rfl, tyX2_ok, nmX2, rfl, rfl, by decide +kernel⟩ : fq 2 3 RX2 (.array .int)) rfl rfl 0 rfl (Nat.le_of_ble_eq_true rfl) rfl dX2_init_33 ?_
  refine z_aln (pc := 36) hC 0 rfl dX2_init_36 ?_
  refine z_bipush (pc := 37) (v := nI 12) hC dX2_init_37 (by decide) ?_
  refine z_newa (pc := 39) hC 0 rfl (fun _ _ h => h) rfl aw_int dX2_init_39 12 rfl (by decide) (by decide) ⟨Nat.le_of_ble_eq_true rfl, Nat.le_of_ble_eq_true rfl⟩ (a0 := (12, .inl (fun _ => 0))) (fun _ => rfl) (fun q4 => ?_)
  refine z_w (ws' := [(b, .inr (2, [.ref q0, .ref q1, .ref q2, .ref q3, .null, .null, .null, .null, .int 0])), (q0, .inl (g.2 0, 12, .inl (fun _ => 0))), (q1, .inl (g.2 0, 12, .inl (fun _ => 0))), (q2, .inl (g.2 0, 12, .inl (fun _ => 0))), (q3, .inl (g.2 0, 12, .inl (fun _ => 0))), (q4, .inl (g.2 0, 12, .inl (fun _ => 0)))]) rfl ?_
  refine z_putQ (pc := 41) (ws' := [(b, .inr (2, [.ref q0, .ref q1, .ref q2, .ref q3, .ref q4, .null, .null, .null, .int 0])), (q0, .inl (g.2 0, 12, .inl (fun _ => 0))), (q1, .inl (g.2 0, 12, .inl (fun _ => 0))), (q2, .inl (g.2 0, 12, .inl (fun _ => 0))), (q3, .inl (g.2 0, 12, .inl (fun _ => 0))), (q4, .inl (g.2 0, 12, .inl (fun _ => 0)))]) hC hn0 fX2_24 (⟨(RX2, TX2, 9), tyX2, rfl, tyX2_ok, nmX2, rfl, rfl, by decide +kernel⟩ : fq 2 4 RX2 (.array .int)) rfl rfl 0 rfl (Nat.le_of_ble_eq_true rfl) rfl dX2_init_41 ?_
  refine z_aln (pc := 44) hC 0 rfl dX2_init_44 ?_
  refine z_bipush (pc := 45) (v := nI 12) hC dX2_init_45 (by decide) ?_
  refine z_newa (pc := 47) hC 0 rfl (fun _ _ h => h) rfl aw_int dX2_init_47 12 rfl (by decide) (by decide) ⟨Nat.le_of_ble_eq_true rfl, Nat.le_of_ble_eq_true rfl⟩ (a0 := (12, .inl (fun _ => 0))) (fun _ => rfl) (fun q5 => ?_)
  refine z_w (ws' := [(b, .inr (2, [.ref q0, .ref q1, .ref q2, .ref q3, .ref q4, .null, .null, .null, .int 0])), (q0, .inl (g.2 0, 12, .inl (fun _ => 0))), (q1, .inl (g.2 0, 12, .inl (fun _ => 0))), (q2, .inl (g.2 0, 12, .inl (fun _ => 0))), (q3, .inl (g.2 0, 12, .inl (fun _ => 0))), (q4, .inl (g.2 0, 12, .inl (fun _ => 0))), (q5, .inl (g.2 0, 12, .inl (fun _ => 0)))]) rfl ?_
  refine z_putQ (pc := 49) (ws' := [(b, .inr (2, [.ref q0, .ref q1, .ref q2, .ref q3, .ref q4, .ref q5, .null, .null, .int 0])), (q0, .inl (g.2 0, 12, .inl (fun _ => 0))), (q1, .inl (g.2 0, 12, .inl (fun _ => 0))), (q2, .inl (g.2 0, 12, .inl (fun _ => 0))), (q3, .inl (g.2 0, 12, .inl (fun _ => 0))), (q4, .inl (g.2 0, 12, .inl (fun _ => 0))), (q5, .inl (g.2 0, 12, .inl (fun _ => 0)))]) hC hn0 fX2_27 (⟨(RX2, TX2, 9), tyX2, rfl, tyX2_ok, nmX2, rfl, rfl, by decide +kernel⟩ : fq 2 5 RX2 (.array .int)) rfl rfl 0 rfl (Nat.le_of_ble_eq_true rfl) rfl dX2_init_49 ?_
  refine z_aln (pc := 52) hC 0 rfl dX2_init_52 ?_
  refine z_bipush (pc := 53) (v := nI 12) hC dX2_init_53 (by decide) ?_
  refine z_newa (pc := 55) hC 0 rfl (fun _ _ h => h) rfl aw_int dX2_init_55 12 rfl (by decide) (by decide) ⟨Nat.le_of_ble_eq_true rfl, Nat.le_of_ble_eq_true rfl⟩ (a0 := (12, .inl (fun _ => 0))) (fun _ => rfl) (fun q6 => ?_)
  refine z_w (ws' := [(b, .inr (2, [.ref q0, .ref q1, .ref q2, .ref q3, .ref q4, .ref q5, .null, .null, .int 0])), (q0, .inl (g.2 0, 12, .inl (fun _ => 0))), (q1, .inl (g.2 0, 12, .inl (fun _ => 0))), (q2, .inl (g.2 0, 12, .inl (fun _ => 0))), (q3, .inl (g.2 0, 12, .inl (fun _ => 0))), (q4, .inl (g.2 0, 12, .inl (fun _ => 0))), (q5, .inl (g.2 0, 12, .inl (fun _ => 0))), (q6, .inl (g.2 0, 12, .inl (fun _ => 0)))]) rfl ?_
  refine z_putQ (pc := 57) (ws' := [(b, .inr (2, [.ref q0, .ref q1, .ref q2, .ref q3, .ref q4, .ref q5, .ref q6, .null, .int 0])), (q0, .inl (g.2 0, 12, .inl (fun _ => 0))), (q1, .inl (g.2 0, 12, .inl (fun _ => 0))), (q2, .inl (g.2 0, 12, .inl (fun _ => 0))), (q3, .inl (g.2 0, 12, .inl (fun _ => 0))), (q4, .inl (g.2 0, 12, .inl (fun _ => 0))), (q5, .inl (g.2 0, 12, .inl (fun _ => 0))), (q6, .inl (g.2 0, 12, .inl (fun _ => 0)))]) hC hn0 fX2_30 (⟨(RX2, TX2, 9), tyX2, rfl, tyX2_ok, nmX2, rfl, rfl, by decide +kernel⟩ : fq 2 6 RX2 (.array .int)) rfl rfl 0 rfl (Nat.le_of_ble_eq_true rfl) rfl dX2_init_57 ?_
  refine z_aln (pc := 60) hC 0 rfl dX2_init_60 ?_
  refine z_bipush (pc := 61) (v := nI 12) hC dX2_init_61 (by decide) ?_
  refine z_newa (pc := 63) hC 0 rfl (fun _ _ h => h) rfl aw_int dX2_init_63 12 rfl (by decide) (by decide) ⟨Nat.le_of_ble_eq_true rfl, Nat.le_of_ble_eq_true rfl⟩ (a0 := (12, .inl (fun _ => 0))) (fun _ => rfl) (fun q7 => ?_)
  refine z_w (ws' := [(b, .inr (2, [.ref q0, .ref q1, .ref q2, .ref q3, .ref q4, .ref q5, .ref q6, .null, .int 0])), (q0, .inl (g.2 0, 12, .inl (fun _ => 0))), (q1, .inl (g.2 0, 12, .inl (fun _ => 0))), (q2, .inl (g.2 0, 12, .inl (fun _ => 0))), (q3, .inl (g.2 0, 12, .inl (fun _ => 0))), (q4, .inl (g.2 0, 12, .inl (fun _ => 0))), (q5, .inl (g.2 0, 12, .inl (fun _ => 0))), (q6, .inl (g.2 0, 12, .inl (fun _ => 0))), (q7, .inl (g.2 0, 12, .inl (fun _ => 0)))]) rfl ?_
  refine z_putQ (pc := 65) (ws' := [(b, .inr (2, [.ref q0, .ref q1, .ref q2, .ref q3, .ref q4, .ref q5, .ref q6, .ref q7, .int 0])), (q0, .inl (g.2 0, 12, .inl (fun _ => 0))), (q1, .inl (g.2 0, 12, .inl (fun _ => 0))), (q2, .inl (g.2 0, 12, .inl (fun _ => 0))), (q3, .inl (g.2 0, 12, .inl (fun _ => 0))), (q4, .inl (g.2 0, 12, .inl (fun _ => 0))), (q5, .inl (g.2 0, 12, .inl (fun _ => 0))), (q6, .inl (g.2 0, 12, .inl (fun _ => 0))), (q7, .inl (g.2 0, 12, .inl (fun _ => 0)))]) hC hn0 fX2_33 (⟨(RX2, TX2, 9), tyX2, rfl, tyX2_ok, nmX2, rfl, rfl, by decide +kernel⟩ : fq 2 7 RX2 (.array .int)) rfl rfl 0 rfl (Nat.le_of_ble_eq_true rfl) rfl dX2_init_65 ?_
  refine z_aln (pc := 68) hC 0 rfl dX2_init_68 ?_
  refine z_iconst (pc := 69) (v := 0) hC dX2_init_69 (by decide) ?_
  refine z_put (pc := 70) (ws' := [(b, .inr (2, [.ref q0, .ref q1, .ref q2, .ref q3, .ref q4, .ref q5, .ref q6, .ref q7, .int 0])), (q0, .inl (g.2 0, 12, .inl (fun _ => 0))), (q1, .inl (g.2 0, 12, .inl (fun _ => 0))), (q2, .inl (g.2 0, 12, .inl (fun _ => 0))), (q3, .inl (g.2 0, 12, .inl (fun _ => 0))), (q4, .inl (g.2 0, 12, .inl (fun _ => 0))), (q5, .inl (g.2 0, 12, .inl (fun _ => 0))), (q6, .inl (g.2 0, 12, .inl (fun _ => 0))), (q7, .inl (g.2 0, 12, .inl (fun _ => 0)))]) hC fX2_36 p2_8 0 rfl (Nat.le_of_ble_eq_true rfl) rfl dX2_init_70 ?_
  exact hE _ _ (adr [q0, q1, q2, q3, q4, q5, q6, q7]) _ _ _ dX2_init_73 trivial rfl (Nat.le_of_ble_eq_true rfl) (Nat.le_of_ble_eq_true rfl)

set_option maxRecDepth 100000 in
set_option maxHeartbeats 4000000 in
theorem i_reels {g : zG} {b : Nat} : FV (S := Nat → Nat) g yX3_init cX3_init 3 1 6 72 [.ref b] ([(b, .inr (3, [.null, .null, .null, .null, .null, .null]))]) (fun _ => True) (fun q => rl_ g.2 b q (RI_ 12)) := by
  refine fv_entry (by decide) (Nat.le_of_ble_eq_true rfl) (fun C hC hm hn0 hE => ?_)
  have loop : ∀ (q : Nat → Nat) (k m : Nat), m + k = 12 → Z g C 6 72 (rl_ g.2 b q (RI_ m)) [(1, .int (nI m)), (0, .ref b)] 54 [] := by
    intro q k
    induction k with
    | zero =>
      intro m hk
      refine z_iln (pc := 54) hC 0 rfl dX3_init_54 ?_
      refine z_bipush (pc := 55) (v := nI 12) hC dX3_init_55 (by decide) ?_
      refine z_icge (pc := 57) hC 101 (by decide) dX3_init_57 (fun c57 => ?_) (fun c57 => absurd (nI_le (by omega) (by omega)) c57)
      exact hE _ _ q _ _ _ dX3_init_101 trivial (by rw [show m = 12 by omega]) (Nat.le_of_ble_eq_true rfl) (Nat.le_of_ble_eq_true rfl)
    | succ k ih =>
      intro m hk
      refine z_iln (pc := 54) hC 0 rfl dX3_init_54 ?_
      refine z_bipush (pc := 55) (v := nI 12) hC dX3_init_55 (by decide) ?_
      refine z_icge (pc := 57) hC 101 (by decide) dX3_init_57 (fun c57 => absurd c57 (nI_ge (by omega) (by omega))) (fun c57 => ?_)
      refine z_iln (pc := 60) hC 0 rfl dX3_init_60 ?_
      refine z_bipush (pc := 61) (v := nI 6) hC dX3_init_61 (by decide) ?_
      refine z_icge (pc := 63) hC 72 (by decide) dX3_init_63 (fun c63 => ?_) (fun c63 => ?_)
      · have h6 : ¬ m < 6 := fun z => absurd ((nI_leI (by omega) (by omega)).mp c63) (by omega)
        refine z_iconst (pc := 72) (v := 0) hC dX3_init_72 (by decide) ?_
        refine z_is_ (y := lab m) (if_neg h6).symm ?_
        refine z_isn (pc := 73) (lv' := [(2, .int (lab m)), (1, .int (nI m)), (0, .ref b)]) hC hm (by decide) rfl dX3_init_73 ?_
        refine z_aln (pc := 74) hC 2 rfl dX3_init_74 ?_
        refine z_get (pc := 75) hC fX3_9 0 rfl rfl dX3_init_75 ?_
        refine z_iln (pc := 78) hC 1 rfl dX3_init_78 ?_
        refine z_iln (pc := 79) hC 0 rfl dX3_init_79 ?_
        refine z_iast (pc := 80) (ws' := rl_ g.2 b q (setS (RI_ m) 0 m (lab m))) hC 1 rfl dX3_init_80 m rfl (by omega) (by decide) rfl ?_
        refine z_aln (pc := 81) hC 2 rfl dX3_init_81 ?_
        refine z_get (pc := 82) hC fX3_15 0 rfl rfl dX3_init_82 ?_
        refine z_iln (pc := 85) hC 1 rfl dX3_init_85 ?_
        refine z_iln (pc := 86) hC 0 rfl dX3_init_86 ?_
        refine z_iast (pc := 87) (ws' := rl_ g.2 b q (setS (setS (RI_ m) 0 m (lab m)) 1 m (lab m))) hC 2 rfl dX3_init_87 m rfl (by omega) (by decide) rfl ?_
        refine z_aln (pc := 88) hC 2 rfl dX3_init_88 ?_
        refine z_get (pc := 89) hC fX3_28 0 rfl rfl dX3_init_89 ?_
        refine z_iln (pc := 92) hC 1 rfl dX3_init_92 ?_
        refine z_iconst (pc := 93) (v := -1) hC dX3_init_93 (by decide) ?_
        refine z_iast (pc := 94) (ws' := rl_ g.2 b q (setS (setS (setS (RI_ m) 0 m (lab m)) 1 m (lab m)) 5 m (-1))) hC 6 rfl dX3_init_94 m rfl (by omega) (by decide) rfl ?_
        refine z_iinc (pc := 95) (v := nI (m + 1)) (j := 1) (lv' := [(1, .int (nI (m + 1))), (2, .int (lab m)), (0, .ref b)]) hC hm (by decide) rfl (up_step m) rfl dX3_init_95 ?_
        refine z_goto (pc := 98) hC 54 (by decide) dX3_init_98 ?_
        refine z_w (ws' := rl_ g.2 b q (RI_ (m + 1))) (congrArg (rl_ g.2 b q) (RI_s m)) ?_
        refine z_lv [0, 2] rfl ?_
        exact ih (m + 1) (by omega)
      · have h6 : m < 6 := Nat.lt_of_not_le (fun z => c63 ((nI_leI (by omega) (by omega)).mpr z))
        refine z_iln (pc := 66) hC 0 rfl dX3_init_66 ?_
        refine z_iconst (pc := 67) (v := 1) hC dX3_init_67 (by decide) ?_
        refine z_iadd (pc := 68) (v := nI (m + 1)) hC (nI_1 m) dX3_init_68 ?_
        refine z_goto (pc := 69) hC 73 (by decide) dX3_init_69 ?_
        refine z_is_ (y := lab m) (if_pos h6).symm ?_
        refine z_isn (pc := 73) (lv' := [(2, .int (lab m)), (1, .int (nI m)), (0, .ref b)]) hC hm (by decide) rfl dX3_init_73 ?_
        refine z_aln (pc := 74) hC 2 rfl dX3_init_74 ?_
        refine z_get (pc := 75) hC fX3_9 0 rfl rfl dX3_init_75 ?_
        refine z_iln (pc := 78) hC 1 rfl dX3_init_78 ?_
        refine z_iln (pc := 79) hC 0 rfl dX3_init_79 ?_
        refine z_iast (pc := 80) (ws' := rl_ g.2 b q (setS (RI_ m) 0 m (lab m))) hC 1 rfl dX3_init_80 m rfl (by omega) (by decide) rfl ?_
        refine z_aln (pc := 81) hC 2 rfl dX3_init_81 ?_
        refine z_get (pc := 82) hC fX3_15 0 rfl rfl dX3_init_82 ?_
        refine z_iln (pc := 85) hC 1 rfl dX3_init_85 ?_
        refine z_iln (pc := 86) hC 0 rfl dX3_init_86 ?_
        refine z_iast (pc := 87) (ws' := rl_ g.2 b q (setS (setS (RI_ m) 0 m (lab m)) 1 m (lab m))) hC 2 rfl dX3_init_87 m rfl (by omega) (by decide) rfl ?_
        refine z_aln (pc := 88) hC 2 rfl dX3_init_88 ?_
        refine z_get (pc := 89) hC fX3_28 0 rfl rfl dX3_init_89 ?_
        refine z_iln (pc := 92) hC 1 rfl dX3_init_92 ?_
        refine z_iconst (pc := 93) (v := -1) hC dX3_init_93 (by decide) ?_
        refine z_iast (pc := 94) (ws' := rl_ g.2 b q (setS (setS (setS (RI_ m) 0 m (lab m)) 1 m (lab m)) 5 m (-1))) hC 6 rfl dX3_init_94 m rfl (by omega) (by decide) rfl ?_
        refine z_iinc (pc := 95) (v := nI (m + 1)) (j := 1) (lv' := [(1, .int (nI (m + 1))), (2, .int (lab m)), (0, .ref b)]) hC hm (by decide) rfl (up_step m) rfl dX3_init_95 ?_
        refine z_goto (pc := 98) hC 54 (by decide) dX3_init_98 ?_
        refine z_w (ws' := rl_ g.2 b q (RI_ (m + 1))) (congrArg (rl_ g.2 b q) (RI_s m)) ?_
        refine z_lv [0, 2] rfl ?_
        exact ih (m + 1) (by omega)
  refine z_aln (pc := 0) hC 0 rfl dX3_init_0 ?_
  refine z_objInit (pc := 1) hC (in_aw 35 (by decide +kernel) (by decide +kernel)) (by decide) dX3_init_1 (Nat.le_of_ble_eq_true rfl) ?_
  refine z_aln (pc := 4) hC 0 rfl dX3_init_4 ?_
  refine z_bipush (pc := 5) (v := nI 12) hC dX3_init_5 (by decide) ?_
  refine z_newa (pc := 7) hC 0 rfl (fun _ _ h => h) rfl aw_int dX3_init_7 12 rfl (by decide) (by decide) ⟨Nat.le_of_ble_eq_true rfl, Nat.le_of_ble_eq_true rfl⟩ (a0 := (12, .inl (fun _ => 0))) (fun _ => rfl) (fun q0 => ?_)
  refine z_w (ws' := [(b, .inr (3, [.null, .null, .null, .null, .null, .null])), (q0, .inl (g.2 0, 12, .inl (fun _ => 0)))]) rfl ?_
  refine z_putQ (pc := 9) (ws' := [(b, .inr (3, [.ref q0, .null, .null, .null, .null, .null])), (q0, .inl (g.2 0, 12, .inl (fun _ => 0)))]) hC hn0 fX3_9 (⟨(RX3, TX3, 6), tyX3, rfl, tyX3_ok, nmX3, rfl, rfl, by decide +kernel⟩ : fq 3 0 RX3 (.array .int)) rfl rfl 0 rfl (Nat.le_of_ble_eq_true rfl) rfl dX3_init_9 ?_
  refine z_aln (pc := 12) hC 0 rfl dX3_init_12 ?_
  refine z_bipush (pc := 13) (v := nI 12) hC dX3_init_13 (by decide) ?_
  refine z_newa (pc := 15) hC 0 rfl (fun _ _ h => h) rfl aw_int dX3_init_15 12 rfl (by decide) (by decide) ⟨Nat.le_of_ble_eq_true rfl, Nat.le_of_ble_eq_true rfl⟩ (a0 := (12, .inl (fun _ => 0))) (fun _ => rfl) (fun q1 => ?_)
  refine z_w (ws' := [(b, .inr (3, [.ref q0, .null, .null, .null, .null, .null])), (q0, .inl (g.2 0, 12, .inl (fun _ => 0))), (q1, .inl (g.2 0, 12, .inl (fun _ => 0)))]) rfl ?_
  refine z_putQ (pc := 17) (ws' := [(b, .inr (3, [.ref q0, .ref q1, .null, .null, .null, .null])), (q0, .inl (g.2 0, 12, .inl (fun _ => 0))), (q1, .inl (g.2 0, 12, .inl (fun _ => 0)))]) hC hn0 fX3_15 (⟨(RX3, TX3, 6), tyX3, rfl, tyX3_ok, nmX3, rfl, rfl, by decide +kernel⟩ : fq 3 1 RX3 (.array .int)) rfl rfl 0 rfl (Nat.le_of_ble_eq_true rfl) rfl dX3_init_17 ?_
  refine z_aln (pc := 20) hC 0 rfl dX3_init_20 ?_
  refine z_bipush (pc := 21) (v := nI 12) hC dX3_init_21 (by decide) ?_
  refine z_newa (pc := 23) hC 1 rfl (fun _ _ h => h) rfl aw_bool dX3_init_23 12 rfl (by decide) (by decide) ⟨Nat.le_of_ble_eq_true rfl, Nat.le_of_ble_eq_true rfl⟩ (a0 := (12, .inl (fun _ => 0))) (fun _ => rfl) (fun q2 => ?_)
  refine z_w (ws' := [(b, .inr (3, [.ref q0, .ref q1, .null, .null, .null, .null])), (q0, .inl (g.2 0, 12, .inl (fun _ => 0))), (q1, .inl (g.2 0, 12, .inl (fun _ => 0))), (q2, .inl (g.2 1, 12, .inl (fun _ => 0)))]) rfl ?_
  refine z_putQ (pc := 25) (ws' := [(b, .inr (3, [.ref q0, .ref q1, .ref q2, .null, .null, .null])), (q0, .inl (g.2 0, 12, .inl (fun _ => 0))), (q1, .inl (g.2 0, 12, .inl (fun _ => 0))), (q2, .inl (g.2 1, 12, .inl (fun _ => 0)))]) hC hn0 fX3_18 (⟨(RX3, TX3, 6), tyX3, rfl, tyX3_ok, nmX3, rfl, rfl, by decide +kernel⟩ : fq 3 2 RX3 (.array .boolean)) rfl rfl 0 rfl (Nat.le_of_ble_eq_true rfl) rfl dX3_init_25 ?_
  refine z_aln (pc := 28) hC 0 rfl dX3_init_28 ?_
  refine z_bipush (pc := 29) (v := nI 12) hC dX3_init_29 (by decide) ?_
  refine z_newa (pc := 31) hC 0 rfl (fun _ _ h => h) rfl aw_int dX3_init_31 12 rfl (by decide) (by decide) ⟨Nat.le_of_ble_eq_true rfl, Nat.le_of_ble_eq_true rfl⟩ (a0 := (12, .inl (fun _ => 0))) (fun _ => rfl) (fun q3 => ?_)
  refine z_w (ws' := [(b, .inr (3, [.ref q0, .ref q1, .ref q2, .null, .null, .null])), (q0, .inl (g.2 0, 12, .inl (fun _ => 0))), (q1, .inl (g.2 0, 12, .inl (fun _ => 0))), (q2, .inl (g.2 1, 12, .inl (fun _ => 0))), (q3, .inl (g.2 0, 12, .inl (fun _ => 0)))]) rfl ?_
  refine z_putQ (pc := 33) (ws' := [(b, .inr (3, [.ref q0, .ref q1, .ref q2, .ref q3, .null, .null])), (q0, .inl (g.2 0, 12, .inl (fun _ => 0))), (q1, .inl (g.2 0, 12, .inl (fun _ => 0))), (q2, .inl (g.2 1, 12, .inl (fun _ => 0))), (q3, .inl (g.2 0, 12, .inl (fun _ => 0)))]) hC hn0 fX3_22 (⟨(RX3, TX3, 6), tyX3, rfl, tyX3_ok, nmX3, rfl, rfl, by decide +kernel⟩ : fq 3 3 RX3 (.array .int)) rfl rfl 0 rfl (Nat.le_of_ble_eq_true rfl) rfl dX3_init_33 ?_
  refine z_aln (pc := 36) hC 0 rfl dX3_init_36 ?_
  refine z_bipush (pc := 37) (v := nI 12) hC dX3_init_37 (by decide) ?_
  refine z_newa (pc := 39) hC 0 rfl (fun _ _ h => h) rfl aw_int dX3_init_39 12 rfl (by decide) (by decide) ⟨Nat.le_of_ble_eq_true rfl, Nat.le_of_ble_eq_true rfl⟩ (a0 := (12, .inl (fun _ => 0))) (fun _ => rfl) (fun q4 => ?_)
  refine z_w (ws' := [(b, .inr (3, [.ref q0, .ref q1, .ref q2, .ref q3, .null, .null])), (q0, .inl (g.2 0, 12, .inl (fun _ => 0))), (q1, .inl (g.2 0, 12, .inl (fun _ => 0))), (q2, .inl (g.2 1, 12, .inl (fun _ => 0))), (q3, .inl (g.2 0, 12, .inl (fun _ => 0))), (q4, .inl (g.2 0, 12, .inl (fun _ => 0)))]) rfl ?_
  refine z_putQ (pc := 41) (ws' := [(b, .inr (3, [.ref q0, .ref q1, .ref q2, .ref q3, .ref q4, .null])), (q0, .inl (g.2 0, 12, .inl (fun _ => 0))), (q1, .inl (g.2 0, 12, .inl (fun _ => 0))), (q2, .inl (g.2 1, 12, .inl (fun _ => 0))), (q3, .inl (g.2 0, 12, .inl (fun _ => 0))), (q4, .inl (g.2 0, 12, .inl (fun _ => 0)))]) hC hn0 fX3_25 (⟨(RX3, TX3, 6), tyX3, rfl, tyX3_ok, nmX3, rfl, rfl, by decide +kernel⟩ : fq 3 4 RX3 (.array .int)) rfl rfl 0 rfl (Nat.le_of_ble_eq_true rfl) rfl dX3_init_41 ?_
  refine z_aln (pc := 44) hC 0 rfl dX3_init_44 ?_
  refine z_bipush (pc := 45) (v := nI 12) hC dX3_init_45 (by decide) ?_
  refine z_newa (pc := 47) hC 0 rfl (fun _ _ h => h) rfl aw_int dX3_init_47 12 rfl (by decide) (by decide) ⟨Nat.le_of_ble_eq_true rfl, Nat.le_of_ble_eq_true rfl⟩ (a0 := (12, .inl (fun _ => 0))) (fun _ => rfl) (fun q5 => ?_)
  refine z_w (ws' := [(b, .inr (3, [.ref q0, .ref q1, .ref q2, .ref q3, .ref q4, .null])), (q0, .inl (g.2 0, 12, .inl (fun _ => 0))), (q1, .inl (g.2 0, 12, .inl (fun _ => 0))), (q2, .inl (g.2 1, 12, .inl (fun _ => 0))), (q3, .inl (g.2 0, 12, .inl (fun _ => 0))), (q4, .inl (g.2 0, 12, .inl (fun _ => 0))), (q5, .inl (g.2 0, 12, .inl (fun _ => 0)))]) rfl ?_
  refine z_putQ (pc := 49) (ws' := [(b, .inr (3, [.ref q0, .ref q1, .ref q2, .ref q3, .ref q4, .ref q5])), (q0, .inl (g.2 0, 12, .inl (fun _ => 0))), (q1, .inl (g.2 0, 12, .inl (fun _ => 0))), (q2, .inl (g.2 1, 12, .inl (fun _ => 0))), (q3, .inl (g.2 0, 12, .inl (fun _ => 0))), (q4, .inl (g.2 0, 12, .inl (fun _ => 0))), (q5, .inl (g.2 0, 12, .inl (fun _ => 0)))]) hC hn0 fX3_28 (⟨(RX3, TX3, 6), tyX3, rfl, tyX3_ok, nmX3, rfl, rfl, by decide +kernel⟩ : fq 3 5 RX3 (.array .int)) rfl rfl 0 rfl (Nat.le_of_ble_eq_true rfl) rfl dX3_init_49 ?_
  refine z_iconst (pc := 52) (v := nI 0) hC dX3_init_52 (by decide) ?_
  refine z_isn (pc := 53) (lv' := [(1, .int (nI 0)), (0, .ref b)]) hC hm (by decide) rfl dX3_init_53 ?_
  refine z_w (ws' := rl_ g.2 b (adr [q0, q1, q2, q3, q4, q5]) (RI_ 0)) (by unfold rl_ rlA; rw [RI_z (c := 0) (by decide), RI_z (c := 1) (by decide), RI_z (c := 2) (by decide), RI_z (c := 3) (by decide), RI_z (c := 4) (by decide), RI_z (c := 5) (by decide)]; rfl) ?_
  refine z_lv [0, 1] rfl ?_
  exact loop _ 12 0 rfl
