/-! METHODS THAT ANSWER A DOUBLE, and may draw -/
def FD {S : Type} (g : zG) (y : MethodName) (cy : ByteArray) (nl : Nat) (d : Nat) (av : List Value) (w : va_W) (post : UInt64 → S → Prop) (w' : S → va_W) : Prop :=
  ∀ (l : Launch) (sz : Nat), MetD lw_cs l y (w_ y cy nl (some .double)) (zRm d 0 0) (zPre g av w sz) (va_Qd post (zPost g w sz w') (va_A w sz)) 0 0 (va_A w sz)
def zDE {S : Type} (g : zG) (C : Drawn → zC) (sb : Drawn → Prop) (cy : ByteArray) (post : UInt64 → S → Prop) (w' : S → va_W) : Prop :=
  ∀ (d : Drawn) (pc : Nat) (lv : List (Nat × Value)) (r : UInt64) (u : S) (ws : va_W), sb d → decode cy pc = .ok (.dreturn, 1) → post r u → ws = w' u → Z g (C d) 0 0 ws lv pc [.double r]
def zDD (g : zG) (C : Drawn → zC) (sb : Drawn → Prop) (cy : ByteArray) : Prop :=
  ∀ (d : Drawn) (pc : Nat) (lv : List (Nat × Value)) (x y : UInt64) (st : List Value) (ws : va_W), sb d → decode cy pc = .ok (.ddiv, 1) → (∀ (r : UInt64) (d' : Drawn), alike64 r (FP.ddiv x y) = true → sb d' → Z g (C d') 0 0 ws lv (pc + 1) (.double r :: st)) → Z g (C d) 0 0 ws lv pc (.double y :: .double x :: st)
theorem fd_entry {S : Type} {g : zG} {y : MethodName} {cy : ByteArray} {nl d : Nat} {av : List Value} {w : va_W} {post : UInt64 → S → Prop} {w' : S → va_W} (hy : plainName y.cls = true) (hn : (lg_sl av).length ≤ nl)
    (h : ∀ (C : Drawn → zC) (sb : Drawn → Prop) (d0 : Drawn), sb d0 → (∀ e, zOK g (C e) cy y.cls d 0 0) → (∀ e, (zc (C e)).maxLocals = nl) → zDE g C sb cy post w' → zDD g C sb cy → Z g (C d0) 0 0 w (lv_args 0 av) 0 []) : FD g y cy nl d av w post w' := by
  intro l sz
  refine MetD.ofW (cc := cy) (maxL := nl) (ret := some .double) hy rfl ?_
  intro p e s m args below meth c s₁ B hml hv hd0
  obtain ⟨rfl, hsz, hP, hK, hD0, hN⟩ := hv
  have hx := B.exec
  have hb := B.bytes
  have hr := B.returns
  have hts := atoms_spec (ws := w_ y cy nl (some .double)) B.pre
  have hown : s.vm.findClass y.cls = some m.cls := findClass_of_methodNamed B.named
  have hlocks := B.notSynchronized
  subst hsz
  rw [lg_entry_eq]
  have hl := lv_entry av (n := nl) hn
  generalize (lg_sl av ++ List.replicate (nl - (lg_sl av).length) Slot.unset).toArray = ls at hl ⊢
  refine h (fun dr => (p, l, e, zRm d 0 0, s.setDrawn dr, m, av.toArray, below, meth, c, va_A w s.heap.size, MQD lw_cs below (va_Qd post (zPost g w s.heap.size w') (va_A w s.heap.size)) av.toArray s 0 0 (va_A w s.heap.size))) (fun dr => s.drawn.sameBut dr lw_cs) s.drawn hd0 (fun dr => ⟨hx, hb, hown, fun x hx' => dr_words hts dr x (List.mem_cons_of_mem _ hx'), hK, rfl, fun q hq => Or.inr hq, zN.same (u := s) rfl hN⟩) (fun _ => hml) ?_ ?_ s.heap [] ls hP hD0.self va_S.rf (by rw [show c.maxLocals = nl from hml]; exact hl)
  · intro dr pc lv r u ws hsb hdg hp hw
    subst hw
    intro H locs ls2 hP hD hS hl2
    refine W.endD hsb ?_
    exact W.dret hx hb hr (fun t ht hW => ⟨⟨r, u, rfl, hp, by rw [ht]; exact hP, hD⟩, hS.F ht⟩) hS.2.2 hdg
  · intro dr pc lv x y2 st ws hsb hdg hk
    intro H locs ls2 hP hD hS hl2
    exact lv_ddiv_any hsb lw_bits hx hb hdg (fun r d' hal hd1 => hk r d' hal hd1 H locs ls2 hP hD hS hl2)
section ZDB
variable {g : zG} {C : zC} {cc : ByteArray} {own : String} {d mc ms k n : Nat} {ws : va_W} {lv : List (Nat × Value)} {pc : Nat} {st : List Value}
theorem z_dconst1 (hC : zOK g C cc own d mc ms) (hdg : decode cc pc = .ok (.dconst 1, 1)) (h : Z g C k n ws lv (pc + 1) (.double FP.dconst1 :: st)) : Z g C k n ws lv pc st :=
  fun H locs ls hP hD hS hl => lv_dconst1 hC.1 hC.2.1 hdg (h H locs ls hP hD hS hl)
end ZDB
/-- the rate of success -/
def sucD (R : St) : UInt64 := if R 14 2 = 0 then FP.dconst1 else FP.ddiv (FP.i2d (R 14 2 - R 14 4)) (FP.i2d (R 14 2))
theorem nan_cmp {p : UInt64} (h : isNaN64 p = true) : FP.dcmp p p = none := by
  have h1 := isNaN64_iff.mp h
  have e : p.toNat &&& 9223372036854775807 = p.toNat % 9223372036854775808 := Nat.and_two_pow_sub_one_eq_mod p.toNat 63
  have h2 : 9218868437227405312 < p.toNat % 9223372036854775808 := by rw [← e]; exact h1
  have h3 : FP.Core.decode FP.Core.b64 p.toNat = .nan := by
    unfold FP.Core.decode
    have hT : FP.Core.fieldT FP.Core.b64 p.toNat = p.toNat % 4503599627370496 := rfl
    have hE : FP.Core.fieldE FP.Core.b64 p.toNat = p.toNat / 4503599627370496 % 2048 := rfl
    rw [hT, hE, show FP.Core.b64.exps = 2048 from rfl, if_pos (by omega), if_neg (by omega)]
  show FP.Core.order (FP.Core.decode FP.Core.b64 p.toNat) (FP.Core.decode FP.Core.b64 p.toNat) = none
  rw [h3]; rfl
theorem alike_two {p q v : UInt64} (h1 : alike64 p v = true) (h2 : alike64 q v = true) : p = q ∨ (FP.dcmp p p = none ∧ FP.dcmp q q = none) := by
  simp only [alike64, Bool.or_eq_true, decide_eq_true_eq, Bool.and_eq_true] at h1 h2
  rcases h1 with h1 | h1
  · rcases h2 with h2 | h2
    · exact Or.inl (h1.trans h2.symm)
    · exact Or.inr ⟨nan_cmp (by rw [h1]; exact h2.2), nan_cmp h2.1⟩
  · rcases h2 with h2 | h2
    · exact Or.inr ⟨nan_cmp h1.1, nan_cmp (by rw [h2]; exact h1.2)⟩
    · exact Or.inr ⟨nan_cmp h1.1, nan_cmp h2.1⟩
-- by dbl.py
set_option maxRecDepth 100000 in
set_option maxHeartbeats 4000000 in
theorem k_success {g : zG} {x : Nat} {u c a h : Nat → Nat} {e : Nat → Nat → Nat} {Q P : Nat → Int32} {T R : St} {s p : Nat} {K : Nat → St} {H : Nat → St} {t : Nat → Nat} {L : Nat} (hG : GR R) (hX : xR H s t L (Q, P, T, p, K)) : FD (S := Unit) g yX5_success cX5_success 1 0 [.ref x] (xW g.2 x u c a h e Q P T R (nI s) (nI p) K) (fun r _ => alike64 r (sucD R) = true) (fun _ => xW g.2 x u c a h e Q P T R (nI s) (nI p) K) := by
  refine fd_entry (by decide) (Nat.le_of_ble_eq_true rfl) (fun C sb d0 hsb hC hm hE hDD => ?_)
  refine z_aln (pc := 0) (hC _) 0 rfl dX5_success_0 ?_
  refine z_get (pc := 1) (hC _) fX5_10 0 rfl rfl dX5_success_1 ?_
  refine z_get (pc := 4) (hC _) fX5_244 20 rfl rfl dX5_success_4 ?_
  refine z_ifne (pc := 7) (hC _) 12 (by decide) dX5_success_7 (fun c7 => ?_) (fun c7 => ?_)
  · refine z_aln (pc := 12) (hC _) 0 rfl dX5_success_12 ?_
    refine z_get (pc := 13) (hC _) fX5_10 0 rfl rfl dX5_success_13 ?_
    refine z_get (pc := 16) (hC _) fX5_244 20 rfl rfl dX5_success_16 ?_
    refine z_aln (pc := 19) (hC _) 0 rfl dX5_success_19 ?_
    refine z_get (pc := 20) (hC _) fX5_10 0 rfl rfl dX5_success_20 ?_
    refine z_get (pc := 23) (hC _) fX5_264 20 rfl rfl dX5_success_23 ?_
    refine z_isub (pc := 26) (v := (R 14 2) - (R 14 4)) (hC _) rfl dX5_success_26 ?_
    refine z_i2d (pc := 27) (hC _) dX5_success_27 ?_
    refine z_aln (pc := 28) (hC _) 0 rfl dX5_success_28 ?_
    refine z_get (pc := 29) (hC _) fX5_10 0 rfl rfl dX5_success_29 ?_
    refine z_get (pc := 32) (hC _) fX5_244 20 rfl rfl dX5_success_32 ?_
    refine z_i2d (pc := 35) (hC _) dX5_success_35 ?_
    refine hDD _ 36 _ _ _ _ _ hsb dX5_success_36 (fun r d1 hal hsb1 => ?_)
    exact hE _ _ _ _ () _ hsb1 dX5_success_37 (by rw [sucD, if_neg c7]; exact hal) rfl
  · refine z_dconst1 (pc := 10) (hC _) dX5_success_10 ?_
    exact hE _ _ _ _ () _ hsb dX5_success_11 (by rw [sucD, if_pos c7]; exact alike64_refl _) rfl
