section ZX
variable {g : zG} {C : zC} {cc : ByteArray} {own : String} {d mc ms k n : Nat} {ws : va_W} {lv : List (Nat × Value)} {pc : Nat} {st : List Value}
theorem z_ixor (hC : zOK g C cc own d mc ms) {x y v : Int32} (hv : x ^^^ y = v) (hdg : decode cc pc = .ok (.ixor, 1)) (h : Z g C k n ws lv (pc + 1) (.int v :: st)) : Z g C k n ws lv pc (.int y :: .int x :: st) := by
  subst hv
  exact fun H locs ls hP hD hS hl => lv_ixor hC.1 hC.2.1 hdg (h H locs ls hP hD hS hl)
theorem z_ifnn (hC : zOK g C cc own d mc ms) {x : Nat} {off : Int} (tgt : Nat) (ht : (pc : Int) + off = (tgt : Int)) (hdg : decode cc pc = .ok (.ifnonnull off, 3)) (h : Z g C k n ws lv tgt st) : Z g C k n ws lv pc (.ref x :: st) :=
  fun H locs ls hP hD hS hl => lv_ifnonnull hC.1 hC.2.1 hdg ht (h H locs ls hP hD hS hl)
theorem z_ifnl (hC : zOK g C cc own d mc ms) {x : Nat} {off : Int} (hdg : decode cc pc = .ok (.ifnull off, 3)) (h : Z g C k n ws lv (pc + 3) st) : Z g C k n ws lv pc (.ref x :: st) :=
  fun H locs ls hP hD hS hl => lv_ifnull hC.1 hC.2.1 hdg (h H locs ls hP hD hS hl)
end ZX
theorem fm_cases {a : Nat} (h : a ≤ 6) : a = 0 ∨ a = 1 ∨ a = 2 ∨ a = 3 ∨ a = 4 ∨ a = 5 ∨ a = 6 := by omega
theorem fm_rem {a : Nat} (h : a ≤ 6) : nI a - nI a / 6 * 6 = nI (a % 6) := by
  rcases fm_cases h with h | h | h | h | h | h | h <;> subst h <;> decide
theorem fm_xor {a : Nat} (h : a ≤ 6) : 0 ≤ nI a ^^^ 6 := by
  rcases fm_cases h with h | h | h | h | h | h | h <;> subst h <;> decide

/-- a method of the machine's own classes that no native row names -/
theorem fi_entryF {S : Type} {g : zG} {y : MethodName} {cy : ByteArray} {nl : Nat} {ret : FieldType} {d mc ms : Nat} {av : List Value} {w : va_W} {post : Int32 → S → Prop} {w' : S → va_W} (hy : plainFor y = true) (hn : (lg_sl av).length ≤ nl)
    (h : ∀ C : zC, zOK g C cy y.cls d mc ms → (zc C).maxLocals = nl → zI g C cy ret mc ms post w' → Z g C 0 0 w (lv_args 0 av) 0 []) : FI g y cy nl ret d mc ms av w post w' := by
  intro l sz
  refine MetFree.of_bodySF (code := cy) (maxLocals := nl) (ret := some ret) hy ?_ ?_
  · intro args s m h hn
    obtain ⟨meth, c, h1, h2, h3, h4, h5, h6, -, -⟩ := Cond.code_spec hn (atoms_spec (ws := w_ y cy nl (some ret)) h _ List.mem_cons_self)
    exact ⟨meth, c, h1, h2, h3, h4, h5, h6⟩
  intro p e s m args below meth c s₁ B hml hv _
  have hh0 : s₁.heap = s.heap := by rw [B.state]; rfl
  obtain ⟨rfl, hsz, hP, hK, hD0, hN⟩ := hv
  have hx := B.exec
  have hb := B.bytes
  have hr := B.returns
  have hts := atoms_spec (ws := w_ y cy nl (some ret)) B.pre
  have hown : s.vm.findClass y.cls = some m.cls := findClass_of_methodNamed B.named
  have hlocks := B.notSynchronized
  subst hsz
  have K : W p l e (zRm d mc ms) s m av.toArray below meth c s.heap [] 0 0 (MQ below (va_Qi post (zPost g w s.heap.size w') (va_A w s.heap.size)) av.toArray s mc ms (va_A w s.heap.size)) (entryFrame m av.toArray nl) := by
    rw [lg_entry_eq]
    have hl := lv_entry av (n := nl) hn
    generalize (lg_sl av ++ List.replicate (nl - (lg_sl av).length) Slot.unset).toArray = ls at hl ⊢
    refine h (p, l, e, zRm d mc ms, s, m, av.toArray, below, meth, c, va_A w s.heap.size, MQ below (va_Qi post (zPost g w s.heap.size w') (va_A w s.heap.size)) av.toArray s mc ms (va_A w s.heap.size)) ⟨hx, hb, hown, fun x hx' => hts x (List.mem_cons_of_mem _ hx'), hK, rfl, fun q hq => Or.inr hq, hN⟩ hml ?_ s.heap [] ls hP hD0.self va_S.rf (by rw [show (zc (p, l, e, zRm d mc ms, s, m, av.toArray, below, meth, c, va_A w s.heap.size, MQ below (va_Qi post (zPost g w s.heap.size w') (va_A w s.heap.size)) av.toArray s mc ms (va_A w s.heap.size))).maxLocals = nl from hml]; exact hl)
    intro pc lv r u k n ws hdg hnar hp hw h1 h2
    subst hw
    intro H locs ls2 hP hD hS hl2
    refine W.widen h1 h2 ?_
    exact W.zret hx hb hr hnar (fun t ht hW => ⟨⟨r, u, rfl, hp, by rw [ht]; exact hP, hD⟩, hS.F ht⟩) hS.2.2 hdg
  obtain ⟨t, a1, o, b1, b2, b3⟩ := K s₁ hh0 (Stand.of_body B)
  exact ⟨t, o, a1, b1, b2, ⟨b3.1, b3.2⟩⟩

set_option maxRecDepth 100000 in
set_option maxHeartbeats 4000000 in
theorem c_fmod {g : zG} {a : Nat} (ha : a ≤ 6) : Gi g yJ9_floorMod_7cf53 cJ9_floorMod_7cf53 3 .int 0 [.int (nI a), .int 6] ([]) (nI (a % 6)) ([]) := by
  refine fi_entryF (by decide +kernel) (Nat.le_of_ble_eq_true rfl) (fun C hC hm hE => ?_)
  refine z_iln (pc := 0) hC 0 rfl dJ9_floorMod_7cf53_0 ?_
  refine z_iln (pc := 1) hC 1 rfl dJ9_floorMod_7cf53_1 ?_
  refine z_irem (pc := 2) (v := nI (a % 6)) hC (by decide) (fm_rem ha) dJ9_floorMod_7cf53_2 ?_
  refine z_isn (pc := 3) (lv' := [(2, .int (nI (a % 6))), (0, .int (nI a)), (1, .int 6)]) hC hm (by decide) rfl dJ9_floorMod_7cf53_3 ?_
  refine z_iln (pc := 4) hC 1 rfl dJ9_floorMod_7cf53_4 ?_
  refine z_iln (pc := 5) hC 2 rfl dJ9_floorMod_7cf53_5 ?_
  refine z_ixor (pc := 6) (v := (nI a) ^^^ 6) hC rfl dJ9_floorMod_7cf53_6 ?_
  refine z_ifge (pc := 7) hC 18 (by decide) dJ9_floorMod_7cf53_7 (fun c7 => ?_) (fun c7 => absurd (fm_xor ha) c7)
  refine z_iln (pc := 18) hC 0 rfl dJ9_floorMod_7cf53_18 ?_
  exact hE _ _ _ () _ _ _ dJ9_floorMod_7cf53_19 rfl rfl rfl (Nat.le_refl _) (Nat.le_refl _)

set_option maxRecDepth 100000 in
set_option maxHeartbeats 4000000 in
theorem c_fmodm {g : zG}  : Gi g yJ9_floorMod_7cf53 cJ9_floorMod_7cf53 3 .int 0 [.int (-1), .int 6] ([]) 5 ([]) := by
  refine fi_entryF (by decide +kernel) (Nat.le_of_ble_eq_true rfl) (fun C hC hm hE => ?_)
  refine z_iln (pc := 0) hC 0 rfl dJ9_floorMod_7cf53_0 ?_
  refine z_iln (pc := 1) hC 1 rfl dJ9_floorMod_7cf53_1 ?_
  refine z_irem (pc := 2) (v := (-1)) hC (by decide) (by decide) dJ9_floorMod_7cf53_2 ?_
  refine z_isn (pc := 3) (lv' := [(2, .int (-1)), (0, .int (-1)), (1, .int 6)]) hC hm (by decide) rfl dJ9_floorMod_7cf53_3 ?_
  refine z_iln (pc := 4) hC 1 rfl dJ9_floorMod_7cf53_4 ?_
  refine z_iln (pc := 5) hC 2 rfl dJ9_floorMod_7cf53_5 ?_
  refine z_ixor (pc := 6) (v := (-7)) hC (by decide) dJ9_floorMod_7cf53_6 ?_
  refine z_ifge (pc := 7) hC 18 (by decide) dJ9_floorMod_7cf53_7 (fun c7 => absurd c7 (by decide)) (fun c7 => ?_)
  refine z_iln (pc := 10) hC 0 rfl dJ9_floorMod_7cf53_10 ?_
  refine z_ifeq (pc := 11) hC 18 (by decide) dJ9_floorMod_7cf53_11 (fun c11 => absurd c11 (by decide)) (fun c11 => ?_)
  refine z_iln (pc := 14) hC 0 rfl dJ9_floorMod_7cf53_14 ?_
  refine z_iln (pc := 15) hC 2 rfl dJ9_floorMod_7cf53_15 ?_
  refine z_iadd (pc := 16) (v := 5) hC (by decide) dJ9_floorMod_7cf53_16 ?_
  exact hE _ _ _ () _ _ _ dJ9_floorMod_7cf53_17 rfl rfl rfl (Nat.le_refl _) (Nat.le_refl _)

/-- the cells of the history: z states saved, the next slot p, the slots' rooms -/
def hR (i : Nat → ClassId) (e : Nat → Nat → Nat) (K : Nat → St) (l : List Nat) : va_W := l.flatMap (fun k => rW i (e k) (K k))
def hW (i : Nat → ClassId) (h : Nat → Nat) (e : Nat → Nat → Nat) (z p : Int32) (K : Nat → St) : va_W :=
  (h 0, .inr (1, [.ref (h 1), .int z, .int p])) :: (h 1, .inl (i 2, 6, .inr (.inr (.inr (.inr (fun k => some (e k 0))))))) :: hR i e K [0, 1, 2, 3, 4, 5]
/-- .. without slot p's room -/
def hP (i : Nat → ClassId) (h : Nat → Nat) (e : Nat → Nat → Nat) (z q : Int32) (K : Nat → St) (p : Nat) : va_W :=
  (h 0, .inr (1, [.ref (h 1), .int z, .int q])) :: (h 1, .inl (i 2, 6, .inr (.inr (.inr (.inr (fun k => some (e k 0))))))) :: hR i e K ([0, 1, 2, 3, 4, 5].erase p)
def upK (K : Nat → St) (p : Nat) (R : St) : Nat → St := fun k => if k = p then R else K k
theorem hP_up {i : Nat → ClassId} {h : Nat → Nat} {e : Nat → Nat → Nat} {z q : Int32} {K : Nat → St} {p : Nat} {R : St} : hP i h e z q (upK K p R) p = hP i h e z q K p := by
  unfold hP hR
  congr 2
  have hk : ∀ k, k ∈ [0, 1, 2, 3, 4, 5].erase p → k ≠ p := fun k hk => ((List.Nodup.mem_erase_iff (by decide)).mp hk).1
  exact congrArg List.flatten (List.map_congr_left (fun k h1 => by rw [upK, if_neg (hk k h1)]))
theorem hW_perm {i : Nat → ClassId} {h : Nat → Nat} {e : Nat → Nat → Nat} {z q : Int32} {K : Nat → St} {p : Nat} (hp : p < 6) : (hW i h e z q K).Perm (rW i (e p) (K p) ++ hP i h e z q K p) := by
  have hm : p ∈ [0, 1, 2, 3, 4, 5] := by
    have : p = 0 ∨ p = 1 ∨ p = 2 ∨ p = 3 ∨ p = 4 ∨ p = 5 := by omega
    rcases this with h | h | h | h | h | h <;> subst h <;> decide
  have h1 : (hR i e K [0, 1, 2, 3, 4, 5]).Perm (rW i (e p) (K p) ++ hR i e K ([0, 1, 2, 3, 4, 5].erase p)) := (List.perm_cons_erase hm).flatMap_right _
  unfold hW hP
  refine ((h1.cons _).cons _).trans ?_
  exact (List.perm_append_comm_assoc [_, _] (rW i (e p) (K p)) _)
theorem rh_perm {i : Nat → ClassId} {h a : Nat → Nat} {e : Nat → Nat → Nat} {z q : Int32} {K : Nat → St} {p : Nat} {R : St} (hp : p < 6) : (rW i a R ++ hW i h e z q K).Perm ((rW i (e p) (K p) ++ rW i a R) ++ hP i h e z q K p) := by
  refine ((hW_perm hp).append_left _).trans ?_
  rw [List.append_assoc]
  exact List.perm_append_comm_assoc _ _ _
theorem rh_perm2 {i : Nat → ClassId} {h a : Nat → Nat} {e : Nat → Nat → Nat} {z q : Int32} {K : Nat → St} {p : Nat} {R : St} (hp : p < 6) : (rW i a R ++ hW i h e z q K).Perm ((rW i a R ++ rW i (e p) (K p)) ++ hP i h e z q K p) := by
  rw [List.append_assoc]
  exact (hW_perm hp).append_left _
theorem rh_perm' {i : Nat → ClassId} {h a : Nat → Nat} {e : Nat → Nat → Nat} {z q : Int32} {K : Nat → St} {p : Nat} {R : St} (hp : p < 6) : ((rW i (e p) R ++ rW i a R) ++ hP i h e z q K p).Perm (rW i a R ++ hW i h e z q (upK K p R)) := by
  have := rh_perm (i := i) (h := h) (a := a) (e := e) (z := z) (q := q) (K := upK K p R) (R := R) hp
  rw [hP_up, show upK K p R p = R from if_pos rfl] at this
  exact this.symm

set_option maxRecDepth 100000 in
set_option maxHeartbeats 4000000 in
theorem c_save {g : zG} {a h : Nat → Nat} {e : Nat → Nat → Nat} {R : St} {K : Nat → St} {z p : Nat} (hB : ∀ r, r < 12 → R 2 r = 0 ∨ R 2 r = 1) (hp : p < 6) (hz : z ≤ 6) : Gv g yX1_save cX1_save 3 3 [.ref (h 0), .ref (a 0)] (rW g.2 a R ++ hW g.2 h e (nI z) (nI p) K) (rW g.2 a R ++ hW g.2 h e (nI (if z < 6 then z + 1 else z)) (nI ((p + 1) % 6)) (upK K p R)) := by
  refine fv_entry (by decide) (Nat.le_of_ble_eq_true rfl) (fun C hC hm _ hE => ?_)
  refine z_aln (pc := 0) hC 0 rfl dX1_save_0 ?_
  refine z_get (pc := 1) hC fX1_11 17 rfl rfl dX1_save_1 ?_
  refine z_aln (pc := 4) hC 0 rfl dX1_save_4 ?_
  refine z_get (pc := 5) hC fX1_21 17 rfl rfl dX1_save_5 ?_
  refine z_aald (pc := 8) hC 18 (f := fun k => some (e k 0)) rfl dX1_save_8 p rfl (by omega) (by decide) ?_
  refine z_asn (pc := 9) (lv' := [(2, .ref (e p 0)), (0, .ref (h 0)), (1, .ref (a 0))]) hC hm (by decide) rfl dX1_save_9 ?_
  refine z_aln (pc := 10) hC 0 rfl dX1_save_10 ?_
  refine z_ifnn (pc := 11) hC 15 (by decide) dX1_save_11 ?_
  refine z_aln (pc := 15) hC 0 rfl dX1_save_15 ?_
  refine z_aln (pc := 16) hC 2 rfl dX1_save_16 ?_
  refine z_vvP (pc := 17) (rest := []) hC vX4_copyFrom lX1_25 dX1_save_17 (c_copyFrom (c := e p) (T := K p) hB) _ (rh_perm hp) 0 4 rfl rfl rfl rfl rfl (by decide) (Nat.le_of_ble_eq_true rfl) ⟨Nat.le_refl _, Nat.le_refl _⟩ (fun _ => rW g.2 a R ++ hW g.2 h e (nI z) (nI p) (upK K p R)) (fun _ => rh_perm' hp) (fun _ _ => ?_)
  refine z_aln (pc := 20) hC 1 rfl dX1_save_20 ?_
  refine z_aln (pc := 21) hC 1 rfl dX1_save_21 ?_
  refine z_get (pc := 22) hC fX1_21 17 rfl rfl dX1_save_22 ?_
  refine z_iconst (pc := 25) (v := 1) hC dX1_save_25 (by decide) ?_
  refine z_iadd (pc := 26) (v := nI (p + 1)) hC (nI_1 p) dX1_save_26 ?_
  refine z_bipush (pc := 27) (v := 6) hC dX1_save_27 (by decide) ?_
  refine z_gs (pc := 29) (rest := [.ref (h 0)]) hC sJ9_floorMod_7cf53 lX1_29 dX1_save_29 (c_fmod (by omega)) rfl rfl (by decide) (Nat.le_of_ble_eq_true rfl) ⟨Nat.le_refl _, Nat.le_refl _⟩ ?_
  refine z_put (pc := 32) (ws' := rW g.2 a R ++ hW g.2 h e (nI z) (nI ((p + 1) % 6)) (upK K p R)) hC fX1_21 p1_2 17 rfl (Nat.le_of_ble_eq_true rfl) rfl dX1_save_32 ?_
  refine z_aln (pc := 35) hC 1 rfl dX1_save_35 ?_
  refine z_get (pc := 36) hC fX1_17 17 rfl rfl dX1_save_36 ?_
  refine z_bipush (pc := 39) (v := nI 6) hC dX1_save_39 (by decide) ?_
  refine z_icge (pc := 41) hC 54 (by decide) dX1_save_41 (fun c41 => ?_) (fun c41 => ?_)
  · have hz : ¬ z < 6 := fun x => absurd ((nI_leI (by omega) (by omega)).mp c41) (by omega)
    exact hE _ _ () _ _ _ dX1_save_54 trivial (by rw [if_neg hz]) (Nat.le_refl _) (Nat.le_refl _)
  · have hz6 : z < 6 := Nat.lt_of_not_le (fun x => c41 ((nI_leI (by omega) (by omega)).mpr x))
    refine z_aln (pc := 44) hC 1 rfl dX1_save_44 ?_
    refine z_dup (pc := 45) hC rfl dX1_save_45 ?_
    refine z_get (pc := 46) hC fX1_17 17 rfl rfl dX1_save_46 ?_
    refine z_iconst (pc := 49) (v := 1) hC dX1_save_49 (by decide) ?_
    refine z_iadd (pc := 50) (v := nI (z + 1)) hC (nI_1 z) dX1_save_50 ?_
    refine z_put (pc := 51) (ws' := rW g.2 a R ++ hW g.2 h e (nI (z + 1)) (nI ((p + 1) % 6)) (upK K p R)) hC fX1_17 p1_1 17 rfl (Nat.le_of_ble_eq_true rfl) rfl dX1_save_51 ?_
    exact hE _ _ () _ _ _ dX1_save_54 trivial (by rw [if_pos hz6]) (Nat.le_refl _) (Nat.le_refl _)

theorem fm_back {p : Nat} (hp : p < 6) : (p = 0 ∧ (p + 5) % 6 = 5) ∨ ∃ q, p = q + 1 ∧ q ≤ 6 ∧ (p + 5) % 6 = q % 6 := by
  cases p with
  | zero => exact Or.inl ⟨rfl, rfl⟩
  | succ q => exact Or.inr ⟨q, rfl, by omega, by omega⟩
