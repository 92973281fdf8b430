theorem FI_mono {S S' : Type} {g : zG} {y : MethodName} {cy : ByteArray} {nl : Nat} {ret : FieldType} {d mc ms : Nat} {av : List Value} {w : va_W} {post : Int32 → S → Prop} {w' : S → va_W} {post' : Int32 → S' → Prop} {w'' : S' → va_W}
    (h : FI (S := S) g y cy nl ret d mc ms av w post w') (hp : ∀ r u, post r u → ∃ u', post' r u' ∧ w'' u' = w' u) : FI (S := S') g y cy nl ret d mc ms av w post' w'' := by
  intro l sz p e ha hc hk s m args below hf happ hpre htr
  obtain ⟨k, o, h1, h2, h3, ⟨⟨r, u, ho, hpo, hB⟩, hF⟩, hL⟩ := h l sz p e ha hc hk s m args below hf happ hpre htr
  obtain ⟨u', q1, q2⟩ := hp r u hpo
  refine ⟨k, o, h1, h2, h3, ⟨⟨r, u', ho, q1, ?_⟩, hF⟩, hL⟩
  unfold zPost at hB ⊢
  rw [q2]; exact hB

def tApp (t : Nat → Nat) (L : Nat) (x : Int32) : Nat → Nat := fun p => if p = L then ix x else t p
/-- .. where the text changes -/
def mQ (cd : Nat) (val : Int32) (t' : Nat → Nat) (L' : Nat) (H : Nat → St) (s : Nat) (t : Nat → Nat) (L : Nat) (r : Int32) (S : (Nat → Nat → Int32) × (Nat → Int32)) : Prop :=
  S.2 1 = nI cd ∧ (cd = 0 → mR S.1 S.2 H s t' L' ∧ r = val) ∧ (cd ≠ 0 → mR S.1 S.2 H s t L)
theorem mQ_f {cd k s L L' : Nat} {val r : Int32} {H : Nat → St} {t t' : Nat → Nat} {F : Nat → Nat → Int32} {V V' : Nat → Int32} (h : mR F V H s t L) (hc : cd = k) (hk : k ≠ 0) (e1 : V' 1 = nI k) (e0 : V' 0 = V 0) (e2 : V' 2 = V 2) : mQ cd val t' L' H s t L r (F, V') :=
  ⟨by rw [hc]; exact e1, fun e => absurd (hc.symm.trans e) hk, fun _ => mR_keep h e0 e2 rfl rfl⟩
theorem mQ_0 {cd s L L' : Nat} {val r : Int32} {H : Nat → St} {t t' : Nat → Nat} {F' : Nat → Nat → Int32} {V' : Nat → Int32} (hc : cd = 0) (e1 : V' 1 = 0) (h : mR F' V' H s t' L') (hr : r = val) : mQ cd val t' L' H s t L r (F', V') :=
  ⟨by rw [hc]; exact e1, fun _ => ⟨h, hr⟩, fun e => absurd hc e⟩
theorem app_ix {x : Int32} (h : inB x 32 126 = true) : x = nI (ix x) ∧ 32 ≤ ix x ∧ ix x ≤ 126 := by
  obtain ⟨h1, h2⟩ := inB_iff.mp h
  obtain ⟨j, hj, rfl⟩ := nI_of (x := x) (Int32.not_lt.mpr (Int32.le_trans (by decide) h1))
  rw [ix_nI hj]; exact ⟨rfl, (nI_leI (a := 32) (by omega) hj).mp h1, (nI_leI (b := 126) hj (by omega)).mp h2⟩
theorem tOK_app {Q : Nat → Int32} {t : Nat → Nat} {L : Nat} {x : Int32} (h : tOK Q t L) (hx : inB x 32 126 = true) : tOK (upd Q L x) (tApp t L x) (L + 1) := by
  intro p hp
  obtain ⟨e, h1, h2⟩ := app_ix hx
  by_cases hpl : p = L
  · subst hpl; simp [tApp, upd, h1, h2]; exact e
  · simp [tApp, upd, hpl]; exact h p (by omega)

theorem nxt_ix {R : St} (h : GR R) (hx : ¬ nxt R (nn R) = -1) : ix (nxt R (nn R)) < 12 ∧ nxt R (nn R) = nI (ix (nxt R (nn R))) := by
  obtain ⟨q, hq, e, -, -⟩ := nxt_ok hx
  have := h.n12
  rw [e, ix_nI (by omega)]; exact ⟨by omega, rfl⟩
