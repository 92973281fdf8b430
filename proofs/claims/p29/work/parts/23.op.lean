/-! THE OPERATIONS, as functions: a room R with a day up to 999, saved states H of number s, a text t of length L -/
def nn (R : St) : Nat := (R 14 10).toNatClampNeg
def ix (x : Int32) : Nat := x.toNatClampNeg
theorem ix_nI {n : Nat} (h : n < 2 ^ 31) : ix (nI n) = n := nI_clamp h
theorem nn_eq {R : St} {n : Nat} (h : Inv R n) : nn R = n := by
  unfold nn; rw [h.2.1, nI_clamp (by have := h.1; omega)]
def GR (R : St) : Prop := Inv R (nn R) ∧ R 14 0 ≤ 999
theorem gr_of {R : St} {n : Nat} (h : Inv R n) (hd : R 14 0 ≤ 999) : GR R := ⟨by rw [nn_eq h]; exact h, hd⟩
theorem GR.n12 {R : St} (h : GR R) : nn R ≤ 12 := h.1.1
theorem GR.num {R : St} (h : GR R) : R 14 10 = nI (nn R) := h.1.2.1
theorem in_ix {x : Int32} {n : Nat} {y : Int32} (hn : n < 2 ^ 31) (hy : y = nI n) (h : inB x 0 y = true) : ix x ≤ n ∧ x = nI (ix x) := by
  obtain ⟨h1, h2⟩ := inB_iff.mp h
  obtain ⟨j, hj, rfl⟩ := nI_of (Int32.not_lt.mpr h1)
  rw [hy] at h2
  have := (nI_leI hj hn).mp h2
  rw [ix_nI hj]
  exact ⟨this, rfl⟩
theorem job_ix {R : St} {x : Int32} (h : GR R) (hx : isJob R x = true) : ix x < nn R ∧ ix x < 12 ∧ x = nI (ix x) := by
  have hn := h.n12
  have hx' : inB x 0 (R 14 10 - 1) = true := hx
  have hz : ¬ nn R = 0 := fun e => by
    obtain ⟨h1, h2⟩ := inB_iff.mp hx'
    rw [h.num, e] at h2
    exact absurd (Int32.le_trans h1 h2) (by decide)
  have e : R 14 10 - 1 = nI (nn R - 1) := by
    rw [h.num, show nn R = (nn R - 1) + 1 by omega]; exact nI_pred _
  obtain ⟨h3, h4⟩ := in_ix (by omega) e hx'
  exact ⟨by omega, by omega, h4⟩
theorem reel_ix {x : Int32} (hx : isReel x = true) : ix x < 12 ∧ x = nI (ix x) := by
  obtain ⟨h3, h4⟩ := in_ix (n := 11) (by omega) rfl hx
  exact ⟨by omega, h4⟩
/-- the day stays in a minute -/
theorem day_blk {R : St} {j r : Nat} : blk R j r 14 0 = R 14 0 := by
  unfold blk; split
  · simp [setS_at]
  · split <;> simp [setS_at]
theorem day_stp {R : St} {j : Nat} : (stp R j).1 14 0 = R 14 0 := by
  unfold stp; split
  · split
    · simp [toff, setS_at, day_blk]
    · exact day_blk
  · rfl
theorem day_jl : ∀ (k j : Nat) (s : St × Int32), (jl j k s).1 14 0 = s.1 14 0
  | 0, _, _ => rfl
  | k + 1, j, s => (day_jl k (j + 1) _).trans day_stp
theorem day_srv2 {R : St} {j r : Nat} {d : Int32} : srv2 R j r d 14 0 = R 14 0 := by
  unfold srv2; split
  · unfold mnt; split <;> simp [setS_at]
  · simp [sbk, setS_at]
theorem day_sstep {R : St} {n : Nat} : sstep R n 14 0 = R 14 0 := by
  unfold sstep; split
  · unfold srv; split
    · rw [day_srv2]; simp [setS_at]
    · rw [day_srv2]; simp [setS_at]
  · rfl
theorem day_minu {R : St} {n : Nat} : (minu R n).1 14 0 = R 14 0 := by
  simp only [minu]; rw [setS_j _ _ _ (by decide), day_sstep, day_jl]
theorem day_pas {n : Nat} : ∀ (k : Nat) (s : St × Int32), (pas n k s).1 14 0 = s.1 14 0
  | 0, _ => rfl
  | k + 1, s => (day_pas k _).trans day_minu
theorem gr_pas {R : St} {k : Nat} {d : Int32} (h : GR R) : GR (pas (nn R) k (R, d)).1 := gr_of (inv_pas k (R, d) h.1) (by rw [day_pas]; exact h.2)
theorem gr_day {R : St} (h : GR R) (hd : ¬ R 14 0 = 999) : GR (setS R 14 0 (R 14 0 + 1)) := by
  refine gr_of (inv_num (by decide) h.1) ?_
  rw [setS_eq]
  have h2 := h.2
  have hlt : R 14 0 < 999 := by
    rcases Int32.lt_or_eq_of_le h2 with h3 | h3
    · exact h3
    · exact absurd h3 hd
  have h3 := i32_succ hlt
  rw [Int32.le_iff_toInt_le, h3]
  exact Int.add_one_le_iff.mpr (Int32.lt_iff_toInt_lt.mp hlt)
theorem inv_subm {R : St} {n : Nat} {kd v mi pr : Int32} (h : Inv R n) (hn : n < 12) (hm : 0 < mi) (hp : 0 ≤ pr) : Inv (subm R n kd v mi pr) (n + 1) := by
  refine ⟨hn, ?_, fun j hj => ?_, fun r hr => ?_, fun r r' hr hr' e1 e2 => ?_⟩
  · show R 14 10 + 1 = nI (n + 1)
    rw [h.2.1]; exact nI_1 n
  · by_cases hjn : j = n
    · subst hjn
      refine ⟨fun e => ?_, fun _ => ?_, ?_, fun _ => ?_, Or.inl ?_⟩
      · simp [subm, setS_at] at e
      · simp [subm, setS_at]
      · simp [subm, setS_at, hp]
      · simp [subm, setS_at, hm]
      · simp [subm, setS_at]
    · have e : ∀ c, 5 < c → c < 14 → subm R n kd v mi pr c j = R c j := fun c h1 h2 => by
        simp [subm, setS_at, hjn, show c ≠ 14 by omega]
      have := h.2.2.1 j (by omega)
      unfold JI
      rw [e 10 (by decide) (by decide), e 12 (by decide) (by decide), e 9 (by decide) (by decide), e 11 (by decide) (by decide), e 8 (by decide) (by decide)]
      exact this
  · have e : ∀ c, c < 6 → subm R n kd v mi pr c r = R c r := fun c h1 => by
      simp [subm, setS_at, show c ≠ 6 by omega, show c ≠ 7 by omega, show c ≠ 8 by omega, show c ≠ 9 by omega, show c ≠ 10 by omega, show c ≠ 11 by omega, show c ≠ 12 by omega, show c ≠ 13 by omega, show c ≠ 14 by omega]
    unfold RI
    rw [e 2 (by decide), e 4 (by decide)]
    exact h.2.2.2.1 r hr
  · have e : ∀ q, subm R n kd v mi pr 5 q = R 5 q := fun q => by simp [subm, setS_at]
    rw [e, e] at e1
    rw [e] at e2
    exact h.2.2.2.2 r r' hr hr' e1 e2
theorem day_subm {R : St} {n : Nat} {kd v mi pr : Int32} : subm R n kd v mi pr 14 0 = R 14 0 := by simp [subm, setS_at]
theorem canS_n {R : St} {n : Nat} {x y : Int32} (h : canS R n x y = true) : n < 12 := by
  simp [canS] at h; exact h.1
theorem gr_subm {R : St} {kd v mi pr : Int32} (h : GR R) (hc : canS R (nn R) kd v = true) (hm : 0 < mi) (hp : 0 ≤ pr) : GR (subm R (nn R) kd v mi pr) :=
  gr_of (inv_subm h.1 (canS_n hc) hm hp) (by rw [day_subm]; exact h.2)
theorem right_m {x y z u : Int32} (h : right x y z u = true) : 0 < z ∧ 0 ≤ u := by
  simp only [right, Bool.and_eq_true] at h
  have h1 := (inB_iff.mp h.2.2.1).1
  have h2 := (inB_iff.mp h.2.2.2).1
  refine ⟨?_, h2⟩
  rw [Int32.lt_iff_toInt_lt]; rw [Int32.le_iff_toInt_le] at h1
  have e1 : (1 : Int32).toInt = 1 := by decide
  have e0 : (0 : Int32).toInt = 0 := by decide
  omega
/-- a cancelled job -/
def rCan (R : St) (j : Nat) : St := if R 10 j = 1 then toff (setS R 10 j 3) j (rl R j) else setS R 10 j 3
theorem gr_can {R : St} {j : Nat} (h : GR R) (hj : j < nn R) (hs : ¬ 1 < R 10 j) : GR (rCan R j) := by
  have hJ := h.1.2.2.1 j hj
  unfold rCan; split
  · rename_i h1
    obtain ⟨r, hr, h2⟩ := hJ.1 h1
    rw [rl_eq h2 hr]
    refine gr_of (inv_end (Q := R) (s := 3) h.1 hj (Or.inr rfl) (fun _ _ _ _ _ => rfl) (fun r hr => (h.1.2.2.2.1 r hr).2) rfl (fun _ _ => rfl)) ?_
    simp [toff, setS_at]; exact h.2
  · rename_i h1
    refine gr_of (n := nn R) ⟨h.1.1, ?_, fun i hi => ?_, ?_, ?_⟩ (by simp [setS_at]; exact h.2)
    · rw [setS_c _ _ _ (by decide)]; exact h.1.2.1
    · have hI := h.1.2.2.1 i hi
      by_cases hij : i = j
      · subst hij
        unfold JI
        rw [setS_eq]; simp only [setS_at]
        exact ⟨fun e => absurd e (by decide), fun _ => by simpa using hI.2.1 h1, by simpa using hI.2.2.1, fun e => by rcases e with e | e <;> exact absurd e (by decide), by simp⟩
      · unfold JI
        rw [setS_j _ _ _ hij]; simp only [setS_at]
        simpa [JI] using hI
    · exact h.1.2.2.2.1
    · exact h.1.2.2.2.2
theorem gr_1 {R : St} {r : Nat} {v : Int32} (h : GR R) : GR (setS R 1 r v) := gr_of (inv_1 h.1) h.2
theorem gr_2 {R : St} {r : Nat} {v : Int32} (hv : v = 0 ∨ v = 1) (h : GR R) : GR (setS R 2 r v) := gr_of (inv_2 hv h.1) h.2
theorem gr_set {R : St} {k : Nat} {v : Int32} (hk : k ≠ 10) (h0 : k ≠ 0) (h : GR R) : GR (setS R 14 k v) := gr_of (inv_num hk h.1) (by rw [setS_j _ _ _ (Ne.symm h0)]; exact h.2)
/-! commands carried out -/
def cOK (c : Cmd) : Prop := (c.1 = 116 ∧ 1 ≤ c.2.1 ∧ c.2.1 ≤ 99) ∨ c = (100, 0, 0, 0) ∨ ((c.1 = 114 ∨ c.1 = 119 ∨ c.1 = 99) ∧ (1 ≤ c.2.1 ∧ c.2.1 ≤ 99) ∧ (1 ≤ c.2.2.1 ∧ c.2.2.1 ≤ 20) ∧ c.2.2.2 ≤ 9)
theorem rdJ_ok {t : Nat → Nat} {L p : Nat} {z : Nat × Nat × Nat} (hp : p ≤ L) (h : (rdJ t L p).1 = some z) : (1 ≤ z.1 ∧ z.1 ≤ 99) ∧ (1 ≤ z.2.1 ∧ z.2.1 ≤ 20) ∧ z.2.2 ≤ 9 := by
  obtain ⟨p1, v, e1⟩ : ∃ p1 v, rdN t L 99 (L - p) p 0 = (p1, v) := ⟨_, _, rfl⟩
  obtain ⟨_, g1, g2⟩ := rdN_ok t L 99 (L - p) p 0 (by omega) hp
  rw [e1] at g1 g2; dsimp only at g1 g2
  simp only [rdJ, e1] at h
  split at h
  · cases h
  · rename_i hv
    split at h
    · cases h
    · rename_i ha
      have ha := (at_s (by simpa using ha)).1
      obtain ⟨p2, m, e2⟩ : ∃ p2 m, rdN t L 20 (L - (p1 + 1)) (p1 + 1) 0 = (p2, m) := ⟨_, _, rfl⟩
      obtain ⟨_, g3, g4⟩ := rdN_ok t L 20 (L - (p1 + 1)) (p1 + 1) 0 (by omega) (by omega)
      rw [e2] at g3 g4; dsimp only at g3 g4
      simp only [rdM, e2] at h
      split at h
      · cases h
      · rename_i hm
        split at h
        · cases h; dsimp only; omega
        · split at h
          · cases h
          · rename_i hd
            have hd := dgO_s (by simpa using hd)
            cases h; dsimp only; omega
theorem rdC_ok {t : Nat → Nat} {L p q : Nat} {c : Cmd} (h : rdC t L p = (some c, q)) : cOK c := by
  unfold rdC at h
  split at h
  · cases h
  · rename_i hl
    split at h
    · rename_i hj
      obtain ⟨z, hz, e⟩ := Option.map_eq_some_iff.mp (congrArg Prod.fst h)
      have := rdJ_ok (by omega) hz
      subst e
      simp [isJ] at hj
      exact Or.inr (Or.inr ⟨by dsimp only; omega, this⟩)
    · split at h
      · have := rdN_ok t L 99 (L - (p + 1)) (p + 1) 0 (by omega) (by omega)
        split at h
        · cases h
        · cases h; exact Or.inl ⟨rfl, by dsimp only; omega, this.2.2⟩
      · split at h
        · cases h; exact Or.inr (Or.inl rfl)
        · cases h
theorem prs_ok {t : Nat → Nat} {L : Nat} : ∀ (k p : Nat) (c : Cmd), c ∈ (prs t L k p).1 → cOK c
  | 0, p, c, h => by simp [prs] at h
  | k + 1, p, c, h => by
    rcases e : rdC t L p with ⟨_ | x, q⟩
    · simp [prs, e] at h
    · have hx := rdC_ok e
      simp only [prs, e] at h
      split at h
      · simp at h; subst h; exact hx
      · split at h
        · simp at h; subst h; exact hx
        · rcases List.mem_cons.mp h with h | h
          · subst h; exact hx
          · exact prs_ok k (q + 1) c h
def exC (c : Cmd) (R : St) : Option St :=
  if c.1 = 116 then some (pas (nn R) c.2.1 (R, 0)).1
  else if c.1 = 100 then (if R 14 0 < 999 then some (setS R 14 0 (R 14 0 + 1)) else none)
  else if canS R (nn R) (kd c.1) (nI c.2.1) = true then some (subm R (nn R) (kd c.1) (nI c.2.1) (nI c.2.2.1) (nI c.2.2.2)) else none
theorem gr_exC {c : Cmd} {R R' : St} (h : GR R) (hc : cOK c) (e : exC c R = some R') : GR R' := by
  unfold exC at e
  split at e
  · cases e; exact gr_pas h
  · split at e
    · split at e
      · rename_i hd
        cases e; exact gr_day h (fun z => absurd hd (by rw [z]; decide))
      · cases e
    · rename_i h1 h2
      split at e
      · rename_i h3
        cases e
        rcases hc with hc | hc | hc
        · exact absurd hc.1 h1
        · rw [hc] at h2; exact absurd rfl h2
        · exact gr_subm h h3 (nI_lt (a := 0) (by omega) (by omega)) (nI_pos' (by omega))
      · cases e
/-- commands one after another, up to the first that cannot be; how many -/
def runC : List Cmd → St → Nat → St × Nat
  | [], R, m => (R, m)
  | c :: cs, R, m => match exC c R with
    | none => (R, m)
    | some R' => runC cs R' (m + 1)
theorem gr_runC : ∀ (cs : List Cmd) (R : St) (m : Nat), GR R → (∀ c, c ∈ cs → cOK c) → GR (runC cs R m).1
  | [], R, m, h, _ => h
  | c :: cs, R, m, h, hc => by
    cases e : exC c R with
    | none => simp [runC, e]; exact h
    | some R' => simp [runC, e]; exact gr_runC cs R' (m + 1) (gr_exC h (hc c List.mem_cons_self) e) (fun x hx => hc x (List.mem_cons_of_mem _ hx))
theorem runC_n {c : Cmd} {cs : List Cmd} {R : St} {m : Nat} (e : exC c R = none) : runC (c :: cs) R m = (R, m) := by simp [runC, e]
theorem runC_s {c : Cmd} {cs : List Cmd} {R R' : St} {m : Nat} (e : exC c R = some R') : runC (c :: cs) R m = runC cs R' (m + 1) := by simp [runC, e]
/-! which exception, 0 for none -/
def cSub (R : St) (x y z u : Int32) : Nat := if right x y z u = false then 1 else if canS R (nn R) x y = false then 2 else 0
def cCan (R : St) (x : Int32) : Nat := if isJob R x = false then 1 else if 1 < R 10 (ix x) then 2 else 0
def cSti (x y : Int32) : Nat := if isReel x = false then 1 else if inB y 0 99 = false then 2 else 0
def cRing (R : St) (x : Int32) : Nat := if isReel x = false then 1 else if onSh R (ix x) = false then 2 else 0
def cPass (x : Int32) : Nat := if inB x 1 99 = false then 1 else 0
def cDay (R : St) : Nat := if R 14 0 = 999 then 1 else 0
def cSet (x y : Int32) : Nat := if inB x 0 1 = false then 1 else if inB y 0 (if x = 0 then 9 else 99) = false then 2 else 0
def cApp (L : Nat) (x : Int32) : Nat := if inB x 32 126 = false then 1 else if L = 80 then 2 else 0
def cRun (t : Nat → Nat) (L : Nat) : Nat := if (prs t L 80 0).2 = none then 0 else 1
def cUndo (s : Nat) : Nat := if s = 0 then 1 else 0
def cReel (x y : Int32) : Nat := if isReel x = false then 1 else if y = 6 then 0 else if inB y 0 5 = false then 2 else 0
def vReel (R : St) (x y : Int32) : Int32 := if y = 6 then bI (scr R (ix x)) else R (ix y) (ix x)
def cOn (x : Int32) : Nat := if inB x 0 2 = false then 1 else 0
def cJob (R : St) (x y : Int32) : Nat := if isJob R x = false then 1 else if inB y 0 7 = false then 2 else 0
def vJob (R : St) (x y : Int32) : Int32 := R (6 + ix y) (ix x)
def cIs (R : St) (x : Int32) : Nat := if isJob R x = false then 1 else 0
def vStuck (R : St) (x : Int32) : Int32 := bI (decide (R 10 (ix x) = 0) && decide (fnd R (ix x) = -1))
def cVer (R : St) (x y : Int32) : Nat := if isJob R x = false then 1 else if isReel y = false then 1 else 0
def vNextR (R : St) : Int32 := if nxt R (nn R) = -1 then -1 else if slp R (R 14 2 + 1) = true then aft R (fnd R (ix (nxt R (nn R)))) else fnd R (ix (nxt R (nn R)))
def cCnt (x : Int32) : Nat := if inB x 0 10 = false then 1 else 0
def vCnt (R : St) (x : Int32) : Int32 := if x < 8 then R 14 (ix x) else cntS R (x - 8) 0 (nn R) 0
