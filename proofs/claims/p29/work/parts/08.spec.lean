/-! WHAT THE ROOM DOES, as functions of its state -/
def inB (x y z : Int32) : Bool := decide (y ≤ x) && decide (x ≤ z)
theorem inB_1 {x y z : Int32} (h : x < y) : 0 = bI (inB x y z) := bI_f (by simp [inB, Int32.not_le.mpr h])
theorem inB_2 {x y z : Int32} (h : z < x) : 0 = bI (inB x y z) := bI_f (by simp [inB, Int32.not_le.mpr h])
theorem inB_3 {x y z : Int32} (h : ¬ x < y) (h2 : ¬ z < x) : 1 = bI (inB x y z) := bI_t (by simp [inB, Int32.not_lt.mp h, Int32.not_lt.mp h2])
theorem inB_iff {x y z : Int32} : inB x y z = true ↔ y ≤ x ∧ x ≤ z := by simp [inB]
def isReel (x : Int32) : Bool := inB x 0 11
def isJob (R : St) (x : Int32) : Bool := inB x 0 (R 14 10 - 1)
theorem dec_iff {p q : Prop} {hp : Decidable p} {hq : Decidable q} (h : p ↔ q) : @decide p hp = @decide q hq := by
  by_cases h1 : p
  · simp [h1, h.mp h1]
  · have h2 : ¬ q := fun z => h1 (h.mpr z)
    simp [h1, h2]
/-- numbers counted down -/
def dn : Nat → Int32
  | 0 => -1
  | k + 1 => nI k
theorem dn_step (k : Nat) : nI k + Int32.ofInt (-1) = dn k := by
  cases k with
  | zero => decide
  | succ k => exact pk_m1 k
theorem up_step (k : Nat) : nI k + Int32.ofInt 1 = nI (k + 1) := nI_1 k
theorem ofInt_1 : Int32.ofInt 1 = 1 := by decide
theorem dn_pred (k : Nat) : nI k - 1 = dn k := by
  cases k with
  | zero => decide
  | succ k => exact nI_pred k
theorem dn_0 : dn 0 < 0 := by decide
theorem nI_nlt0 {n : Nat} (h : n < 2 ^ 31) : ¬ nI n < 0 := nI_pos h
theorem nI_ne {n : Nat} (h : n < 2 ^ 31) : ¬ nI n = -1 := fun e => nI_pos h (by rw [e]; decide)
theorem nI_inj {a b : Nat} (ha : a < 2 ^ 31) (hb : b < 2 ^ 31) (h : nI a = nI b) : a = b := (nI_eq ha hb).mp h
/-- what fst_ finds -/
theorem fst_spec (p : Nat → Bool) : ∀ (k i : Nat), (fst_ p i k = -1 ∧ ∀ j, i ≤ j → j < i + k → p j = false) ∨ ∃ r, i ≤ r ∧ r < i + k ∧ fst_ p i k = nI r ∧ p r = true ∧ ∀ j, i ≤ j → j < r → p j = false
  | 0, i => Or.inl ⟨rfl, fun j h1 h2 => by omega⟩
  | k + 1, i => by
    by_cases h : p i = true
    · exact Or.inr ⟨i, Nat.le_refl _, by omega, by simp [fst_, h], h, fun j h1 h2 => by omega⟩
    · have e : fst_ p i (k + 1) = fst_ p (i + 1) k := by simp [fst_, h]
      have h' : p i = false := by simpa using h
      rcases fst_spec p k (i + 1) with ⟨h1, h2⟩ | ⟨r, h1, h2, h3, h4, h5⟩
      · refine Or.inl ⟨e.trans h1, fun j g1 g2 => ?_⟩
        rcases Nat.eq_or_lt_of_le g1 with rfl | g1
        · exact h'
        · exact h2 j g1 (by omega)
      · refine Or.inr ⟨r, by omega, by omega, e.trans h3, h4, fun j g1 g2 => ?_⟩
        rcases Nat.eq_or_lt_of_le g1 with rfl | g1
        · exact h'
        · exact h5 j g1 g2
/-- a reel on the shelf; scratch -/
def onSh (R : St) (r : Nat) : Bool := decide (R 5 r = -1)
def scr (R : St) (r : Nat) : Bool := decide (R 0 r = 0) || decide (R 3 r < R 14 0)
/-- the reel that is looked for -/
def sFind (R : St) (x : Int32) : Int32 := fst_ (fun r => onSh R r && decide (R 1 r = x)) 0 12
def want (R : St) (j : Nat) : Int32 := if R 6 j = 2 then 0 else R 7 j
def fnd (R : St) (j : Nat) : Int32 := sFind R (want R j)
/-- the next one behind a reel on the shelf -/
def aft (R : St) (x : Int32) : Int32 := if fst_ (fun q => onSh R q && decide (x < nI q)) 0 12 = -1 then fst_ (onSh R) 0 12 else fst_ (fun q => onSh R q && decide (x < nI q)) 0 12
def chk (R : St) (j r : Nat) : Int32 :=
  if ¬ R 6 j = 2 ∧ ¬ R 0 r = R 7 j then 1 else if R 6 j = 2 ∧ scr R r = false then 2 else if R 6 j = 0 ∧ R 2 r = 1 then 3 else if ¬ R 6 j = 0 ∧ R 2 r = 0 then 4 else 0
/-- the reel on a drive: the last of them (there is at most one) -/
def lst_ (p : Nat → Bool) : Nat → Int32
  | 0 => -1
  | k + 1 => if p k = true then nI k else lst_ p k
def onDr (R : St) (x : Int32) : Int32 := lst_ (fun r => decide (R 5 r = x)) 12
def edr (R : St) : Int32 := fst_ (fun d => decide (onDr R (nI d) = -1)) 0 3
/-- the next job -/
def elig (R : St) (j : Nat) : Bool := decide (R 10 j = 0) && decide (¬ fnd R j = -1)
/-- best of jobs j .. j + k - 1, by the one behind -/
def best (R : St) : Nat → Nat → Int32
  | _, 0 => -1
  | j, k + 1 => if elig R j = true ∧ (best R (j + 1) k = -1 ∨ R 9 (best R (j + 1) k).toNatClampNeg ≤ R 9 j) then nI j else best R (j + 1) k
def nxt (R : St) (n : Nat) : Int32 := best R 0 n
def slp (R : St) (m : Int32) : Bool := decide (¬ R 14 8 = 0) && decide (m - m / R 14 8 * R 14 8 = 0)
def mnt (R : St) (j r : Nat) (dr : Int32) : St :=
  if R 6 j = 2 then setS (setS (setS (setS (setS (setS (setS R 5 r dr) 10 j 1) 12 j (nI r)) 0 r (R 7 j)) 1 r (R 7 j)) 3 r (R 14 0 + R 14 9)) 4 r 0
  else setS (setS (setS R 5 r dr) 10 j 1) 12 j (nI r)
def sbk (R : St) (j r : Nat) : St := setS (setS (setS R 1 r (if scr R r = true then 0 else R 0 r)) 13 j (R 13 j + 1)) 14 4 (R 14 4 + 1)
/-- behind the choice of the reel r: checked, mounted or sent back -/
def srv2 (R : St) (j r : Nat) (dr : Int32) : St := if chk R j r = 0 then mnt R j r dr else sbk R j r
def srv (R : St) (j : Nat) (dr : Int32) : St :=
  if slp R (R 14 2 + 1) = true then srv2 (setS (setS R 14 2 (R 14 2 + 1)) 14 3 (R 14 3 + 1)) j (aft R (fnd R j)).toNatClampNeg dr
  else srv2 (setS (setS R 14 2 (R 14 2 + 1)) 2 (fnd R j).toNatClampNeg (if R 6 j = 0 then 0 else 1)) j (fnd R j).toNatClampNeg dr
def toff (R : St) (j r : Nat) : St := setS (setS R 5 r (-1)) 12 j (-1)
/-- a running job does a block -/
def blk (R : St) (j r : Nat) : St :=
  if R 6 j = 0 then setS (setS R 14 5 (R 14 5 + 1)) 11 j (R 11 j + 1)
  else if R 4 r = 99 then setS (setS R 14 7 (R 14 7 + 1)) 11 j (R 11 j + 1)
  else setS (setS (setS R 4 r (R 4 r + 1)) 14 6 (R 14 6 + 1)) 11 j (R 11 j + 1)
def rl (R : St) (j : Nat) : Nat := (R 12 j).toNatClampNeg
/-- a job's part of a minute; whether it becomes done -/
def stp (R : St) (j : Nat) : St × Int32 :=
  if R 10 j = 1 then
    (if R 11 j + 1 = R 8 j then (toff (setS (blk R j (rl R j)) 10 j 2) j (rl R j), 1) else (blk R j (rl R j), 0))
  else (R, 0)
def jl : Nat → Nat → St × Int32 → St × Int32
  | _, 0, s => s
  | j, k + 1, s => jl (j + 1) k ((stp s.1 j).1, s.2 + (stp s.1 j).2)
def sstep (R : St) (n : Nat) : St := if ¬ nxt R n = -1 ∧ ¬ edr R = -1 then srv R (nxt R n).toNatClampNeg (edr R) else R
def minu (R : St) (n : Nat) : St × Int32 := (setS (sstep (jl 0 n (R, 0)).1 n) 14 1 (sstep (jl 0 n (R, 0)).1 n 14 1 + 1), (jl 0 n (R, 0)).2)
def pas (n : Nat) : Nat → St × Int32 → St × Int32
  | 0, s => s
  | k + 1, s => pas n k ((minu s.1 n).1, s.2 + (minu s.1 n).2)
def kept (R : St) (n : Nat) (v : Int32) : Bool := (List.range 12).any (fun r => !scr R r && decide (R 0 r = v)) || (List.range n).any (fun j => decide (R 6 j = 2) && (decide (R 7 j = v) && decide (R 10 j = 0)))
def canS (R : St) (n : Nat) (kd v : Int32) : Bool := decide (n < 12) && (decide (¬ kd = 2) || !kept R n v)
def subm (R : St) (n : Nat) (kd v mi pr : Int32) : St := setS (setS (setS (setS (setS (setS (setS (setS (setS R 6 n kd) 7 n v) 8 n mi) 9 n pr) 10 n 0) 11 n 0) 12 n (-1)) 13 n 0) 14 10 (R 14 10 + 1)
def right (kd v mi pr : Int32) : Bool := inB kd 0 2 && (inB v 1 99 && (inB mi 1 20 && inB pr 0 9))
def cntS (R : St) (x : Int32) : Nat → Nat → Int32 → Int32
  | _, 0, m => m
  | j, k + 1, m => cntS R x (j + 1) k (m + (if R 10 j = x then 1 else 0))
def cntR (R : St) : Nat → Nat → Int32 → Int32
  | _, 0, m => m
  | j, k + 1, m => cntR R (j + 1) k (m + (if scr R j = true then 1 else 0))
