/-! TEXTS: what is read, as functions of the characters (numbers t p) and the length L -/
def dgO (t : Nat → Nat) (L p : Nat) : Bool := decide (p < L) && (decide (48 ≤ t p) && decide (t p ≤ 57))
def at_ (t : Nat → Nat) (L p x : Nat) : Bool := decide (p < L) && decide (t p = x)
/-- a number of at most hi, from p on, n read so far -/
def rdN (t : Nat → Nat) (L hi : Nat) : Nat → Nat → Nat → Nat × Nat
  | 0, p, n => (p, n)
  | k + 1, p, n => if dgO t L p = true ∧ ¬ 10 * n + (t p - 48) = 0 ∧ 10 * n + (t p - 48) ≤ hi then rdN t L hi k (p + 1) (10 * n + (t p - 48)) else (p, n)
theorem rdN_ok (t : Nat → Nat) (L hi : Nat) : ∀ (k p n : Nat), n ≤ hi → p ≤ L → p ≤ (rdN t L hi k p n).1 ∧ (rdN t L hi k p n).1 ≤ L ∧ (rdN t L hi k p n).2 ≤ hi
  | 0, p, n, hn, hp => ⟨Nat.le_refl _, hp, hn⟩
  | k + 1, p, n, hn, hp => by
    simp only [rdN]
    split
    · rename_i h
      have hpL : p < L := by have := h.1; simp [dgO] at this; exact this.1
      obtain ⟨h1, h2, h3⟩ := rdN_ok t L hi k (p + 1) (10 * n + (t p - 48)) h.2.2 (by omega)
      exact ⟨by omega, h2, h3⟩
    · exact ⟨Nat.le_refl _, hp, hn⟩
theorem rdN_t {t : Nat → Nat} {L hi k p n : Nat} (h1 : dgO t L p = true) (h2 : ¬ 10 * n + (t p - 48) = 0) (h3 : 10 * n + (t p - 48) ≤ hi) : rdN t L hi (k + 1) p n = rdN t L hi k (p + 1) (10 * n + (t p - 48)) := by
  simp only [rdN]; rw [if_pos ⟨h1, h2, h3⟩]
theorem rdN_f {t : Nat → Nat} {L hi k p n : Nat} (h : k = 0 ∨ ¬ (dgO t L p = true ∧ ¬ 10 * n + (t p - 48) = 0 ∧ 10 * n + (t p - 48) ≤ hi)) : rdN t L hi k p n = (p, n) := by
  cases k with
  | zero => rfl
  | succ k => simp only [rdN]; rw [if_neg (h.resolve_left (by omega))]
/-- behind the volume and the star of a submission: minutes, priority -/
def rdM (t : Nat → Nat) (L v q : Nat) : Option (Nat × Nat × Nat) × Nat :=
  if (rdN t L 20 (L - q) q 0).2 = 0 then (none, (rdN t L 20 (L - q) q 0).1)
  else if at_ t L (rdN t L 20 (L - q) q 0).1 33 = false then (some (v, (rdN t L 20 (L - q) q 0).2, 0), (rdN t L 20 (L - q) q 0).1)
  else if dgO t L ((rdN t L 20 (L - q) q 0).1 + 1) = false then (none, (rdN t L 20 (L - q) q 0).1 + 1)
  else (some (v, (rdN t L 20 (L - q) q 0).2, t ((rdN t L 20 (L - q) q 0).1 + 1) - 48), (rdN t L 20 (L - q) q 0).1 + 2)
/-- behind the letter of a submission: volume, minutes, priority, and where it goes on; or where it goes wrong -/
def rdJ (t : Nat → Nat) (L p : Nat) : Option (Nat × Nat × Nat) × Nat :=
  if (rdN t L 99 (L - p) p 0).2 = 0 then (none, (rdN t L 99 (L - p) p 0).1)
  else if at_ t L (rdN t L 99 (L - p) p 0).1 42 = false then (none, (rdN t L 99 (L - p) p 0).1)
  else rdM t L (rdN t L 99 (L - p) p 0).2 ((rdN t L 99 (L - p) p 0).1 + 1)
/-- a command: letter, number or volume, minutes, priority -/
abbrev Cmd : Type := Nat × Nat × Nat × Nat
def isJ (x : Nat) : Bool := decide (x = 114) || (decide (x = 119) || decide (x = 99))
def rdC (t : Nat → Nat) (L p : Nat) : Option Cmd × Nat :=
  if ¬ p < L then (none, p)
  else if isJ (t p) = true then ((rdJ t L (p + 1)).1.map (fun x => (t p, x)), (rdJ t L (p + 1)).2)
  else if t p = 116 then (if (rdN t L 99 (L - (p + 1)) (p + 1) 0).2 = 0 then (none, (rdN t L 99 (L - (p + 1)) (p + 1) 0).1) else (some (116, (rdN t L 99 (L - (p + 1)) (p + 1) 0).2, 0, 0), (rdN t L 99 (L - (p + 1)) (p + 1) 0).1))
  else if t p = 100 then (some (100, 0, 0, 0), p + 1)
  else (none, p)
/-- the commands of a text from p on, and where it goes wrong, if it does -/
def prs (t : Nat → Nat) (L : Nat) : Nat → Nat → List Cmd × Option Nat
  | 0, p => ([], some p)
  | k + 1, p => match rdC t L p with
    | (none, q) => ([], some q)
    | (some c, q) => if L ≤ q then ([c], none) else if at_ t L q 59 = false then ([c], some q) else (c :: (prs t L k (q + 1)).1, (prs t L k (q + 1)).2)
def errV : Option Nat → Int32
  | none => -1
  | some p => nI p
def tOK (Q : Nat → Int32) (t : Nat → Nat) (L : Nat) : Prop := ∀ p, p < L → Q p = nI (t p) ∧ 32 ≤ t p ∧ t p ≤ 126
/-- the cells of the text: P 0 length, 1 position, 2 command, 3 kind, 4 volume, 5 minutes, 6 priority -/
def tW (i : Nat → ClassId) (u : Nat → Nat) (Q : Nat → Int32) (P : Nat → Int32) : va_W :=
  [(u 0, .inr (0, [.ref (u 1), .int (P 0), .int (P 1), .int (P 2), .int (P 3), .int (P 4), .int (P 5), .int (P 6)])), (u 1, .inl (i 0, 80, .inl Q))]
theorem tW_P {i : Nat → ClassId} {u : Nat → Nat} {Q P : Nat → Int32} {v : Int32} (f : Nat) (h : f < 7) : (tW i u Q P).set 0 (u 0, .inr (0, ([.ref (u 1), .int (P 0), .int (P 1), .int (P 2), .int (P 3), .int (P 4), .int (P 5), .int (P 6)] : List Value).set (f + 1) (.int v))) = tW i u Q (upd P f v) := by
  match f, h with
  | 0, _ => rfl
  | 1, _ => rfl
  | 2, _ => rfl
  | 3, _ => rfl
  | 4, _ => rfl
  | 5, _ => rfl
  | 6, _ => rfl
theorem tW_C {i : Nat → ClassId} {u : Nat → Nat} {Q P : Nat → Int32} {j : Nat} {v : Int32} : (tW i u Q P).set 1 (u 1, .inl (i 0, 80, .inl (upd Q j v))) = tW i u (upd Q j v) P := rfl
/-- what stands at p, -1 at the end; a digit's value, or -1 -/
def chC (t : Nat → Nat) (L p : Nat) : Int32 := if p < L then nI (t p) else -1
def dgC (t : Nat → Nat) (L p : Nat) : Int32 := if dgO t L p = true then nI (t p - 48) else -1
theorem inB_lt {p L : Nat} (hp : p < 2 ^ 30) (hL : L < 2 ^ 30) : inB (nI p) 0 (dn L) = decide (p < L) := by
  unfold inB
  rw [show decide ((0 : Int32) ≤ nI p) = true from decide_eq_true (nI_pos' (by omega)), Bool.true_and]
  cases L with
  | zero =>
    rw [decide_eq_false (show ¬ p < 0 by omega)]
    exact decide_eq_false (fun h => nI_pos (n := p) (by omega) (Int32.lt_of_le_of_lt h (by decide)))
  | succ L => exact dec_iff ((nI_leI (by omega) (by omega)).trans Nat.lt_succ_iff.symm)
theorem inB_dg {t : Nat → Nat} {L p : Nat} (ht : ∀ q, q < L → t q < 1000) : inB (chC t L p) 48 57 = dgO t L p := by
  unfold inB chC dgO
  by_cases h : p < L
  · have := ht p h
    rw [if_pos h, decide_eq_true h, Bool.true_and, dec_iff (show (48 : Int32) ≤ nI (t p) ↔ 48 ≤ t p from nI_leI (a := 48) (by omega) (by omega)), dec_iff (show nI (t p) ≤ (57 : Int32) ↔ t p ≤ 57 from nI_leI (b := 57) (by omega) (by omega))]
  · rw [if_neg h, decide_eq_false h, Bool.false_and]
    decide
theorem chC_eq {t : Nat → Nat} {L p x : Nat} (ht : ∀ q, q < L → t q < 1000) (hx : x < 1000) : chC t L p = nI x ↔ at_ t L p x = true := by
  unfold chC at_
  by_cases h : p < L
  · have := ht p h
    rw [if_pos h, nI_eq (by omega) (by omega)]; simp [h]
  · rw [if_neg h]
    simp [h]
    exact fun e => nI_ne (n := x) (by omega) e.symm
theorem tOK.lt {Q : Nat → Int32} {t : Nat → Nat} {L : Nat} (h : tOK Q t L) : ∀ q, q < L → t q < 1000 := fun q hq => by have := (h q hq).2.2; omega
section ZSW
variable {g : zG} {C : zC} {cc : ByteArray} {own : String} {d mc ms k n : Nat} {ws : va_W} {lv : List (Nat × Value)} {pc : Nat} {st : List Value}
theorem z_lookup (hC : zOK g C cc own d mc ms) {dflt : Int} {ps : Array (Int × Int)} {len : Nat} {x : Int32} {off : Int} (tgt : Nat) (hdg : decode cc pc = .ok (.lookupswitch dflt ps, len)) (hp : (ps.toList.zip (ps.toList.drop 1)).all (fun (a, next) => a.1 < next.1) = true) (ht : (pc : Int) + off = (tgt : Int)) (ho : Op.lookupswitch.offset ps.toList dflt x.toInt = off) (h : Z g C k n ws lv tgt st) : Z g C k n ws lv pc (.int x :: st) :=
  fun H locs ls hP hD hS hl => lv_lookup hC.1 hC.2.1 hdg hp ho ht (h H locs ls hP hD hS hl)
theorem z_tableOut (hC : zOK g C cc own d mc ms) {dflt lo hi : Int} {offs : Array Int} {len : Nat} {x : Int32} (tgt : Nat) (hdg : decode cc pc = .ok (.tableswitch dflt lo hi offs, len)) (h1 : x.toInt < lo ∨ hi < x.toInt) (ht : (pc : Int) + dflt = (tgt : Int)) (h : Z g C k n ws lv tgt st) : Z g C k n ws lv pc (.int x :: st) :=
  fun H locs ls hP hD hS hl => lv_tableOut hC.1 hC.2.1 hdg h1 ht (h H locs ls hP hD hS hl)
theorem z_tableIn (hC : zOK g C cc own d mc ms) {dflt lo hi : Int} {offs : Array Int} {len : Nat} {x : Int32} {off : Int} (tgt : Nat) (hdg : decode cc pc = .ok (.tableswitch dflt lo hi offs, len)) (h1 : x.toInt - lo = ((x.toInt - lo).toNat : Int) ∧ ¬ hi < x.toInt ∧ offs[(x.toInt - lo).toNat]? = some off) (ht : (pc : Int) + off = (tgt : Int)) (h : Z g C k n ws lv tgt st) : Z g C k n ws lv pc (.int x :: st) :=
  fun H locs ls hP hD hS hl => lv_tableIn hC.1 hC.2.1 hdg (by omega) h1.2.1 h1.2.2 ht (h H locs ls hP hD hS hl)
end ZSW
/-- which way a switch over keys goes -/
theorem sw_hit {ps : List (Int × Int)} {d : Int} {x k : Int32} {o : Int} (h : x = k) (ho : Op.lookupswitch.offset ps d k.toInt = o) : Op.lookupswitch.offset ps d x.toInt = o := by rw [h]; exact ho
theorem sw_nil {d : Int} {x : Int32} : Op.lookupswitch.offset [] d x.toInt = d := rfl
