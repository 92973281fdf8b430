theorem jl_step {m k : Nat} {Q Q' : St} {x y z : Int32} {T : St × Int32} (h : stp Q m = (Q', x)) (hd : y + x = z) (e : jl m (k + 1) (Q, y) = T) : jl (m + 1) k (Q', z) = T := by
  rw [← e]; simp only [jl, h, hd]

/-- the two searches of isKept, counted from the low end -/
def keptA (R : St) (v : Int32) (m : Nat) : Bool := (List.range m).any (fun r => !scr R r && decide (R 0 r = v))
def keptB (R : St) (v : Int32) (m : Nat) : Bool := (List.range m).any (fun j => decide (R 6 j = 2) && (decide (R 7 j = v) && decide (R 10 j = 0)))
theorem keptA_s (R : St) (v : Int32) (m : Nat) : keptA R v (m + 1) = (keptA R v m || (!scr R m && decide (R 0 m = v))) := by simp [keptA, List.range_succ]
theorem keptB_s (R : St) (v : Int32) (m : Nat) : keptB R v (m + 1) = (keptB R v m || (decide (R 6 m = 2) && (decide (R 7 m = v) && decide (R 10 m = 0)))) := by simp [keptB, List.range_succ]
theorem bI_is {b : Bool} {x : Int32} (h : b = true ∧ x = 1 ∨ b = false ∧ x = 0) : x = bI b := by rcases h with ⟨rfl, rfl⟩ | ⟨rfl, rfl⟩ <;> rfl
