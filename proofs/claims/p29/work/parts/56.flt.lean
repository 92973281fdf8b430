/-! success, drawing nothing -/
theorem suc_fin {a b : Int32} (hb : ¬ b = 0) : FP.Core.val64 (FP.ddiv (FP.i2d a) (FP.i2d b)) ≠ .nan := by
  have ha : FP.Core.Whole a.toInt (FP.Core.val64 (FP.i2d a)) := FP.Core.i2d_int a
  have hc : FP.Core.Whole b.toInt (FP.Core.val64 (FP.i2d b)) := FP.Core.i2d_int b
  have e : FP.Core.val64 (FP.ddiv (FP.i2d a) (FP.i2d b)) = FP.Core.quotient FP.Core.b64 (FP.Core.val64 (FP.i2d a)) (FP.Core.val64 (FP.i2d b)) := FP.Core.val64_ddiv _ _
  rw [e]
  have hb0 : b.toInt ≠ 0 := fun q => hb (Int32.toInt_inj.mp (q.trans (by decide)))
  cases h1 : FP.Core.val64 (FP.i2d a) with
  | nan => rw [h1] at ha; exact ha.elim
  | inf s => rw [h1] at ha; exact ha.elim
  | fin s c q =>
    cases h2 : FP.Core.val64 (FP.i2d b) with
    | nan => rw [h2] at hc; exact hc.elim
    | inf s => rw [h2] at hc; exact hc.elim
    | fin t d r =>
      rw [h2] at hc
      have h3 : FP.Core.signed t (d * 2 ^ r.toNat) = b.toInt * ((2 ^ (-r).toNat : Nat) : Int) := hc
      have hd : ¬ d = 0 := fun z => by
        rw [z, Nat.zero_mul, show FP.Core.signed t 0 = 0 by cases t <;> rfl] at h3
        have hp : ((2 ^ (-r).toNat : Nat) : Int) ≠ 0 := by
          have := Nat.two_pow_pos (-r).toNat
          omega
        rcases Int.mul_eq_zero.mp h3.symm with q1 | q1
        · exact hb0 q1
        · exact hp q1
      show (if d = 0 then (if c = 0 then FP.Core.Datum.nan else FP.Core.Datum.inf (s != t)) else FP.Core.roundRatio FP.Core.b64 (s != t) c d (q - r)) ≠ FP.Core.Datum.nan
      rw [if_neg hd]
      exact FP.Core.roundRatio_ne_nan _ _ _ _ _
theorem n64_of {r : UInt64} (h : FP.Core.val64 r ≠ .nan) : vf_n64 r := by
  apply Classical.byContradiction
  intro hn
  unfold vf_n64 at hn
  have h1 : isNaN64 r = true := by
    unfold isNaN64
    rw [decide_eq_true_eq]
    exact UInt64.not_le.mp hn
  have h2 := nan_cmp h1
  have h3 : FP.dcmp r r = some .eq := FP.Core.dcmp_self h
  rw [h2] at h3
  cases h3
theorem suc_n64 {a b : Int32} (hb : ¬ b = 0) : vf_n64 (FP.ddiv (FP.i2d a) (FP.i2d b)) := n64_of (suc_fin hb)
theorem suc_cmp (R : St) : FP.dcmp (sucD R) (sucD R) = some .eq := by
  unfold sucD
  split
  · decide +kernel
  · rename_i h
    exact FP.Core.dcmp_self (suc_fin h)
set_option maxRecDepth 100000 in
set_option maxHeartbeats 4000000 in
theorem n_success {g : zG} {x : Nat} {u c a h : Nat → Nat} {e : Nat → Nat → Nat} {Q P : Nat → Int32} {T R : St} {s p : Nat} {K : Nat → St} : FN (S := Unit) g yX5_success cX5_success 1 0 [.ref x] (xW g.2 x u c a h e Q P T R (nI s) (nI p) K) (fun r _ => r = sucD R) (fun _ => xW g.2 x u c a h e Q P T R (nI s) (nI p) K) := by
  refine fn_entry (by decide) (Nat.le_of_ble_eq_true rfl) (fun C hC hm hE => ?_)
  refine z_aln (pc := 0) hC 0 rfl dX5_success_0 ?_
  refine z_get (pc := 1) hC fX5_10 0 rfl rfl dX5_success_1 ?_
  refine z_get (pc := 4) hC fX5_244 20 rfl rfl dX5_success_4 ?_
  refine z_ifne (pc := 7) hC 12 (by decide) dX5_success_7 (fun c7 => ?_) (fun c7 => ?_)
  · refine z_aln (pc := 12) hC 0 rfl dX5_success_12 ?_
    refine z_get (pc := 13) hC fX5_10 0 rfl rfl dX5_success_13 ?_
    refine z_get (pc := 16) hC fX5_244 20 rfl rfl dX5_success_16 ?_
    refine z_aln (pc := 19) hC 0 rfl dX5_success_19 ?_
    refine z_get (pc := 20) hC fX5_10 0 rfl rfl dX5_success_20 ?_
    refine z_get (pc := 23) hC fX5_264 20 rfl rfl dX5_success_23 ?_
    refine z_isub (pc := 26) (v := (R 14 2) - (R 14 4)) hC rfl dX5_success_26 ?_
    refine z_i2d (pc := 27) hC dX5_success_27 ?_
    refine z_aln (pc := 28) hC 0 rfl dX5_success_28 ?_
    refine z_get (pc := 29) hC fX5_10 0 rfl rfl dX5_success_29 ?_
    refine z_get (pc := 32) hC fX5_244 20 rfl rfl dX5_success_32 ?_
    refine z_i2d (pc := 35) hC dX5_success_35 ?_
    refine z_ddiv (pc := 36) hC (suc_n64 c7) dX5_success_36 ?_
    exact hE _ _ _ () _ dX5_success_37 (by rw [sucD, if_neg c7]) rfl
  · refine z_dconst1 (pc := 10) hC dX5_success_10 ?_
    exact hE _ _ _ () _ dX5_success_11 (by rw [sucD, if_pos c7]) rfl
