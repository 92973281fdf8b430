section
-- ===== PART A: goes FIRST, ahead of the names: the tables' words, and 'selects' of the private methods out of them =====
/-- a private method of a class that the tables say can be made, by its rows of tables_1 -/
def lw_okq (q : MethodName × Nat) : Prop := (q.1.cls ≠ "java/lang/invoke/MethodHandle" ∧ q.1.cls ≠ "java/lang/invoke/VarHandle") ∧ Cond.instantiable q.1.cls q.2 ∈ tables_1 ∧ Cond.privateMethod q.1 ∈ tables_1 ∧ Cond.instanceMethod q.1 ∈ tables_1
theorem lw_p0 : lw_okq (⟨"java/lang/Throwable", "fillInStackTrace", "(I)Ljava/lang/Throwable;"⟩, 6) := ⟨⟨by decide +kernel, by decide +kernel⟩, List.mem_of_getElem? (i := 396) (by decide +kernel), List.mem_of_getElem? (i := 394) (by decide +kernel), List.mem_of_getElem? (i := 395) (by decide +kernel)⟩
theorem lw_p1 : lw_okq (⟨"ReelConsole", "execute", "()Z"⟩, 4) := ⟨⟨by decide +kernel, by decide +kernel⟩, List.mem_of_getElem? (i := 17) (by decide +kernel), List.mem_of_getElem? (i := 635) (by decide +kernel), List.mem_of_getElem? (i := 636) (by decide +kernel)⟩
theorem lw_p2 : lw_okq (⟨"ReelConsoleModel", "put", "(III)V"⟩, 14) := ⟨⟨by decide +kernel, by decide +kernel⟩, List.mem_of_getElem? (i := 715) (by decide +kernel), List.mem_of_getElem? (i := 721) (by decide +kernel), List.mem_of_getElem? (i := 722) (by decide +kernel)⟩
theorem lw_p3 : lw_okq (⟨"ReelConsoleModel", "fails", "(I)I"⟩, 14) := ⟨⟨by decide +kernel, by decide +kernel⟩, List.mem_of_getElem? (i := 715) (by decide +kernel), List.mem_of_getElem? (i := 776) (by decide +kernel), List.mem_of_getElem? (i := 777) (by decide +kernel)⟩
theorem lw_p4 : lw_okq (⟨"ReelConsoleModel", "canSubmit", "(II)Z"⟩, 14) := ⟨⟨by decide +kernel, by decide +kernel⟩, List.mem_of_getElem? (i := 715) (by decide +kernel), List.mem_of_getElem? (i := 790) (by decide +kernel), List.mem_of_getElem? (i := 791) (by decide +kernel)⟩
theorem lw_p5 : lw_okq (⟨"ReelConsoleModel", "isKept", "(I)Z"⟩, 14) := ⟨⟨by decide +kernel, by decide +kernel⟩, List.mem_of_getElem? (i := 715) (by decide +kernel), List.mem_of_getElem? (i := 794) (by decide +kernel), List.mem_of_getElem? (i := 795) (by decide +kernel)⟩
theorem lw_p6 : lw_okq (⟨"ReelConsoleModel", "isScratch", "(I)Z"⟩, 14) := ⟨⟨by decide +kernel, by decide +kernel⟩, List.mem_of_getElem? (i := 715) (by decide +kernel), List.mem_of_getElem? (i := 798) (by decide +kernel), List.mem_of_getElem? (i := 799) (by decide +kernel)⟩
theorem lw_p7 : lw_okq (⟨"ReelConsoleModel", "of", "(II)I"⟩, 14) := ⟨⟨by decide +kernel, by decide +kernel⟩, List.mem_of_getElem? (i := 715) (by decide +kernel), List.mem_of_getElem? (i := 802) (by decide +kernel), List.mem_of_getElem? (i := 803) (by decide +kernel)⟩
theorem lw_p8 : lw_okq (⟨"ReelConsoleModel", "ofJob", "(II)I"⟩, 14) := ⟨⟨by decide +kernel, by decide +kernel⟩, List.mem_of_getElem? (i := 715) (by decide +kernel), List.mem_of_getElem? (i := 806) (by decide +kernel), List.mem_of_getElem? (i := 807) (by decide +kernel)⟩
theorem lw_p9 : lw_okq (⟨"ReelConsoleModel", "save", "()V"⟩, 14) := ⟨⟨by decide +kernel, by decide +kernel⟩, List.mem_of_getElem? (i := 715) (by decide +kernel), List.mem_of_getElem? (i := 810) (by decide +kernel), List.mem_of_getElem? (i := 811) (by decide +kernel)⟩
theorem lw_p10 : lw_okq (⟨"ReelConsoleModel", "submitNow", "(IIII)I"⟩, 14) := ⟨⟨by decide +kernel, by decide +kernel⟩, List.mem_of_getElem? (i := 715) (by decide +kernel), List.mem_of_getElem? (i := 814) (by decide +kernel), List.mem_of_getElem? (i := 815) (by decide +kernel)⟩
theorem lw_p11 : lw_okq (⟨"ReelConsoleModel", "putJob", "(III)V"⟩, 14) := ⟨⟨by decide +kernel, by decide +kernel⟩, List.mem_of_getElem? (i := 715) (by decide +kernel), List.mem_of_getElem? (i := 818) (by decide +kernel), List.mem_of_getElem? (i := 819) (by decide +kernel)⟩
theorem lw_p12 : lw_okq (⟨"ReelConsoleModel", "isJob", "(I)Z"⟩, 14) := ⟨⟨by decide +kernel, by decide +kernel⟩, List.mem_of_getElem? (i := 715) (by decide +kernel), List.mem_of_getElem? (i := 826) (by decide +kernel), List.mem_of_getElem? (i := 827) (by decide +kernel)⟩
theorem lw_p13 : lw_okq (⟨"ReelConsoleModel", "takeOff", "(I)V"⟩, 14) := ⟨⟨by decide +kernel, by decide +kernel⟩, List.mem_of_getElem? (i := 715) (by decide +kernel), List.mem_of_getElem? (i := 830) (by decide +kernel), List.mem_of_getElem? (i := 831) (by decide +kernel)⟩
theorem lw_p14 : lw_okq (⟨"ReelConsoleModel", "isOnShelf", "(I)Z"⟩, 14) := ⟨⟨by decide +kernel, by decide +kernel⟩, List.mem_of_getElem? (i := 715) (by decide +kernel), List.mem_of_getElem? (i := 845) (by decide +kernel), List.mem_of_getElem? (i := 846) (by decide +kernel)⟩
theorem lw_p15 : lw_okq (⟨"ReelConsoleModel", "passNow", "(I)I"⟩, 14) := ⟨⟨by decide +kernel, by decide +kernel⟩, List.mem_of_getElem? (i := 715) (by decide +kernel), List.mem_of_getElem? (i := 853) (by decide +kernel), List.mem_of_getElem? (i := 854) (by decide +kernel)⟩
def lw_privs_1 : List (MethodName × Nat) := [(⟨"java/lang/Throwable", "fillInStackTrace", "(I)Ljava/lang/Throwable;"⟩, 6), (⟨"ReelConsole", "execute", "()Z"⟩, 4), (⟨"ReelConsoleModel", "put", "(III)V"⟩, 14), (⟨"ReelConsoleModel", "fails", "(I)I"⟩, 14), (⟨"ReelConsoleModel", "canSubmit", "(II)Z"⟩, 14), (⟨"ReelConsoleModel", "isKept", "(I)Z"⟩, 14), (⟨"ReelConsoleModel", "isScratch", "(I)Z"⟩, 14), (⟨"ReelConsoleModel", "of", "(II)I"⟩, 14), (⟨"ReelConsoleModel", "ofJob", "(II)I"⟩, 14), (⟨"ReelConsoleModel", "save", "()V"⟩, 14), (⟨"ReelConsoleModel", "submitNow", "(IIII)I"⟩, 14), (⟨"ReelConsoleModel", "putJob", "(III)V"⟩, 14), (⟨"ReelConsoleModel", "isJob", "(I)Z"⟩, 14), (⟨"ReelConsoleModel", "takeOff", "(I)V"⟩, 14), (⟨"ReelConsoleModel", "isOnShelf", "(I)Z"⟩, 14), (⟨"ReelConsoleModel", "passNow", "(I)I"⟩, 14)]
theorem lw_r1 : ∀ q ∈ lw_privs_1, lw_okq q := List.forall_mem_cons.mpr ⟨lw_p0, List.forall_mem_cons.mpr ⟨lw_p1, List.forall_mem_cons.mpr ⟨lw_p2, List.forall_mem_cons.mpr ⟨lw_p3, List.forall_mem_cons.mpr ⟨lw_p4, List.forall_mem_cons.mpr ⟨lw_p5, List.forall_mem_cons.mpr ⟨lw_p6, List.forall_mem_cons.mpr ⟨lw_p7, List.forall_mem_cons.mpr ⟨lw_p8, List.forall_mem_cons.mpr ⟨lw_p9, List.forall_mem_cons.mpr ⟨lw_p10, List.forall_mem_cons.mpr ⟨lw_p11, List.forall_mem_cons.mpr ⟨lw_p12, List.forall_mem_cons.mpr ⟨lw_p13, List.forall_mem_cons.mpr ⟨lw_p14, List.forall_mem_cons.mpr ⟨lw_p15, fun _ h => absurd h List.not_mem_nil⟩⟩⟩⟩⟩⟩⟩⟩⟩⟩⟩⟩⟩⟩⟩⟩
theorem lw_p16 : lw_okq (⟨"ReelConsoleModel", "minute", "()I"⟩, 14) := ⟨⟨by decide +kernel, by decide +kernel⟩, List.mem_of_getElem? (i := 715) (by decide +kernel), List.mem_of_getElem? (i := 857) (by decide +kernel), List.mem_of_getElem? (i := 858) (by decide +kernel)⟩
theorem lw_p17 : lw_okq (⟨"ReelConsoleModel", "isDoneNow", "(I)Z"⟩, 14) := ⟨⟨by decide +kernel, by decide +kernel⟩, List.mem_of_getElem? (i := 715) (by decide +kernel), List.mem_of_getElem? (i := 861) (by decide +kernel), List.mem_of_getElem? (i := 862) (by decide +kernel)⟩
theorem lw_p18 : lw_okq (⟨"ReelConsoleModel", "next", "()I"⟩, 14) := ⟨⟨by decide +kernel, by decide +kernel⟩, List.mem_of_getElem? (i := 715) (by decide +kernel), List.mem_of_getElem? (i := 865) (by decide +kernel), List.mem_of_getElem? (i := 866) (by decide +kernel)⟩
theorem lw_p19 : lw_okq (⟨"ReelConsoleModel", "found", "(I)I"⟩, 14) := ⟨⟨by decide +kernel, by decide +kernel⟩, List.mem_of_getElem? (i := 715) (by decide +kernel), List.mem_of_getElem? (i := 869) (by decide +kernel), List.mem_of_getElem? (i := 870) (by decide +kernel)⟩
theorem lw_p20 : lw_okq (⟨"ReelConsoleModel", "emptyDrive", "()I"⟩, 14) := ⟨⟨by decide +kernel, by decide +kernel⟩, List.mem_of_getElem? (i := 715) (by decide +kernel), List.mem_of_getElem? (i := 873) (by decide +kernel), List.mem_of_getElem? (i := 874) (by decide +kernel)⟩
theorem lw_p21 : lw_okq (⟨"ReelConsoleModel", "onDrive", "(I)I"⟩, 14) := ⟨⟨by decide +kernel, by decide +kernel⟩, List.mem_of_getElem? (i := 715) (by decide +kernel), List.mem_of_getElem? (i := 877) (by decide +kernel), List.mem_of_getElem? (i := 878) (by decide +kernel)⟩
theorem lw_p22 : lw_okq (⟨"ReelConsoleModel", "serve", "(II)V"⟩, 14) := ⟨⟨by decide +kernel, by decide +kernel⟩, List.mem_of_getElem? (i := 715) (by decide +kernel), List.mem_of_getElem? (i := 881) (by decide +kernel), List.mem_of_getElem? (i := 882) (by decide +kernel)⟩
theorem lw_p23 : lw_okq (⟨"ReelConsoleModel", "isSlip", "(I)Z"⟩, 14) := ⟨⟨by decide +kernel, by decide +kernel⟩, List.mem_of_getElem? (i := 715) (by decide +kernel), List.mem_of_getElem? (i := 885) (by decide +kernel), List.mem_of_getElem? (i := 886) (by decide +kernel)⟩
theorem lw_p24 : lw_okq (⟨"ReelConsoleModel", "after", "(I)I"⟩, 14) := ⟨⟨by decide +kernel, by decide +kernel⟩, List.mem_of_getElem? (i := 715) (by decide +kernel), List.mem_of_getElem? (i := 889) (by decide +kernel), List.mem_of_getElem? (i := 890) (by decide +kernel)⟩
theorem lw_p25 : lw_okq (⟨"ReelConsoleModel", "check", "(II)I"⟩, 14) := ⟨⟨by decide +kernel, by decide +kernel⟩, List.mem_of_getElem? (i := 715) (by decide +kernel), List.mem_of_getElem? (i := 893) (by decide +kernel), List.mem_of_getElem? (i := 894) (by decide +kernel)⟩
theorem lw_p26 : lw_okq (⟨"ReelConsoleModel", "mount", "(III)V"⟩, 14) := ⟨⟨by decide +kernel, by decide +kernel⟩, List.mem_of_getElem? (i := 715) (by decide +kernel), List.mem_of_getElem? (i := 897) (by decide +kernel), List.mem_of_getElem? (i := 898) (by decide +kernel)⟩
theorem lw_p27 : lw_okq (⟨"ReelConsoleModel", "isValid", "()Z"⟩, 14) := ⟨⟨by decide +kernel, by decide +kernel⟩, List.mem_of_getElem? (i := 715) (by decide +kernel), List.mem_of_getElem? (i := 921) (by decide +kernel), List.mem_of_getElem? (i := 922) (by decide +kernel)⟩
theorem lw_p28 : lw_okq (⟨"ReelConsoleModel", "readsCommand", "()Z"⟩, 14) := ⟨⟨by decide +kernel, by decide +kernel⟩, List.mem_of_getElem? (i := 715) (by decide +kernel), List.mem_of_getElem? (i := 925) (by decide +kernel), List.mem_of_getElem? (i := 926) (by decide +kernel)⟩
theorem lw_p29 : lw_okq (⟨"ReelConsoleModel", "sign", "()I"⟩, 14) := ⟨⟨by decide +kernel, by decide +kernel⟩, List.mem_of_getElem? (i := 715) (by decide +kernel), List.mem_of_getElem? (i := 929) (by decide +kernel), List.mem_of_getElem? (i := 930) (by decide +kernel)⟩
theorem lw_p30 : lw_okq (⟨"ReelConsoleModel", "readsJob", "()Z"⟩, 14) := ⟨⟨by decide +kernel, by decide +kernel⟩, List.mem_of_getElem? (i := 715) (by decide +kernel), List.mem_of_getElem? (i := 933) (by decide +kernel), List.mem_of_getElem? (i := 934) (by decide +kernel)⟩
theorem lw_p31 : lw_okq (⟨"ReelConsoleModel", "readsNumber", "(I)Z"⟩, 14) := ⟨⟨by decide +kernel, by decide +kernel⟩, List.mem_of_getElem? (i := 715) (by decide +kernel), List.mem_of_getElem? (i := 937) (by decide +kernel), List.mem_of_getElem? (i := 938) (by decide +kernel)⟩
def lw_privs_2 : List (MethodName × Nat) := [(⟨"ReelConsoleModel", "minute", "()I"⟩, 14), (⟨"ReelConsoleModel", "isDoneNow", "(I)Z"⟩, 14), (⟨"ReelConsoleModel", "next", "()I"⟩, 14), (⟨"ReelConsoleModel", "found", "(I)I"⟩, 14), (⟨"ReelConsoleModel", "emptyDrive", "()I"⟩, 14), (⟨"ReelConsoleModel", "onDrive", "(I)I"⟩, 14), (⟨"ReelConsoleModel", "serve", "(II)V"⟩, 14), (⟨"ReelConsoleModel", "isSlip", "(I)Z"⟩, 14), (⟨"ReelConsoleModel", "after", "(I)I"⟩, 14), (⟨"ReelConsoleModel", "check", "(II)I"⟩, 14), (⟨"ReelConsoleModel", "mount", "(III)V"⟩, 14), (⟨"ReelConsoleModel", "isValid", "()Z"⟩, 14), (⟨"ReelConsoleModel", "readsCommand", "()Z"⟩, 14), (⟨"ReelConsoleModel", "sign", "()I"⟩, 14), (⟨"ReelConsoleModel", "readsJob", "()Z"⟩, 14), (⟨"ReelConsoleModel", "readsNumber", "(I)Z"⟩, 14)]
theorem lw_r2 : ∀ q ∈ lw_privs_2, lw_okq q := List.forall_mem_cons.mpr ⟨lw_p16, List.forall_mem_cons.mpr ⟨lw_p17, List.forall_mem_cons.mpr ⟨lw_p18, List.forall_mem_cons.mpr ⟨lw_p19, List.forall_mem_cons.mpr ⟨lw_p20, List.forall_mem_cons.mpr ⟨lw_p21, List.forall_mem_cons.mpr ⟨lw_p22, List.forall_mem_cons.mpr ⟨lw_p23, List.forall_mem_cons.mpr ⟨lw_p24, List.forall_mem_cons.mpr ⟨lw_p25, List.forall_mem_cons.mpr ⟨lw_p26, List.forall_mem_cons.mpr ⟨lw_p27, List.forall_mem_cons.mpr ⟨lw_p28, List.forall_mem_cons.mpr ⟨lw_p29, List.forall_mem_cons.mpr ⟨lw_p30, List.forall_mem_cons.mpr ⟨lw_p31, fun _ h => absurd h List.not_mem_nil⟩⟩⟩⟩⟩⟩⟩⟩⟩⟩⟩⟩⟩⟩⟩⟩
theorem lw_p32 : lw_okq (⟨"ReelConsoleModel", "takes", "(I)Z"⟩, 14) := ⟨⟨by decide +kernel, by decide +kernel⟩, List.mem_of_getElem? (i := 715) (by decide +kernel), List.mem_of_getElem? (i := 941) (by decide +kernel), List.mem_of_getElem? (i := 942) (by decide +kernel)⟩
theorem lw_p33 : lw_okq (⟨"ReelConsoleModel", "readsMinutes", "()Z"⟩, 14) := ⟨⟨by decide +kernel, by decide +kernel⟩, List.mem_of_getElem? (i := 715) (by decide +kernel), List.mem_of_getElem? (i := 945) (by decide +kernel), List.mem_of_getElem? (i := 946) (by decide +kernel)⟩
theorem lw_p34 : lw_okq (⟨"ReelConsoleModel", "isCarriedOut", "(I)Z"⟩, 14) := ⟨⟨by decide +kernel, by decide +kernel⟩, List.mem_of_getElem? (i := 715) (by decide +kernel), List.mem_of_getElem? (i := 953) (by decide +kernel), List.mem_of_getElem? (i := 954) (by decide +kernel)⟩
theorem lw_p35 : lw_okq (⟨"ReelConsoleModel", "minutesTo", "(I)I"⟩, 14) := ⟨⟨by decide +kernel, by decide +kernel⟩, List.mem_of_getElem? (i := 715) (by decide +kernel), List.mem_of_getElem? (i := 1000) (by decide +kernel), List.mem_of_getElem? (i := 1001) (by decide +kernel)⟩
theorem lw_p36 : lw_okq (⟨"ReelConsoleModel", "with", "(I)I"⟩, 14) := ⟨⟨by decide +kernel, by decide +kernel⟩, List.mem_of_getElem? (i := 715) (by decide +kernel), List.mem_of_getElem? (i := 1008) (by decide +kernel), List.mem_of_getElem? (i := 1009) (by decide +kernel)⟩
def lw_privs_3 : List (MethodName × Nat) := [(⟨"ReelConsoleModel", "takes", "(I)Z"⟩, 14), (⟨"ReelConsoleModel", "readsMinutes", "()Z"⟩, 14), (⟨"ReelConsoleModel", "isCarriedOut", "(I)Z"⟩, 14), (⟨"ReelConsoleModel", "minutesTo", "(I)I"⟩, 14), (⟨"ReelConsoleModel", "with", "(I)I"⟩, 14)]
theorem lw_r3 : ∀ q ∈ lw_privs_3, lw_okq q := List.forall_mem_cons.mpr ⟨lw_p32, List.forall_mem_cons.mpr ⟨lw_p33, List.forall_mem_cons.mpr ⟨lw_p34, List.forall_mem_cons.mpr ⟨lw_p35, List.forall_mem_cons.mpr ⟨lw_p36, fun _ h => absurd h List.not_mem_nil⟩⟩⟩⟩⟩
def lw_privs : List (MethodName × Nat) := lw_privs_1 ++ (lw_privs_2 ++ (lw_privs_3))
def lw_tbl : List Cond := k2_sels lw_privs ++ tables_1
theorem lw_privs_ok : ∀ q ∈ lw_privs, lw_okq q := by
  show ∀ q ∈ lw_privs_1 ++ (lw_privs_2 ++ (lw_privs_3)), lw_okq q
  exact List.forall_mem_append.mpr ⟨lw_r1, List.forall_mem_append.mpr ⟨lw_r2, lw_r3⟩⟩
/-- the streams that the claim lets the run draw from -/
abbrev lw_cs : List Choice := [Jvm.Choice.named "NaN.bits"]
theorem lw_bits : nanBits ∈ lw_cs := by first | decide | exact List.mem_cons_self | simp [lw_cs, nanBits]
-- ===== end of PART A; then your names; then what follows =====
end
section
/-! ===== BEGIN words of one list among another's, by their places ===== -/
theorem goodIn_r {big : List Cond} (ws : List Cond) (ps : List Nat) (hp : ws = ps.filterMap (fun i => big[i]?)) (h : ws.all goodWord = true) : GoodIn big ws := by
  intro w hw
  have h1 := List.all_eq_true.mp h w hw
  rw [hp] at hw
  obtain ⟨i, -, hi⟩ := List.mem_filterMap.mp hw
  have hm : w ∈ big := by first | exact List.mem_of_getElem? hi | exact List.getElem?_mem hi
  exact ⟨hm, good_of_word h1⟩
theorem goodIn_app {big a b : List Cond} (ha : GoodIn big a) (hb : GoodIn big b) : GoodIn big (a ++ b) := fun w h => (List.mem_append.mp h).elim (ha w) (hb w)
theorem goodIn_ca {big a b : List Cond} {c : Cond} (ha : GoodIn big (c :: a)) (hb : GoodIn big b) : GoodIn big (c :: (a ++ b)) := fun w h => (List.mem_cons.mp h).elim (fun e => ha w (List.mem_cons.mpr (Or.inl e))) (fun h => (List.mem_append.mp h).elim (fun h => ha w (List.mem_cons.mpr (Or.inr h))) (hb w))
theorem goodIn_sub {big ws : List Cond} (hm : ∀ w ∈ ws, w ∈ big) (h : ws.all goodWord = true) : GoodIn big ws := fun w hw => ⟨hm w hw, good_of_word (List.all_eq_true.mp h w hw)⟩
/-! ===== END ===== -/

/-! ===== BEGIN exceptions that leave a method, and their catching by the caller (launches without stack traces) ===== -/
section VXA
/-! The laws vx_back, vx_callV, vx_callS, vx_callSW, vx_throw0, vx_throwS follow proofs of the library, with one case more: JvmDerived/Free/Laws.lean (Back.of_free), Shelf42/LK1.lean (callV, callS), Shelf/KitTraced.lean (throwNew0V, throwNewS). -/
/-- where a method has thrown q: the class by its name, the cell, what was written, the world -/
def vx_T (XC : String → State → State → Prop) (st : State) (q : Addr) (t : State) (mc ms : Nat) (free : Addr → Prop) : Prop :=
  ∃ (E : String) (ce : Cell) (L : List Loc), XC E st t ∧ t.heap[q]? = some ce ∧ ce.vm = .none ∧ st.vm.findClass E = some ce.cls ∧ st.WarmedH t.vm ∧ st.sameButNew ({ t with vm := st.vm } : State) L mc ms ∧ ∀ z ∈ L, free z.base
def vx_Q (Qc : Array Value → State → Outcome → State → Prop) (XC : String → State → State → Prop) (mc ms : Nat) (free : Addr → Prop) : Array Value → State → Outcome → State → Prop := fun a st o t =>
  (Qc a st o t ∧ ∃ L, FrameEnd st o t L mc ms ∧ ∀ q ∈ L, free q.base) ∨ ∃ q, o = .threw q ∧ vx_T XC st q t mc ms free
/-- a callee that returns or throws -/
def vx_Met (l : Launch) (y : MethodName) (ws : List Cond) (rm : Room) (Pc : Array Value → State → Prop) (Qc : Array Value → State → Outcome → State → Prop) (XC : String → State → State → Prop) (mc ms : Nat) (free : Addr → Prop) : Prop :=
  MetFree l y (headSpec ws rm) Pc (fun _ _ _ _ _ => True) (vx_Q Qc XC mc ms free)
def vx_Post (XC : String → State → State → Prop) (mc ms : Nat) (free : Addr → Prop) : Pt → Array Value → Addr → Pt → Prop := fun A a q B =>
  ∃ (g : JFrame) (mk : MethodId) (t : State) (L : List Loc) (E : String) (ce : Cell), B.U.heap = t.heap ∧ B.U.vm = t.vm ∧ XC E (A.U.calling g mk a) t ∧ t.heap[q]? = some ce ∧ ce.vm = .none ∧ A.U.vm.findClass E = some ce.cls ∧ B.locs = A.locs ++ L ∧ (∀ z ∈ L, free z.base) ∧ B.cells = A.cells + mc ∧ B.slots = A.slots + ms
def vx_Back (l : Launch) (R : Room) (p : Program) (e : Env) (below : List Frame) (s : State) (sargs : Array Value) (y : MethodName) (len W9 : Nat)
    (Pre : Pt → Array Value → Prop) (Post : Pt → Array Value → Option Value → Pt → Prop) (PostX : Pt → Array Value → Addr → Pt → Prop) : Prop :=
  ∀ (m : MethodId) (meth : Method) (c : Code) (A : Pt) (g : JFrame) (ig : Instr) (mk : MethodId) (a : Array Value),
    Stand p l e R s m sargs below meth c A.U A.locs A.cells A.slots → g.method = m → g.locals.size = c.maxLocals → decode c.code g.pc = .ok (ig, len) →
    2 * g.monitorRoom + (g.stack.map fun v => v.category).sum ≤ W9 → A.U.methodNamed? y = some mk → Pre A a →
    (∃ (v : Option Value) (B : Pt), Stand p l e R s m sargs below meth c B.U B.locs B.cells B.slots ∧ Post A a v B ∧
      Steps p.tables e below (doInvoke e (A.U.setTop g) [] mk a).1 (B.U.setTop { g with pc := g.pc + len, stack := v.toList ++ g.stack })) ∨
    (∃ (q : Addr) (B : Pt), Stand p l e R s m sargs below meth c B.U B.locs B.cells B.slots ∧ PostX A a q B ∧
      Steps p.tables e below (doInvoke e (A.U.setTop g) [] mk a).1 ((B.U.setTop g).pushFrame (.throwing q)))
section Payer
variable {l : Launch} {R : Room} {p : Program} {e : Env} {below : List Frame} {s : State} {sargs : Array Value} {y : MethodName} {len W9 : Nat}
theorem vx_back {ws : List Cond} {rm : Room} {Pc : Array Value → State → Prop} {Qc : Array Value → State → Outcome → State → Prop} {XC : String → State → State → Prop} {mc ms : Nat} {free : Addr → Prop} {bytes : ByteArray} {maxL : Nat} {ret : Option FieldType}
    (hM : vx_Met l y ws rm Pc Qc XC mc ms free) (hblind : FrameBlind Pc) (hrc : rm.cells = mc) (hrs : rm.slots = ms)
    (hframes : rm.frames + 1 ≤ R.frames) (hlocals : W9 + (maxL + 11) + rm.locals ≤ R.locals)
    (hws : ∀ w ∈ ws, ∀ a' U, s.WarmedH U.vm → w.before a' U = true) (hcode : Cond.code y bytes maxL ret ∈ ws) (hinit : ∀ a' U, s.WarmedH U.vm → (Cond.initialized y.cls).before a' U = true) :
    vx_Back l R p e below s sargs y len W9 (PreOf R mc ms Pc) (PostOf Qc mc ms free) (vx_Post XC mc ms free) := by
  intro m meth c A g ig mk a X hg hsize hdg hW hn hp
  have h1 : (headSpec ws rm).pre.before a A.U = true := atoms_intro fun w hw => hws w hw _ _ X.warmed
  have h2 : (Cond.code y bytes maxL ret).before a A.U = true := hws _ hcode _ _ X.warmed
  have h3 : (Cond.initialized y.cls).before a A.U = true := hinit _ _ X.warmed
  have h4 : A.cells + (headSpec ws rm).room.cells ≤ R.cells := by rw [show (headSpec ws rm).room.cells = mc from hrc]; exact hp.1
  have h5 : A.slots + (headSpec ws rm).room.slots ≤ R.slots := by rw [show (headSpec ws rm).room.slots = ms from hrs]; exact hp.2.1
  have hPc : Pc a (A.U.calling g mk a) := hblind _ _ _ _ hp.2.2
  obtain ⟨U, Ls, c0, s0⟩ := A
  dsimp only [Pt.U, Pt.locs, Pt.cells, Pt.slots] at h1 h2 h3 h4 h5 X hn hPc ⊢
  obtain ⟨methY, cY, hmY, hcY, -, hlY, -, -, -, -⟩ := Cond.code_spec hn h2
  obtain ⟨kY, hkY, -⟩ := className_of_methodNamed hn
  have hinitY : kY.init = .initialized := Cond.initialized_spec (findClass_of_methodNamed hn) hkY h3
  have h : At U g.method c below := by rw [hg]; exact X.here
  have hlocals9 : W9 + (maxL + 11) + (headSpec ws rm).room.locals ≤ R.locals := hlocals
  have happ : (headSpec ws rm).appliesLoose y e.platform (U.calling g mk a) = true :=
    Spec.appliesLoose_calling (g := g) h hdg hn hkY hinitY
      (X.room_calling (g := g) (R' := (headSpec ws rm).room) hsize hmY hcY hframes (by rw [hlY]; omega) h4 h5) h1
  obtain ⟨mid, hmid⟩ := h.above
  have hfr : (U.setTop g).frames = (.java g :: mid) ++ below := by rw [State.frames_setTop' g h.top, hmid]; rfl
  obtain ⟨o, s₂, hsteps, -, hend, hq⟩ := Steps.callFree hM p X.admits X.cas X.clock (acts := []) hfr happ hPc trivial
  have hq' : vx_Q Qc XC mc ms free a (U.calling g mk a) o s₂ := hq
  rw [State.frames_setTop' g h.top] at hend
  obtain ⟨g₀, hg0⟩ := Option.isSome_iff_exists.mp h.top
  obtain ⟨r, hr⟩ := State.topJava?_eq_some.mp hg0
  have hr' : (({ U with heap := s₂.heap, slotsUsed := s₂.slotsUsed } : State).setVm s₂.vm).frames = .java g₀ :: r := hr
  rcases hq' with ⟨hqc, L, hfe, hL⟩ | ⟨q, rfl, E, ce, L, hx, hce, hcv, hcl, hW₂, hsm, hL⟩
  · obtain ⟨⟨v, rfl⟩, hW₂, e2, q2, q3, q4, q5, q6⟩ := id hfe
    have e3 : s₂ = ({ (U.calling g mk a).setFrames s₂.frames with heap := s₂.heap, slotsUsed := s₂.slotsUsed } : State).setVm s₂.vm := by
      have : s₂ = ({ s₂ with vm := (U.calling g mk a).vm } : State).setVm s₂.vm := rfl
      rw [e2] at this
      exact this
    obtain ⟨c₂, i₂, len₂, hc₂, hd₂, hf₂⟩ := hend
    have hW' : U.WarmedH s₂.vm := hW₂
    have hcc : c₂ = c := by
      have h1 : s₂.code? g.method = U.code? g.method := by
        rw [State.code?_eq, State.code?_eq, hW'.alike.method?]
      exact Option.some.inj (hc₂.symm.trans (h1.trans h.code))
    subst hcc
    have hlen : len₂ = len := by rw [hdg] at hd₂; cases hd₂; rfl
    subst hlen
    have hs₂ : s₂ = (({ U with heap := s₂.heap, slotsUsed := s₂.slotsUsed } : State).setVm s₂.vm).setTop { g with pc := g.pc + len₂, stack := v.toList ++ g.stack } := by
      refine e3.trans ?_
      rw [hf₂, State.calling_eq h.top, State.setFrames_setFrames, State.setTop_of_frames _ hr', hr]
      rfl
    have hsame : U.sameButNew ({ U with heap := s₂.heap, slotsUsed := s₂.slotsUsed } : State) L mc ms := by
      refine ⟨?_, q2, q3, q4, q5, q6⟩
      obtain ⟨t, ht, -⟩ := State.frames_cons hr
      show ({ U with heap := s₂.heap, slotsUsed := s₂.slotsUsed } : State) = { U.setFrames U.frames with heap := s₂.heap, slotsUsed := s₂.slotsUsed }
      rw [State.setFrames_self ht]
    subst hg
    refine Or.inl ⟨v, ⟨(({ U with heap := s₂.heap, slotsUsed := s₂.slotsUsed } : State).setVm s₂.vm), Ls ++ L, c0 + mc, s0 + ms⟩,
      ⟨X.admits, X.cas, X.clock, X.frames, X.room, X.hears, X.method, X.code, (X.here.setHeapUsed s₂.heap s₂.slotsUsed).setVm hW'.alike, X.tail, State.WarmedH.trans X.warmed hW', X.limits, X.bytes, X.same.trans (hsame.setVm s.vm)⟩,
      ⟨g, mk, s₂, L, rfl, rfl, hqc, rfl, hL, rfl, rfl⟩, ?_⟩
    show Steps p.tables e below _ ((({ U with heap := s₂.heap, slotsUsed := s₂.slotsUsed } : State).setVm s₂.vm).setTop { g with pc := g.pc + len₂, stack := v.toList ++ g.stack })
    rw [← hs₂]
    exact hsteps
  · obtain ⟨e2, q2, q3, q4, q5, q6⟩ := id hsm
    have e3 : s₂ = ({ (U.calling g mk a).setFrames s₂.frames with heap := s₂.heap, slotsUsed := s₂.slotsUsed } : State).setVm s₂.vm := by
      have : s₂ = ({ s₂ with vm := (U.calling g mk a).vm } : State).setVm s₂.vm := rfl
      rw [e2] at this
      exact this
    have hf₂ : s₂.frames = .throwing q :: .java g :: U.frames.tail := hend
    have hW' : U.WarmedH s₂.vm := hW₂
    have hs₂ : s₂ = ((({ U with heap := s₂.heap, slotsUsed := s₂.slotsUsed } : State).setVm s₂.vm).setTop g).pushFrame (.throwing q) := by
      refine e3.trans ?_
      rw [hf₂, State.calling_eq h.top, State.setFrames_setFrames, State.pushFrame, State.frames_setTop _ hr', State.setTop_of_frames _ hr', State.setFrames_setFrames, hr]
      rfl
    have hsame : U.sameButNew ({ U with heap := s₂.heap, slotsUsed := s₂.slotsUsed } : State) L mc ms := by
      refine ⟨?_, q2, q3, q4, q5, q6⟩
      obtain ⟨t, ht, -⟩ := State.frames_cons hr
      show ({ U with heap := s₂.heap, slotsUsed := s₂.slotsUsed } : State) = { U.setFrames U.frames with heap := s₂.heap, slotsUsed := s₂.slotsUsed }
      rw [State.setFrames_self ht]
    subst hg
    refine Or.inr ⟨q, ⟨(({ U with heap := s₂.heap, slotsUsed := s₂.slotsUsed } : State).setVm s₂.vm), Ls ++ L, c0 + mc, s0 + ms⟩,
      ⟨X.admits, X.cas, X.clock, X.frames, X.room, X.hears, X.method, X.code, (X.here.setHeapUsed s₂.heap s₂.slotsUsed).setVm hW'.alike, X.tail, State.WarmedH.trans X.warmed hW', X.limits, X.bytes, X.same.trans (hsame.setVm s.vm)⟩,
      ⟨g, mk, s₂, L, E, ce, rfl, rfl, hx, hce, hcv, hcl, rfl, hL, rfl, rfl⟩, ?_⟩
    show Steps p.tables e below _ (((({ U with heap := s₂.heap, slotsUsed := s₂.slotsUsed } : State).setVm s₂.vm).setTop g).pushFrame (.throwing q))
    rw [← hs₂]
    exact hsteps
end Payer
section Calls
variable {p : Program} {l : Launch} {e : Env} {R : Room} {s : State} {m : MethodId} {args : Array Value} {below : List Frame} {meth : Method} {c : Code} {T : State} {locs : List Loc} {cells slots : Nat}
theorem vx_callV (X : Stand p l e R s m args below meth c T locs cells slots) (hexec : p.tables.exec = Jvm.exec) {own C : String} {index : Nat} {y : MethodName} {bytes : ByteArray} {maxL : Nat} {ret : Option FieldType}
    (hown : s.vm.findClass own = some m.cls) (hlink : (Cond.methodLink own index y).before args s = true) (hinst : (Cond.instanceMethod y).before args s = true) (hsel : (Cond.selects C y y).before args s = true)
    (hcode : (Cond.code y bytes maxL ret).before args s = true) (hy : y.cls ≠ "java/lang/invoke/MethodHandle" ∧ y.cls ≠ "java/lang/invoke/VarHandle")
    {W9 : Nat} {Pre : Pt → Array Value → Prop} {Post : Pt → Array Value → Option Value → Pt → Prop} {PostX : Pt → Array Value → Addr → Pt → Prop} (hK : vx_Back l R p e below s args y 3 W9 Pre Post PostX)
    {b : Addr} {cellB : Cell} (hcell : T.heap[b]? = some cellB) (hobj : cellB.vm.isStatics = false) (hcls : s.vm.findClass C = some cellB.cls)
    {g : JFrame} (hg : g.method = m) (hsize : g.locals.size = c.maxLocals) {argsL rest : List Value} (hlen : ∀ sig, parseMethodDescriptor y.desc = some sig → argsL.length = sig.parameters.length)
    (hstack : g.stack = argsL.reverse ++ .ref b :: rest) (hW : 2 * g.monitorRoom + (rest.map fun v => v.category).sum ≤ W9) (hdg : decode c.code g.pc = .ok (.invokevirtual index, 3))
    (hpre : ∀ vm₁, s.WarmedH vm₁ → Pre ⟨T.setVm vm₁, locs, cells, slots⟩ (Value.ref b :: argsL).toArray) :
    (∃ (v : Option Value) (vm₁ : Vm) (B : Pt), s.WarmedH vm₁ ∧ Stand p l e R s m args below meth c B.U B.locs B.cells B.slots ∧ Post ⟨T.setVm vm₁, locs, cells, slots⟩ (Value.ref b :: argsL).toArray v B ∧
      ∀ target, Steps p.tables e below (B.U.setTop { g with pc := g.pc + 3, stack := v.toList ++ rest }) target → Steps p.tables e below (T.setTop g) target) ∨
    (∃ (q : Addr) (vm₁ : Vm) (B : Pt), s.WarmedH vm₁ ∧ Stand p l e R s m args below meth c B.U B.locs B.cells B.slots ∧ PostX ⟨T.setVm vm₁, locs, cells, slots⟩ (Value.ref b :: argsL).toArray q B ∧
      Steps p.tables e below (T.setTop g) ((B.U.setTop { g with stack := rest }).pushFrame (.throwing q))) := by
  obtain ⟨mk, methM, hnamed, hmethM, hstM, habM⟩ := Cond.instanceMethod_spec hinst
  obtain ⟨methM', cM, hmethM', -, -, -, -, -, -, hsigM⟩ := Cond.code_spec hnamed hcode
  cases hmethM.symm.trans hmethM'
  obtain ⟨c2, r2, m2, q1, q2, q3, q4, kP, hkP, hkPi⟩ := Cond.selects_spec hsel
  cases hcls.symm.trans q1
  cases (State.methodFound?_of_named hnamed hy).symm.trans q2
  cases hnamed.symm.trans q3
  have hselP : selectMethod e.platform s.vm cellB.cls mk = .method mk := by rw [Launch.admits_selectMethod X.admits]; exact q4
  obtain ⟨vm₁, X₁, hstep₁⟩ := X.invokevirtual hexec hown hlink hnamed hmethM hstM hkP hkPi hy (a := b) (cell := cellB) hcell
    (fun z h => by rw [h] at hobj; cases hobj) hselP hmethM habM hkP hkPi (g := g) hg (argsL := argsL) (rest := rest) (hlen _ hsigM) hstack hdg
  rcases hK m meth c ⟨T.setVm vm₁, locs, cells, slots⟩ { g with stack := rest } (.invokevirtual index) mk (Value.ref b :: argsL).toArray X₁ hg hsize hdg hW (X₁.named hnamed) (hpre vm₁ X₁.warmed) with ⟨v, B, X', hpost, hsteps⟩ | ⟨q, B, X', hpost, hsteps⟩
  · exact Or.inl ⟨v, vm₁, B, X₁.warmed, X', hpost, fun target h => hstep₁ _ fun acts => by rw [doInvoke_state]; exact hsteps.trans h⟩
  · exact Or.inr ⟨q, vm₁, B, X₁.warmed, X', hpost, hstep₁ _ fun acts => by rw [doInvoke_state]; exact hsteps⟩
theorem vx_callS (X : Stand p l e R s m args below meth c T locs cells slots) (hexec : p.tables.exec = Jvm.exec) {own : String} {index : Nat} {y : MethodName} {bytes : ByteArray} {maxL : Nat} {ret : Option FieldType}
    (hown : s.vm.findClass own = some m.cls) (hlink : (Cond.methodLink own index y).before args s = true) (hstat : (Cond.static y).before args s = true) (hinit : (Cond.initialized y.cls).before args s = true)
    (hcode : (Cond.code y bytes maxL ret).before args s = true) (hy : y.cls ≠ "java/lang/invoke/MethodHandle" ∧ y.cls ≠ "java/lang/invoke/VarHandle")
    {W9 : Nat} {Pre : Pt → Array Value → Prop} {Post : Pt → Array Value → Option Value → Pt → Prop} {PostX : Pt → Array Value → Addr → Pt → Prop} (hK : vx_Back l R p e below s args y 3 W9 Pre Post PostX)
    {g : JFrame} (hg : g.method = m) (hsize : g.locals.size = c.maxLocals) {argsL rest : List Value} (hlen : ∀ sig, parseMethodDescriptor y.desc = some sig → argsL.length = sig.parameters.length)
    (hstack : g.stack = argsL.reverse ++ rest) (hW : 2 * g.monitorRoom + (rest.map fun v => v.category).sum ≤ W9) (hdg : decode c.code g.pc = .ok (.invokestatic index, 3))
    (hpre : ∀ vm₁, s.WarmedH vm₁ → Pre ⟨T.setVm vm₁, locs, cells, slots⟩ argsL.toArray) :
    (∃ (v : Option Value) (vm₁ : Vm) (B : Pt), s.WarmedH vm₁ ∧ Stand p l e R s m args below meth c B.U B.locs B.cells B.slots ∧ Post ⟨T.setVm vm₁, locs, cells, slots⟩ argsL.toArray v B ∧
      ∀ target, Steps p.tables e below (B.U.setTop { g with pc := g.pc + 3, stack := v.toList ++ rest }) target → Steps p.tables e below (T.setTop g) target) ∨
    (∃ (q : Addr) (vm₁ : Vm) (B : Pt), s.WarmedH vm₁ ∧ Stand p l e R s m args below meth c B.U B.locs B.cells B.slots ∧ PostX ⟨T.setVm vm₁, locs, cells, slots⟩ argsL.toArray q B ∧
      Steps p.tables e below (T.setTop g) ((B.U.setTop { g with stack := rest }).pushFrame (.throwing q))) := by
  obtain ⟨mk, hnamed⟩ := Cond.code_named hcode
  obtain ⟨methM, cM, hmethM, -, -, -, -, -, -, hsigM⟩ := Cond.code_spec hnamed hcode
  have hstatic : methM.isStatic = true := Cond.static_spec hnamed hmethM hstat
  obtain ⟨kP, hkP, -⟩ := className_of_methodNamed hnamed
  have hinitP : kP.init = .initialized := Cond.initialized_spec (findClass_of_methodNamed hnamed) hkP hinit
  obtain ⟨vm₁, X₁, hstep₁⟩ := X.invokestatic hexec hown hlink hnamed hmethM hstatic hkP hinitP hy (g := g) hg (argsL := argsL) (rest := rest) (hlen _ hsigM) hstack hdg
  rcases hK m meth c ⟨T.setVm vm₁, locs, cells, slots⟩ { g with stack := rest } (.invokestatic index) mk argsL.toArray X₁ hg hsize hdg hW (X₁.named hnamed) (hpre vm₁ X₁.warmed) with ⟨v, B, X', hpost, hsteps⟩ | ⟨q, B, X', hpost, hsteps⟩
  · exact Or.inl ⟨v, vm₁, B, X₁.warmed, X', hpost, fun target h => hstep₁ _ fun acts => by rw [doInvoke_state]; exact hsteps.trans h⟩
  · exact Or.inr ⟨q, vm₁, B, X₁.warmed, X', hpost, hstep₁ _ fun acts => by rw [doInvoke_state]; exact hsteps⟩
end Calls
theorem vx_cls {s : State} {T : State} {vm₁ : Vm} {E : String} {k : ClassId} (hW : s.WarmedH vm₁) (h : (T.setVm vm₁).vm.findClass E = some k) : s.vm.findClass E = some k := by
  have h1 : vm₁.findClass E = some k := h
  rw [hW.alike.findClass] at h1
  exact h1
/-- the method's frame g, with q thrown over it -/
def vx_W (p : Program) (l : Launch) (e : Env) (R : Room) (s : State) (m : MethodId) (args : Array Value) (below : List Frame) (meth : Method) (c : Code) (H : Heap) (locs : List Loc) (cells slots : Nat) (Q : State → Prop) (g : JFrame) (q : Addr) : Prop :=
  ∀ T : State, T.heap = H → Stand p l e R s m args below meth c T locs cells slots → ∃ t, Steps p.tables e below ((T.setTop g).pushFrame (.throwing q)) t ∧ Q t
def vx_Run (p : Program) (l : Launch) (e : Env) (R : Room) (s : State) (m : MethodId) (args : Array Value) (below : List Frame) (meth : Method) (c : Code) (H : Heap) (locs : List Loc) (cells slots mc ms : Nat) (g : JFrame) (rest : List Value) (Qa : State → Outcome → State → Prop) (XC : String → State → State → Prop) (free : Addr → Prop) : Prop :=
  ∀ T : State, T.heap = H → Stand p l e R s m args below meth c T locs cells slots →
    (∃ (v : Option Value) (st₀ t T' : State) (L : List Loc), st₀.heap = H ∧ Stand p l e R s m args below meth c T' (locs ++ L) (cells + mc) (slots + ms) ∧ (∀ q ∈ L, free q.base) ∧ T'.heap = t.heap ∧ T'.vm = t.vm ∧ Qa st₀ (.returned v) t ∧
      Goes p e below T g T' { g with pc := g.pc + 3, stack := v.toList ++ rest }) ∨
    (∃ (q : Addr) (st₀ t T' : State) (L : List Loc) (E : String) (ce : Cell), st₀.heap = H ∧ Stand p l e R s m args below meth c T' (locs ++ L) (cells + mc) (slots + ms) ∧ (∀ z ∈ L, free z.base) ∧ T'.heap = t.heap ∧ T'.vm = t.vm ∧ XC E st₀ t ∧ t.heap[q]? = some ce ∧ ce.vm = .none ∧ s.vm.findClass E = some ce.cls ∧
      Steps p.tables e below (T.setTop g) ((T'.setTop { g with stack := rest }).pushFrame (.throwing q)))
def vx_X {S : Type} (px : S → Prop) (B : String → S → State → Prop) (A : Nat → Prop) : String → State → State → Prop := fun E st t => ∃ u : S, px u ∧ B E u t ∧ va_F A st t
section Runs
variable {p : Program} {l : Launch} {e : Env} {R : Room} {s : State} {m : MethodId} {args : Array Value} {below : List Frame} {meth : Method} {c : Code} {H : Heap} {locs : List Loc} {cells slots : Nat}
variable {y : MethodName} {bytes cc : ByteArray} {maxL nL mc ms n index : Nat} {ret : Option FieldType} {ws : List Cond} {rm : Room} {Pc : Array Value → State → Prop} {Qc : Array Value → State → Outcome → State → Prop} {XC : String → State → State → Prop} {free : Addr → Prop} {Ts : List Cond} {own C : String} {b : Addr} {As rest : List Value} {g : JFrame}
theorem vx_callBack (cb : CallB R s args own index y bytes maxL ret ws rm mc ms n) (hM : vx_Met l y ws rm Pc Qc XC mc ms free) (hbl : FrameBlind Pc) : vx_Back l R p e below s args y 3 8 (PreOf R mc ms Pc) (PostOf Qc mc ms free) (vx_Post XC mc ms free) := by
  obtain ⟨hrc, hrs, hfr, hlo, hws, hcw, -, hini, -⟩ := cb
  exact vx_back (bytes := bytes) (maxL := maxL) (ret := ret) hM hbl hrc hrs hfr hlo hws hcw (fun a' U hW => word_at hW (Or.inl (by first | rfl | simp [Cond.onTables, Cond.keeps, Cond.steady])) hini)
theorem vx_runV (S : CallFix p m c cc nL s args Ts own) (hM : vx_Met l y ws rm Pc Qc XC mc ms free) (cw : CallW R s args own C index y bytes maxL ret ws rm mc ms n) (hp : PreV s H C b Pc As)
    (hg : g.method = m) (hn : As.length = n) (hsize : g.locals.size = nL) (hstack : g.stack = As.reverse ++ .ref b :: rest) (hW : 2 * g.monitorRoom + (rest.map fun v => v.category).sum ≤ 8) (hdg : decode cc g.pc = .ok (.invokevirtual index, 3)) (hf : cells + mc ≤ R.cells ∧ slots + ms ≤ R.slots) :
    vx_Run p l e R s m args below meth c H locs cells slots mc ms g rest (Qc (Value.ref b :: As).toArray) XC free := by
  have hK : vx_Back l R p e below s args y 3 8 (PreOf R mc ms Pc) (PostOf Qc mc ms free) (vx_Post XC mc ms free) := vx_callBack cw.1 hM hp.1
  obtain ⟨⟨-, -, -, -, -, -, hcode, -, hy, hlen, hl⟩, hin, hse⟩ := cw
  obtain ⟨hx, hb, hml, ho, -⟩ := S
  obtain ⟨-, ⟨cellB, hcB, hoB, hclB⟩, hPc⟩ := hp
  intro T hT X
  rcases vx_callV X hx (C := C) (bytes := bytes) (maxL := maxL) (ret := ret) ho hl hin hse hcode hy hK (by rw [hT]; exact hcB) hoB hclB hg (hsize.trans hml.symm) (argsL := As) (rest := rest) (fun sig h => hn.trans (hlen sig h)) hstack hW (by rw [hb]; exact hdg)
    (fun vm₁ hW₁ => ⟨hf.1, hf.2, hPc (T.setVm vm₁) hT hW₁⟩) with ⟨v, vm₁, ⟨U', l2, c2, s2⟩, hW₁, X', ⟨g', mk, t, L, e1, e2, hq, h1, hL, h2, h3⟩, st⟩ | ⟨q, vm₁, ⟨U', l2, c2, s2⟩, hW₁, X', ⟨g', mk, t, L, E, ce, e1, e2, hq, hce, hcv, hcl, h1, hL, h2, h3⟩, st⟩
  · dsimp only [Pt.U, Pt.locs, Pt.cells, Pt.slots] at X' e1 e2 h1 h2 h3 st
    subst h1; subst h2; subst h3
    exact Or.inl ⟨v, (T.setVm vm₁).calling g' mk (Value.ref b :: As).toArray, t, U', L, hT, X', hL, e1, e2, hq, st⟩
  · dsimp only [Pt.U, Pt.locs, Pt.cells, Pt.slots] at X' e1 e2 h1 h2 h3 st hcl
    subst h1; subst h2; subst h3
    exact Or.inr ⟨q, (T.setVm vm₁).calling g' mk (Value.ref b :: As).toArray, t, U', L, E, ce, hT, X', hL, e1, e2, hq, hce, hcv, vx_cls hW₁ hcl, st⟩
theorem vx_runS (S : CallFix p m c cc nL s args Ts own) (hM : vx_Met l y ws rm Pc Qc XC mc ms free) (cw : CallB R s args own index y bytes maxL ret ws rm mc ms n ∧ (Cond.static y).before args s = true) (hp : PreS s H Pc As)
    (hg : g.method = m) (hn : As.length = n) (hsize : g.locals.size = nL) (hstack : g.stack = As.reverse ++ rest) (hW : 2 * g.monitorRoom + (rest.map fun v => v.category).sum ≤ 8) (hdg : decode cc g.pc = .ok (.invokestatic index, 3)) (hf : cells + mc ≤ R.cells ∧ slots + ms ≤ R.slots) :
    vx_Run p l e R s m args below meth c H locs cells slots mc ms g rest (Qc As.toArray) XC free := by
  have hK : vx_Back l R p e below s args y 3 8 (PreOf R mc ms Pc) (PostOf Qc mc ms free) (vx_Post XC mc ms free) := vx_callBack cw.1 hM hp.1
  obtain ⟨⟨-, -, -, -, -, -, hcode, hini, hy, hlen, hl⟩, hstt⟩ := cw
  obtain ⟨hx, hb, hml, ho, -⟩ := S
  intro T hT X
  rcases vx_callS X hx (bytes := bytes) (maxL := maxL) (ret := ret) ho hl hstt hini hcode hy hK hg (hsize.trans hml.symm) (argsL := As) (rest := rest) (fun sig h => hn.trans (hlen sig h)) hstack hW (by rw [hb]; exact hdg)
    (fun vm₁ hW₁ => ⟨hf.1, hf.2, hp.2 (T.setVm vm₁) hT hW₁⟩) with ⟨v, vm₁, ⟨U', l2, c2, s2⟩, hW₁, X', ⟨g', mk, t, L, e1, e2, hq, h1, hL, h2, h3⟩, st⟩ | ⟨q, vm₁, ⟨U', l2, c2, s2⟩, hW₁, X', ⟨g', mk, t, L, E, ce, e1, e2, hq, hce, hcv, hcl, h1, hL, h2, h3⟩, st⟩
  · dsimp only [Pt.U, Pt.locs, Pt.cells, Pt.slots] at X' e1 e2 h1 h2 h3 st
    subst h1; subst h2; subst h3
    exact Or.inl ⟨v, (T.setVm vm₁).calling g' mk As.toArray, t, U', L, hT, X', hL, e1, e2, hq, st⟩
  · dsimp only [Pt.U, Pt.locs, Pt.cells, Pt.slots] at X' e1 e2 h1 h2 h3 st hcl
    subst h1; subst h2; subst h3
    exact Or.inr ⟨q, (T.setVm vm₁).calling g' mk As.toArray, t, U', L, E, ce, hT, X', hL, e1, e2, hq, hce, hcv, vx_cls hW₁ hcl, st⟩
end Runs
section Rows
variable {p : Program} {l : Launch} {e : Env} {R : Room} {s : State} {m : MethodId} {args : Array Value} {below : List Frame} {meth : Method} {c : Code} {H : Heap} {locs : List Loc} {cells slots : Nat} {Q : State → Prop}
variable {mc ms : Nat} {free : Addr → Prop} {A0 A1 : Nat → Prop} {H0 : Heap} {a : Array Value} {pc : Nat} {ls : Array Slot} {st0 rest : List Value}
theorem vx_keep {st₀ t T' : State} {L : List Loc} (h0 : st₀.heap = H) (e1 : T'.heap = t.heap) (hS : va_S A0 H0 H locs) (hA : ∀ q, q < H.size → A1 q → A0 q) (hf : ∀ q, free q → A0 q) (hL : ∀ q ∈ L, free q.base) (hF : va_F A1 st₀ t) :
    H.size ≤ T'.heap.size ∧ (∀ q : Nat, q < H.size → ¬ A1 q → T'.heap[q]? = H[q]?) ∧ va_S A0 H0 T'.heap (locs ++ L) := by
  obtain ⟨hz, hk⟩ := hF
  rw [h0] at hz hk
  exact ⟨by rw [e1]; exact hz, fun q h1 h2 => by rw [e1]; exact hk q h1 h2,
    ⟨Nat.le_trans hS.1 (by rw [e1]; exact hz), fun q h1 h2 => by rw [e1, hk q (Nat.lt_of_lt_of_le h1 hS.1) (fun z => h2 (hA q (Nat.lt_of_lt_of_le h1 hS.1) z))]; exact hS.2.1 q h1 h2, fun q hq => by
      rcases List.mem_append.mp hq with h | h
      · exact hS.2.2 q h
      · exact hf _ (hL q h)⟩⟩
theorem vx_calli {S SX : Type} {post : Int32 → S → Prop} {px : SX → Prop} {B : S → State → Prop} {BX : String → SX → State → Prop} {AX : Nat → Prop} (hr : vx_Run p l e R s m args below meth c H locs cells slots mc ms (F0 m pc ls st0) rest (va_Qi post B A1 a) (vx_X px BX AX) free) (hS : va_S A0 H0 H locs) (hA : ∀ q, q < H.size → A1 q → A0 q) (hf : ∀ q, free q → A0 q) (hAX : ∀ q, q < H.size → AX q → A0 q)
    (kx : ∀ (E : String) (ce : Cell) (q9 : Addr) (u : SX) (t : State) (H1 : Heap) (locs1 : List Loc), t.heap = H1 → s.vm.Alike t.vm → px u → BX E u t → H.size ≤ H1.size → (∀ q : Nat, q < H.size → ¬ AX q → H1[q]? = H[q]?) → va_S A0 H0 H1 locs1 → H1[q9]? = some ce → ce.vm = .none → s.vm.findClass E = some ce.cls → vx_W p l e R s m args below meth c H1 locs1 (cells + mc) (slots + ms) Q (F0 m pc ls rest) q9)
    (kk : ∀ (r : Int32) (u : S) (t : State) (H1 : Heap) (locs1 : List Loc), t.heap = H1 → s.vm.Alike t.vm → post r u → B u t → H.size ≤ H1.size → (∀ q : Nat, q < H.size → ¬ A1 q → H1[q]? = H[q]?) → va_S A0 H0 H1 locs1 → W p l e R s m args below meth c H1 locs1 (cells + mc) (slots + ms) Q (F0 m (pc + 3) ls (.int r :: rest))) : W p l e R s m args below meth c H locs cells slots Q (F0 m pc ls st0) := by
  intro T hT X
  rcases hr T hT X with ⟨v, st₀, t, T', L, h0, X', hL, e1, e2, ⟨⟨r, u, hv, hp, hb⟩, hF⟩, st⟩ | ⟨q, st₀, t, T', L, E, ce, h0, X', hL, e1, e2, ⟨u, hp, hb, hF⟩, hce, hcv, hcl, st⟩
  · cases hv
    obtain ⟨k1, k2, k3⟩ := vx_keep h0 e1 hS hA hf hL hF
    obtain ⟨t2, a1, b1⟩ := kk r u t T'.heap (locs ++ L) e1.symm (by rw [← e2]; exact X'.warmed.alike) hp hb k1 k2 k3 T' rfl X'
    exact ⟨t2, st t2 a1, b1⟩
  · obtain ⟨k1, k2, k3⟩ := vx_keep h0 e1 hS hAX hf hL hF
    obtain ⟨t2, a1, b1⟩ := kx E ce q u t T'.heap (locs ++ L) e1.symm (by rw [← e2]; exact X'.warmed.alike) hp hb k1 k2 k3 (by rw [e1]; exact hce) hcv hcl T' rfl X'
    exact ⟨t2, st.trans a1, b1⟩
theorem vx_calll {S SX : Type} {post : Int64 → S → Prop} {px : SX → Prop} {B : S → State → Prop} {BX : String → SX → State → Prop} {AX : Nat → Prop} (hr : vx_Run p l e R s m args below meth c H locs cells slots mc ms (F0 m pc ls st0) rest (va_Ql post B A1 a) (vx_X px BX AX) free) (hS : va_S A0 H0 H locs) (hA : ∀ q, q < H.size → A1 q → A0 q) (hf : ∀ q, free q → A0 q) (hAX : ∀ q, q < H.size → AX q → A0 q)
    (kx : ∀ (E : String) (ce : Cell) (q9 : Addr) (u : SX) (t : State) (H1 : Heap) (locs1 : List Loc), t.heap = H1 → s.vm.Alike t.vm → px u → BX E u t → H.size ≤ H1.size → (∀ q : Nat, q < H.size → ¬ AX q → H1[q]? = H[q]?) → va_S A0 H0 H1 locs1 → H1[q9]? = some ce → ce.vm = .none → s.vm.findClass E = some ce.cls → vx_W p l e R s m args below meth c H1 locs1 (cells + mc) (slots + ms) Q (F0 m pc ls rest) q9)
    (kk : ∀ (r : Int64) (u : S) (t : State) (H1 : Heap) (locs1 : List Loc), t.heap = H1 → s.vm.Alike t.vm → post r u → B u t → H.size ≤ H1.size → (∀ q : Nat, q < H.size → ¬ A1 q → H1[q]? = H[q]?) → va_S A0 H0 H1 locs1 → W p l e R s m args below meth c H1 locs1 (cells + mc) (slots + ms) Q (F0 m (pc + 3) ls (.long r :: rest))) : W p l e R s m args below meth c H locs cells slots Q (F0 m pc ls st0) := by
  intro T hT X
  rcases hr T hT X with ⟨v, st₀, t, T', L, h0, X', hL, e1, e2, ⟨⟨r, u, hv, hp, hb⟩, hF⟩, st⟩ | ⟨q, st₀, t, T', L, E, ce, h0, X', hL, e1, e2, ⟨u, hp, hb, hF⟩, hce, hcv, hcl, st⟩
  · cases hv
    obtain ⟨k1, k2, k3⟩ := vx_keep h0 e1 hS hA hf hL hF
    obtain ⟨t2, a1, b1⟩ := kk r u t T'.heap (locs ++ L) e1.symm (by rw [← e2]; exact X'.warmed.alike) hp hb k1 k2 k3 T' rfl X'
    exact ⟨t2, st t2 a1, b1⟩
  · obtain ⟨k1, k2, k3⟩ := vx_keep h0 e1 hS hAX hf hL hF
    obtain ⟨t2, a1, b1⟩ := kx E ce q u t T'.heap (locs ++ L) e1.symm (by rw [← e2]; exact X'.warmed.alike) hp hb k1 k2 k3 (by rw [e1]; exact hce) hcv hcl T' rfl X'
    exact ⟨t2, st.trans a1, b1⟩
theorem vx_callf {S SX : Type} {post : UInt32 → S → Prop} {px : SX → Prop} {B : S → State → Prop} {BX : String → SX → State → Prop} {AX : Nat → Prop} (hr : vx_Run p l e R s m args below meth c H locs cells slots mc ms (F0 m pc ls st0) rest (va_Qf post B A1 a) (vx_X px BX AX) free) (hS : va_S A0 H0 H locs) (hA : ∀ q, q < H.size → A1 q → A0 q) (hf : ∀ q, free q → A0 q) (hAX : ∀ q, q < H.size → AX q → A0 q)
    (kx : ∀ (E : String) (ce : Cell) (q9 : Addr) (u : SX) (t : State) (H1 : Heap) (locs1 : List Loc), t.heap = H1 → s.vm.Alike t.vm → px u → BX E u t → H.size ≤ H1.size → (∀ q : Nat, q < H.size → ¬ AX q → H1[q]? = H[q]?) → va_S A0 H0 H1 locs1 → H1[q9]? = some ce → ce.vm = .none → s.vm.findClass E = some ce.cls → vx_W p l e R s m args below meth c H1 locs1 (cells + mc) (slots + ms) Q (F0 m pc ls rest) q9)
    (kk : ∀ (r : UInt32) (u : S) (t : State) (H1 : Heap) (locs1 : List Loc), t.heap = H1 → s.vm.Alike t.vm → post r u → B u t → H.size ≤ H1.size → (∀ q : Nat, q < H.size → ¬ A1 q → H1[q]? = H[q]?) → va_S A0 H0 H1 locs1 → W p l e R s m args below meth c H1 locs1 (cells + mc) (slots + ms) Q (F0 m (pc + 3) ls (.float r :: rest))) : W p l e R s m args below meth c H locs cells slots Q (F0 m pc ls st0) := by
  intro T hT X
  rcases hr T hT X with ⟨v, st₀, t, T', L, h0, X', hL, e1, e2, ⟨⟨r, u, hv, hp, hb⟩, hF⟩, st⟩ | ⟨q, st₀, t, T', L, E, ce, h0, X', hL, e1, e2, ⟨u, hp, hb, hF⟩, hce, hcv, hcl, st⟩
  · cases hv
    obtain ⟨k1, k2, k3⟩ := vx_keep h0 e1 hS hA hf hL hF
    obtain ⟨t2, a1, b1⟩ := kk r u t T'.heap (locs ++ L) e1.symm (by rw [← e2]; exact X'.warmed.alike) hp hb k1 k2 k3 T' rfl X'
    exact ⟨t2, st t2 a1, b1⟩
  · obtain ⟨k1, k2, k3⟩ := vx_keep h0 e1 hS hAX hf hL hF
    obtain ⟨t2, a1, b1⟩ := kx E ce q u t T'.heap (locs ++ L) e1.symm (by rw [← e2]; exact X'.warmed.alike) hp hb k1 k2 k3 (by rw [e1]; exact hce) hcv hcl T' rfl X'
    exact ⟨t2, st.trans a1, b1⟩
theorem vx_calld {S SX : Type} {post : UInt64 → S → Prop} {px : SX → Prop} {B : S → State → Prop} {BX : String → SX → State → Prop} {AX : Nat → Prop} (hr : vx_Run p l e R s m args below meth c H locs cells slots mc ms (F0 m pc ls st0) rest (va_Qd post B A1 a) (vx_X px BX AX) free) (hS : va_S A0 H0 H locs) (hA : ∀ q, q < H.size → A1 q → A0 q) (hf : ∀ q, free q → A0 q) (hAX : ∀ q, q < H.size → AX q → A0 q)
    (kx : ∀ (E : String) (ce : Cell) (q9 : Addr) (u : SX) (t : State) (H1 : Heap) (locs1 : List Loc), t.heap = H1 → s.vm.Alike t.vm → px u → BX E u t → H.size ≤ H1.size → (∀ q : Nat, q < H.size → ¬ AX q → H1[q]? = H[q]?) → va_S A0 H0 H1 locs1 → H1[q9]? = some ce → ce.vm = .none → s.vm.findClass E = some ce.cls → vx_W p l e R s m args below meth c H1 locs1 (cells + mc) (slots + ms) Q (F0 m pc ls rest) q9)
    (kk : ∀ (r : UInt64) (u : S) (t : State) (H1 : Heap) (locs1 : List Loc), t.heap = H1 → s.vm.Alike t.vm → post r u → B u t → H.size ≤ H1.size → (∀ q : Nat, q < H.size → ¬ A1 q → H1[q]? = H[q]?) → va_S A0 H0 H1 locs1 → W p l e R s m args below meth c H1 locs1 (cells + mc) (slots + ms) Q (F0 m (pc + 3) ls (.double r :: rest))) : W p l e R s m args below meth c H locs cells slots Q (F0 m pc ls st0) := by
  intro T hT X
  rcases hr T hT X with ⟨v, st₀, t, T', L, h0, X', hL, e1, e2, ⟨⟨r, u, hv, hp, hb⟩, hF⟩, st⟩ | ⟨q, st₀, t, T', L, E, ce, h0, X', hL, e1, e2, ⟨u, hp, hb, hF⟩, hce, hcv, hcl, st⟩
  · cases hv
    obtain ⟨k1, k2, k3⟩ := vx_keep h0 e1 hS hA hf hL hF
    obtain ⟨t2, a1, b1⟩ := kk r u t T'.heap (locs ++ L) e1.symm (by rw [← e2]; exact X'.warmed.alike) hp hb k1 k2 k3 T' rfl X'
    exact ⟨t2, st t2 a1, b1⟩
  · obtain ⟨k1, k2, k3⟩ := vx_keep h0 e1 hS hAX hf hL hF
    obtain ⟨t2, a1, b1⟩ := kx E ce q u t T'.heap (locs ++ L) e1.symm (by rw [← e2]; exact X'.warmed.alike) hp hb k1 k2 k3 (by rw [e1]; exact hce) hcv hcl T' rfl X'
    exact ⟨t2, st.trans a1, b1⟩
theorem vx_callv {S SX : Type} {post : S → Prop} {px : SX → Prop} {B : S → State → Prop} {BX : String → SX → State → Prop} {AX : Nat → Prop} (hr : vx_Run p l e R s m args below meth c H locs cells slots mc ms (F0 m pc ls st0) rest (va_Qv post B A1 a) (vx_X px BX AX) free) (hS : va_S A0 H0 H locs) (hA : ∀ q, q < H.size → A1 q → A0 q) (hf : ∀ q, free q → A0 q) (hAX : ∀ q, q < H.size → AX q → A0 q)
    (kx : ∀ (E : String) (ce : Cell) (q9 : Addr) (u : SX) (t : State) (H1 : Heap) (locs1 : List Loc), t.heap = H1 → s.vm.Alike t.vm → px u → BX E u t → H.size ≤ H1.size → (∀ q : Nat, q < H.size → ¬ AX q → H1[q]? = H[q]?) → va_S A0 H0 H1 locs1 → H1[q9]? = some ce → ce.vm = .none → s.vm.findClass E = some ce.cls → vx_W p l e R s m args below meth c H1 locs1 (cells + mc) (slots + ms) Q (F0 m pc ls rest) q9)
    (kk : ∀ (u : S) (t : State) (H1 : Heap) (locs1 : List Loc), t.heap = H1 → s.vm.Alike t.vm → post u → B u t → H.size ≤ H1.size → (∀ q : Nat, q < H.size → ¬ A1 q → H1[q]? = H[q]?) → va_S A0 H0 H1 locs1 → W p l e R s m args below meth c H1 locs1 (cells + mc) (slots + ms) Q (F0 m (pc + 3) ls (rest))) : W p l e R s m args below meth c H locs cells slots Q (F0 m pc ls st0) := by
  intro T hT X
  rcases hr T hT X with ⟨v, st₀, t, T', L, h0, X', hL, e1, e2, ⟨⟨u, hv, hp, hb⟩, hF⟩, st⟩ | ⟨q, st₀, t, T', L, E, ce, h0, X', hL, e1, e2, ⟨u, hp, hb, hF⟩, hce, hcv, hcl, st⟩
  · cases hv
    obtain ⟨k1, k2, k3⟩ := vx_keep h0 e1 hS hA hf hL hF
    obtain ⟨t2, a1, b1⟩ := kk u t T'.heap (locs ++ L) e1.symm (by rw [← e2]; exact X'.warmed.alike) hp hb k1 k2 k3 T' rfl X'
    exact ⟨t2, st t2 a1, b1⟩
  · obtain ⟨k1, k2, k3⟩ := vx_keep h0 e1 hS hAX hf hL hF
    obtain ⟨t2, a1, b1⟩ := kx E ce q u t T'.heap (locs ++ L) e1.symm (by rw [← e2]; exact X'.warmed.alike) hp hb k1 k2 k3 (by rw [e1]; exact hce) hcv hcl T' rfl X'
    exact ⟨t2, st.trans a1, b1⟩
/-- caught by the row x of this method's table; the rows ahead don't take it -/
theorem vx_catch {own name : String} {E : String} {ce : Cell} {q : Addr} (hown : s.vm.findClass own = some m.cls) (pre : List ExceptionTableEntry) (x : ExceptionTableEntry) (suf : List ExceptionTableEntry) (hsplit : c.exceptionTable.toList = pre ++ x :: suf)
    (hpass : ∀ z ∈ pre, covers z pc = false ∨ (z.catchType ≠ 0 ∧ ∃ nm : String, (Cond.classLink own z.catchType nm).before args s = true ∧ va_Nc E nm s)) (hx : covers x pc = true) (h0 : x.catchType ≠ 0)
    (hlink : (Cond.classLink own x.catchType name).before args s = true) (hcast : (Cond.castable E name).before args s = true) (hcell : H[q]? = some ce) (hv : ce.vm = .none) (hcl : s.vm.findClass E = some ce.cls)
    (kk : W p l e R s m args below meth c H locs cells slots Q (F0 m x.handlerPc ls [.ref q])) : vx_W p l e R s m args below meth c H locs cells slots Q (F0 m pc ls rest) q := by
  intro T hT X
  have hpl : e.platform.magicAccessors = ({} : Platform).magicAccessors := by rw [X.admits.platform]
  obtain ⟨c3, c4, hc3, hc4, hasg⟩ := Cond.castable_spec hcast
  cases Option.some.inj (hc3.symm.trans hcl)
  obtain ⟨c5, hc5, hcl5⟩ := Cond.classLink_spec hown hlink e.platform hpl
  cases Option.some.inj (hc4.symm.trans hc5)
  obtain ⟨vm', X', st⟩ := X.thenCaughtThrough q (g := F0 m pc ls rest) rfl (Steps.refl _) (by rw [hT]; exact hcell) (by rw [hv]; rfl) (by obtain ⟨k9, h9, -⟩ := Vm.findClass_spec hcl; exact ⟨k9, h9⟩) pre x suf hsplit
    (fun z hz => by
      rcases hpass z hz with h | ⟨hz0, nm, hl1, hn1⟩
      · exact Or.inl h
      · obtain ⟨c6, hc6, hcl6⟩ := Cond.classLink_spec hown hl1 e.platform hpl
        obtain ⟨a8, b8, h1, h2, h3⟩ := hn1
        cases Option.some.inj (h1.symm.trans hcl)
        cases Option.some.inj (h2.symm.trans hc6)
        exact Or.inr ⟨hz0, _, hcl6, h3⟩) hx (Or.inr ⟨h0, c4, hcl5, hasg⟩)
  obtain ⟨t, a1, b1⟩ := kk (T.setVm vm') hT X'
  exact ⟨t, st.trans a1, b1⟩
end Rows
section Ends
variable {p : Program} {l : Launch} {e : Env} {R : Room} {s : State} {m : MethodId} {args : Array Value} {below : List Frame} {meth : Method} {c : Code} {H : Heap} {locs : List Loc} {cells slots : Nat} {Q : State → Prop}
variable {mc ms : Nat} {free : Addr → Prop} {A0 A1 : Nat → Prop} {H0 : Heap} {a : Array Value} {ls : Array Slot} {st0 rest : List Value}
variable {Qc : Array Value → State → Outcome → State → Prop} {XC : String → State → State → Prop}
/-- what a body that may throw owes at its end -/
def vx_MQ (below : List Frame) (Qc : Array Value → State → Outcome → State → Prop) (XC : String → State → State → Prop) (a : Array Value) (s : State) (mc ms : Nat) (free : Addr → Prop) : State → Prop := fun t =>
  ∃ o, t.status = .running ∧ Ended t below o ∧ vx_Q Qc XC mc ms free a s o t
theorem vx_ret {g : JFrame} {mc ms : Nat} (k : W p l e R s m args below meth c H locs cells slots (MQ below Qc args s mc ms free) g) : W p l e R s m args below meth c H locs cells slots (vx_MQ below Qc XC args s mc ms free) g := by
  intro T hT X
  obtain ⟨t, a1, o, b1, b2, b3, b4⟩ := k T hT X
  exact ⟨t, a1, o, b1, b2, Or.inl ⟨b3, b4⟩⟩
/-- not caught here: it goes on to the caller -/
theorem vx_widen {g : JFrame} {q : Addr} {k n : Nat} (h1 : cells ≤ k) (h2 : slots ≤ n) (kk : vx_W p l e R s m args below meth c H locs k n Q g q) : vx_W p l e R s m args below meth c H locs cells slots Q g q := fun T hT X => kk T hT (stand_widen X h1 h2)
theorem vx_out {pc : Nat} {E : String} {ce : Cell} {q : Addr} {mc ms : Nat} (hout : ∀ x ∈ c.exceptionTable.toList, covers x pc = false) (hlocks : meth.locks = false) (hcell : H[q]? = some ce) (hv : ce.vm = .none) (hcl : s.vm.findClass E = some ce.cls)
    (hx : ∀ t : State, t.heap = H → s.vm.Alike t.vm → XC E s t) (hf : ∀ z ∈ locs, free z.base) (hc : cells ≤ mc) (hs : slots ≤ ms) :
    vx_W p l e R s m args below meth c H locs cells slots (vx_MQ below Qc XC args s mc ms free) (F0 m pc ls rest) q := by
  intro T hT X
  obtain ⟨st1, hrun, hend, hW, hsm⟩ := X.leaveThrown q (g := F0 m pc ls rest) rfl rfl rfl hout hlocks
  have hcell9 : (T.setFrames (.throwing q :: below)).heap[q]? = some ce := by
    show T.heap[q]? = some ce
    rw [hT]; exact hcell
  exact ⟨_, st1, .threw q, hrun, hend, Or.inr ⟨q, rfl, E, ce, locs, hx _ hT hW.alike, hcell9, hv, hcl, hW, hsm.mono hc hs, hf⟩⟩
theorem vx_frame {U : State} {k n : Nat} (h : s.sameButNew ({ U with vm := s.vm } : State) locs k n) : s.heap.size ≤ U.heap.size ∧ ∀ q : Nat, q < s.heap.size → (∀ z ∈ locs, z.base ≠ q) → U.heap[q]? = s.heap[q]? := by
  obtain ⟨-, h2, -, -, -, h6⟩ := h
  refine ⟨h2, fun q hq hz => ?_⟩
  obtain ⟨c9, e1, e2, e3, e4⟩ := h6 q _ (Array.getElem?_eq_getElem hq)
  have hs : c9.slots = (s.heap[q]).slots := Array.ext_getElem? fun i => e4 i fun hm => hz _ hm rfl
  have h9 : c9 = s.heap[q] := by
    rw [hs] at e2
    exact e2
  have e5 : U.heap[q]? = some c9 := e1
  rw [e5, h9, Array.getElem?_eq_getElem hq]
/-- the words of a throw but the four that speak of the heap -/
def vx_no (w : Cond) : Bool := decide (w ≠ .isRef (.static Bundle.tN "UNASSIGNED_STACK" Bundle.steD)) && decide (w ≠ .isRef (.static Bundle.tN "SUPPRESSED_SENTINEL" Bundle.listD)) && decide (w ≠ .laysStatic Bundle.tN "UNASSIGNED_STACK" Bundle.steD) && decide (w ≠ .laysStatic Bundle.tN "SUPPRESSED_SENTINEL" Bundle.listD)
def vx_at0 (own : String) (ic : Nat) (X : String) (names : List String) : List Cond := (Bundle.ownAtoms0 own ic X names).filter vx_no
def vx_atS (own : String) (ic : Nat) (X : String) (names : List String) : List Cond := (Bundle.ownAtoms own ic X names).filter vx_no
/-- a word that the tables alone decide, or a good one -/
def vx_ot (w : Cond) : Bool := w.onTables || goodWord w
theorem vx_ot_at {args a' : Array Value} {s U : State} {w : Cond} (hW : s.WarmedH U.vm) (hvm : s.vm = U.vm) (hg : vx_ot w = true) (h : w.before args s = true) : w.before a' U = true := by
  simp only [vx_ot, Bool.or_eq_true] at hg
  rcases hg with hg | hg
  · exact va_tabs hg hvm h
  · exact word_at hW (good_of_word hg) h
/-- a list's words: the good ones out of the method's own list, the others by premises of their own -/
theorem vx_hat {args : Array Value} {s : State} {L B : List Cond} (h1 : ∀ w ∈ L.filter goodWord, w.before args s = true) (h2 : ∀ w ∈ L.filter (fun w => !goodWord w), w ∈ B) (h3 : ∀ w ∈ B, w.before args s = true) : ∀ w ∈ L, w.before args s = true := by
  intro w hw
  by_cases g : goodWord w = true
  · exact h1 w (List.mem_filter.mpr ⟨hw, g⟩)
  · refine h3 w (h2 w (List.mem_filter.mpr ⟨hw, ?_⟩))
    show (!goodWord w) = true
    cases hgw : goodWord w
    · rfl
    · exact absurd hgw g
theorem vx_c {args : Array Value} {s : State} {w : Cond} {B : List Cond} (h : w.before args s = true) (t : ∀ w ∈ B, w.before args s = true) : ∀ w' ∈ w :: B, w'.before args s = true := fun w' h' => (List.mem_cons.mp h').elim (fun e => by rw [e]; exact h) (t w')
theorem vx_n {args : Array Value} {s : State} : ∀ w ∈ ([] : List Cond), w.before args s = true := fun _ h => nomatch h
theorem vx_own {args : Array Value} {s : State} {L : List Cond} (h1 : ∀ w ∈ L.filter vx_no, w.before args s = true)
    (hU : (Cond.isRef (.static Bundle.tN "UNASSIGNED_STACK" Bundle.steD)).before args s = true) (hN : (Cond.isRef (.static Bundle.tN "SUPPRESSED_SENTINEL" Bundle.listD)).before args s = true)
    (lU : (Cond.laysStatic Bundle.tN "UNASSIGNED_STACK" Bundle.steD).before args s = true) (lN : (Cond.laysStatic Bundle.tN "SUPPRESSED_SENTINEL" Bundle.listD).before args s = true) : ∀ w ∈ L, w.before args s = true := by
  intro w hw
  by_cases e1 : w = .isRef (.static Bundle.tN "UNASSIGNED_STACK" Bundle.steD)
  · rw [e1]; exact hU
  · by_cases e2 : w = .isRef (.static Bundle.tN "SUPPRESSED_SENTINEL" Bundle.listD)
    · rw [e2]; exact hN
    · by_cases e3 : w = .laysStatic Bundle.tN "UNASSIGNED_STACK" Bundle.steD
      · rw [e3]; exact lU
      · by_cases e4 : w = .laysStatic Bundle.tN "SUPPRESSED_SENTINEL" Bundle.listD
        · rw [e4]; exact lN
        · exact h1 w (List.mem_filter.mpr ⟨hw, by unfold vx_no; rw [decide_eq_true e1, decide_eq_true e2, decide_eq_true e3, decide_eq_true e4]; rfl⟩)
/-- where a static field lies, its class's statics cell in H -/
def vx_L (C n d : String) (A : Nat → Prop) (U : State) (H : Heap) : Prop := ∃ (c : ClassId) (k : Class) (i : Nat) (f : Field) (a : Nat) (cell : Cell), U.vm.findClass C = some c ∧ U.fieldFound? C n d = some (c, k, i, f) ∧ f.isStatic = true ∧ k.statics = some a ∧ H[a]? = some cell ∧ cell.vm.isStatics = true ∧ cell.cls = c ∧ f.slot < cell.slots.size ∧ k.staticTypes[f.slot]? = some f.type ∧ ¬ A a
theorem vx_L.moved {C n d : String} {A : Nat → Prop} {u U : State} {H : Heap} (hvm : u.vm.Alike U.vm) (h : vx_L C n d A u H) : vx_L C n d A U H := by
  obtain ⟨c, k, i, f, a, cell, h1, h2, h3, h4, h5, h6, h7, h8, h9, h10⟩ := h
  obtain ⟨k', hi', he⟩ := State.fieldFound?_setVm hvm h2
  exact ⟨c, k', i, f, a, cell, by rw [hvm.findClass]; exact h1, hi', h3, by rw [he]; exact h4, h5, h6, h7, h8, by rw [he]; exact h9, h10⟩
theorem vx_L.kept {C n d : String} {A : Nat → Prop} {U : State} {H H1 : Heap} (h : vx_L C n d A U H) (hq : ∀ a : Nat, a < H.size → ¬ A a → H1[a]? = H[a]?) : vx_L C n d A U H1 := by
  obtain ⟨c, k, i, f, a, cell, h1, h2, h3, h4, h5, h6, h7, h8, h9, h10⟩ := h
  exact ⟨c, k, i, f, a, cell, h1, h2, h3, h4, by rw [hq a (Array.getElem?_eq_some_iff.mp h5).1 h10]; exact h5, h6, h7, h8, h9, h10⟩
theorem vx_L.narrow {C n d : String} {A B : Nat → Prop} {U : State} {H : Heap} (h : vx_L C n d A U H) (hAB : ∀ q, B q → A q) : vx_L C n d B U H := by
  obtain ⟨c, k, i, f, a, cell, h1, h2, h3, h4, h5, h6, h7, h8, h9, h10⟩ := h
  exact ⟨c, k, i, f, a, cell, h1, h2, h3, h4, h5, h6, h7, h8, h9, fun z => h10 (hAB _ z)⟩
theorem vx_L.word {C n d : String} {A : Nat → Prop} {s : State} {args : Array Value} (h : vx_L C n d A s s.heap) : (Cond.laysStatic C n d).before args s = true := by
  obtain ⟨c, k, i, f, a, cell, h1, h2, h3, h4, h5, h6, h7, h8, h9, -⟩ := h
  show (Cond.laysStatic C n d).holds args s none s [] = true
  exact Cond.laysStatic_of h1 h2 h3 h4 h5 h6 h7 h8 h9
/-- .. and what it holds: null or some reference -/
def vx_Zq (C n d : String) (A : Nat → Prop) (U : State) (H : Heap) : Prop := va_Zq C n d A U H ∧ vx_L C n d A U H
theorem vx_Zq.moved {C n d : String} {A : Nat → Prop} {u U : State} {H : Heap} (hvm : u.vm.Alike U.vm) (h : vx_Zq C n d A u H) : vx_Zq C n d A U H := ⟨va_Zq.moved hvm h.1, vx_L.moved hvm h.2⟩
theorem vx_Zq.kept {C n d : String} {A : Nat → Prop} {U : State} {H H1 : Heap} (h : vx_Zq C n d A U H) (hq : ∀ a : Nat, a < H.size → ¬ A a → H1[a]? = H[a]?) : vx_Zq C n d A U H1 := ⟨va_Zq.kept h.1 hq, vx_L.kept h.2 hq⟩
theorem vx_Zq.narrow {C n d : String} {A B : Nat → Prop} {U : State} {H : Heap} (h : vx_Zq C n d A U H) (hAB : ∀ q, B q → A q) : vx_Zq C n d B U H := ⟨va_Zq.narrow h.1 hAB, vx_L.narrow h.2 hAB⟩
theorem vx_Zqof {args : Array Value} {s : State} {C n d : String} {A : Nat → Prop} (hl : (Cond.laysStatic C n d).before args s = true) (hini : (Cond.initialized C).before args s = true) (h : (Cond.isRef (.static C n d)).before args s = true) (hA : ∀ a : Nat, a < s.heap.size → ¬ A a) : vx_Zq C n d A s s.heap := by
  refine ⟨va_Zqof hl hini h hA, ?_⟩
  obtain ⟨c, k, i, f, a, cell, h1, h2, h3, h4, h5, h6, h7, h8, h9⟩ := Cond.laysStatic_spec hl
  exact ⟨c, k, i, f, a, cell, h1, h2, h3, h4, h5, h6, h7, h8, h9, hA a (Array.getElem?_eq_some_iff.mp h5).1⟩
theorem vx_isRef {C n d : String} {v : Value} {A : Nat → Prop} {s : State} {args : Array Value} (h : va_Z C n d v A s s.heap) (hv : v.isRef = true) : (Cond.isRef (.static C n d)).before args s = true := by
  obtain ⟨cf, kf, fi, f, a, cell, h1, h2, h3, h4, h5, h6, h7, -⟩ := h
  have he : (Term.static C n d).eval args s none [] s = some v := by
    simp [Term.eval, State.fieldNamed?, h1, h2, h4, h5, h6, h7]
  simp only [Cond.before, Cond.holds, Cond.value, he]
  cases v <;> simp_all [Value.isRef]
theorem vx_isRefq {C n d : String} {A : Nat → Prop} {s : State} {args : Array Value} (h : va_Zq C n d A s s.heap) : (Cond.isRef (.static C n d)).before args s = true := by
  rcases h with h | ⟨t, h⟩
  · exact vx_isRef h rfl
  · exact vx_isRef h rfl
/-- the same frame, seen from here: as if the method were called anew in this heap -/
theorem vx_rebase {T : State} (X : Stand p l e R s m args below meth c T locs cells slots) {R' : Room} (hf : R'.frames ≤ R.frames) (hl : R'.locals ≤ R.locals) (hc : cells + R'.cells ≤ R.cells) (hs : slots + R'.slots ≤ R.slots) :
    Stand p l e R' ((T.setVm s.vm).setFrames (.invoking m args :: below)) m args below meth c T [] 0 0 := by
  have htop : (T.setVm s.vm).topJava?.isSome := X.here.top
  have hF : ((T.setVm s.vm).setFrames (.invoking m args :: below)).frames = .invoking m args :: below := State.frames_setFrames _ (State.cur_lt_of_top htop)
  obtain ⟨g₀, hg0⟩ := Option.isSome_iff_exists.mp htop
  obtain ⟨r, hr⟩ := State.topJava?_eq_some.mp hg0
  have hl9 : e.platform.stackLimits (T.setVm s.vm).me = e.platform.stackLimits s.me := X.limits
  have hb9 : (T.setVm s.vm).me.stackBytes = s.me.stackBytes := X.bytes
  refine ⟨X.admits, X.cas, X.clock, hF, ?_, X.hears, X.method, X.code, X.here, X.tail, X.warmed, ?_, ?_, ?_⟩
  · have h := X.room
    have hU : ((T.setVm s.vm).setFrames (.invoking m args :: below)).localsInUse = s.localsInUse := by
      rw [State.localsInUse_invoking hF (meth := meth) (c := c) X.method X.code, State.localsInUse_invoking X.frames X.method X.code]
    simp only [State.hasRoom, Bool.and_eq_true, decide_eq_true_eq] at h ⊢
    obtain ⟨⟨⟨⟨h1, h2, h3, h4, h5, h6⟩, h7⟩, h8⟩, h9⟩ := h
    rw [X.frames, List.length_cons] at h2 h3
    have q1 := X.heapSize
    have q2 := X.used
    simp only [hF, hU, List.length_cons, State.stackLimits_setFrames, State.stackBytes_setFrames, hl9, hb9]
    refine ⟨⟨⟨⟨by omega, by omega, by omega, by omega, by omega, h6⟩, ?_⟩, ?_⟩, X.book⟩
    · show T.heap.size + R'.cells ≤ e.platform.maxCells
      omega
    · show T.slotsUsed + R'.slots ≤ e.platform.maxSlots
      omega
  · rw [State.stackLimits_setFrames]; rfl
  · rw [State.stackBytes_setFrames]; rfl
  · refine ⟨?_, Nat.le_refl _, Nat.le_refl _, ?_, ?_, fun a c9 h9 => ⟨c9, h9, rfl, rfl, fun _ _ => rfl⟩⟩
    · obtain ⟨t, ht, -⟩ := State.frames_cons hr
      show T.setVm s.vm = { ((T.setVm s.vm).setFrames (.invoking m args :: below)).setFrames (T.setVm s.vm).frames with heap := T.heap, slotsUsed := T.slotsUsed }
      rw [State.setFrames_setFrames, State.setFrames_self ht]
      rfl
    · show T.slotsUsed = T.slotsUsed + ((T.heap.toList.drop T.heap.size).map (·.slots.size)).sum
      rw [List.drop_eq_nil_of_le (Nat.le_of_eq Array.length_toList)]
      rfl
    · show ((T.heap.toList.drop T.heap.size).map (·.slots.size)).sum ≤ 0
      rw [List.drop_eq_nil_of_le (Nat.le_of_eq Array.length_toList)]
      exact Nat.le_refl _
/-- 'throw new E()': new; dup; invokespecial; athrow -/
theorem vx_throw0 {cc : ByteArray} {pc : Nat} (hexec : p.tables.exec = Jvm.exec) (hb : c.code = cc) (hl : l.stackTraces = false) {own cls : String} {names : List String} {ik ic mc ms : Nat} {A : Nat → Prop}
    (hown : s.vm.findClass own = some m.cls) (hcls : Bundle.fit cls = true) (hnames : ∀ n ∈ names, Bundle.fit n = true)
    (hk : (Cond.classLink own ik cls).before args s = true) (hini : (Cond.initialized cls).before args s = true) (hat : ∀ w ∈ vx_at0 own ic cls names, w.before args s = true)
    (hgood : ∀ w ∈ Cond.classLink own ik cls :: Cond.initialized cls :: vx_at0 own ic cls names, vx_ot w = true)
    (hU : vx_Zq Bundle.tN "UNASSIGNED_STACK" Bundle.steD A s s.heap) (hN : vx_Zq Bundle.tN "SUPPRESSED_SENTINEL" Bundle.listD A s s.heap) (hS : va_S A s.heap H locs) (hsize : ls.size = c.maxLocals)
    (d0 : decode cc pc = .ok (.new ik, 3)) (d3 : decode cc (pc + 3) = .ok (.dup, 1)) (d4 : decode cc (pc + 4) = .ok (.invokespecial ic, 3)) (d7 : decode cc (pc + 7) = .ok (.athrow, 1))
    (hout : ∀ x ∈ c.exceptionTable.toList, covers x (pc + 7) = false)
    (hRframes : names.length + 3 < R.frames) (hRlocals : (rest.map fun v => v.category).sum + (13 * (names.length + 1) + 42) ≤ R.locals) (hRcells : cells + 1 ≤ R.cells) (hRslots : slots + 6 ≤ R.slots) (hlocks : meth.locks = false)
    (hx : ∀ t : State, s.vm.Alike t.vm → H.size ≤ t.heap.size → (∀ q : Nat, q < H.size → t.heap[q]? = H[q]?) → XC cls s t)
    (hf : ∀ z ∈ locs, free z.base) (hc : cells + 1 ≤ mc) (hs : slots + 6 ≤ ms) :
    W p l e R s m args below meth c H locs cells slots (vx_MQ below Qc XC args s mc ms free) (F0 m pc ls rest) := by
  intro T hT X
  have htr : e.platform.stackTraces = false := (show e.platform.stackTraces = l.stackTraces by rw [X.admits.platform]).trans hl
  have Y := vx_rebase X (R' := { frames := R.frames, locals := R.locals, cells := 1, slots := 6 }) (Nat.le_refl _) (Nat.le_refl _) hRcells hRslots
  obtain ⟨s', hA⟩ : ∃ z, z = (T.setVm s.vm).setFrames (.invoking m args :: below) := ⟨_, rfl⟩
  rw [← hA] at Y
  have hvm : s'.vm = s.vm := by rw [hA]; rfl
  have hhp : s'.heap = H := by rw [hA]; exact hT
  have hW0 : s.WarmedH s'.vm := by rw [hvm]; exact State.WarmedH.refl s
  have hat' : ∀ w ∈ vx_at0 own ic cls names, w.before args s' = true := fun w hw => vx_ot_at hW0 hvm.symm (hgood w (List.mem_cons_of_mem _ (List.mem_cons_of_mem _ hw))) (hat w hw)
  have hk' : (Cond.classLink own ik cls).before args s' = true := vx_ot_at hW0 hvm.symm (hgood _ List.mem_cons_self) hk
  have hini' : (Cond.initialized cls).before args s' = true := vx_ot_at hW0 hvm.symm (hgood _ (List.mem_cons_of_mem _ List.mem_cons_self)) hini
  have hU' : vx_Zq Bundle.tN "UNASSIGNED_STACK" Bundle.steD A s' s'.heap := by rw [hhp]; exact vx_Zq.moved hW0.alike (hU.kept hS.2.1)
  have hN' : vx_Zq Bundle.tN "SUPPRESSED_SENTINEL" Bundle.listD A s' s'.heap := by rw [hhp]; exact vx_Zq.moved hW0.alike (hN.kept hS.2.1)
  have h : ∀ w ∈ Bundle.ownAtoms0 own ic cls names, w.before args s' = true := vx_own hat' (vx_isRefq hU'.1) (vx_isRefq hN'.1) hU'.2.word hN'.2.word
  have hown' : s'.vm.findClass own = some m.cls := by rw [hvm]; exact hown
  have hins : (Cond.instantiable cls 6).before args s' = true := h _ (by simp [Bundle.ownAtoms0])
  obtain ⟨vm₁, cX, kX, hfX, hkX, -, -, X₁, st1⟩ := Y.newCold hexec (own := own) (C := cls) (index := ik) (n := 6) hown' hk' hins hini'
    (g := F0 m pc ls rest) rfl (by rw [hb]; exact d0) (Nat.le_refl _) (Nat.le_refl _)
  generalize hT1 : (T.setVm vm₁).pushCell { cls := cX, slots := kX.instanceTypes.map defaultValue, vm := .none } = T1 at X₁ st1
  have hcat : (Value.ref T.heap.size).category = 1 := rfl
  have hcellA : T1.heap[T.heap.size]? = some (freshCell cX kX) := by rw [← hT1]; exact State.heap_pushCell_size _ _
  have d3' : decode c.code (pc + 3) = .ok (.dup, 1) := by rw [hb]; exact d3
  obtain ⟨U, hsteps, hrun, hend, hW, hsame, ce, hce, hO⟩ := X₁.ctorThrow0 hexec htr (own := own) (cls := cls) (names := names) (ic := ic) hown' hcls hnames h (fun x hx => nomatch hx) hfX hkX hcellA (by rw [hhp, hT]; exact Nat.le_refl _)
    (g := { method := m, pc := pc + 4, locals := ls, stack := .ref T.heap.size :: .ref T.heap.size :: rest, locked := none }) rfl hsize rfl rfl (rest := rest) rfl
    (by rw [hb]; exact d4) (by rw [hb]; exact d7) hout hRframes (by simp only [List.map_cons, List.sum_cons, hcat]; omega) hlocks
  obtain ⟨f1, f2⟩ := vx_frame hsame
  rw [hhp] at f1 f2
  have hWs : s.WarmedH U.vm := State.WarmedH.trans hW0 hW
  have hcl : s.vm.findClass cls = some ce.cls := by
    have h9 := hO.cls
    rw [hvm] at h9
    exact h9
  have hall : s.sameButNew ({ U with vm := s.vm } : State) locs mc ms := by
    subst hA
    obtain ⟨e1, e2⟩ := hsame
    rw [State.setFrames_setFrames] at e1
    have h2 : (T.setVm s.vm).sameButNew ({ U with vm := s.vm } : State) [] (0 + 1) (0 + 6) := ⟨e1, e2⟩
    have h3 := X.same.trans h2
    rw [List.append_nil] at h3
    exact h3.mono hc hs
  refine ⟨U, ?_, .threw T.heap.size, hrun, hend, Or.inr ⟨T.heap.size, rfl, cls, ce, locs, hx U hWs.alike f1 (fun q hq => f2 q hq (fun z hz => nomatch hz)), hce, hO.vm, hcl, hWs, hall, hf⟩⟩
  refine st1 _ ?_
  show Steps p.tables e below (T1.setTop { method := m, pc := pc + 3, locals := ls, stack := .ref T.heap.size :: rest, locked := none }) _
  jvm_step X₁.here [X₁.here.top, hexec, d3', Value.category]
  exact hsteps
/-- 'throw new E("text")': new; dup; ldc; invokespecial; athrow -/
theorem vx_throwS {cc : ByteArray} {pc : Nat} (hexec : p.tables.exec = Jvm.exec) (hb : c.code = cc) (hl : l.stackTraces = false) {own cls text : String} {names : List String} {ik is ic mc ms sa : Nat} {A : Nat → Prop}
    (hown : s.vm.findClass own = some m.cls) (hcls : Bundle.fit cls = true) (hnames : ∀ n ∈ names, Bundle.fit n = true)
    (hk : (Cond.classLink own ik cls).before args s = true) (hini : (Cond.initialized cls).before args s = true) (hstr : vk_R own is text sa s) (hat : ∀ w ∈ vx_atS own ic cls names, w.before args s = true)
    (hgood : ∀ w ∈ Cond.classLink own ik cls :: Cond.initialized cls :: vx_atS own ic cls names, vx_ot w = true)
    (hU : vx_Zq Bundle.tN "UNASSIGNED_STACK" Bundle.steD A s s.heap) (hN : vx_Zq Bundle.tN "SUPPRESSED_SENTINEL" Bundle.listD A s s.heap) (hS : va_S A s.heap H locs) (hsize : ls.size = c.maxLocals)
    (d0 : decode cc pc = .ok (.new ik, 3)) (d3 : decode cc (pc + 3) = .ok (.dup, 1)) (d4 : decode cc (pc + 4) = .ok (.ldc is, 2)) (d6 : decode cc (pc + 6) = .ok (.invokespecial ic, 3)) (d9 : decode cc (pc + 9) = .ok (.athrow, 1))
    (hout : ∀ x ∈ c.exceptionTable.toList, covers x (pc + 9) = false)
    (hRframes : names.length + 3 < R.frames) (hRlocals : (rest.map fun v => v.category).sum + (13 * (names.length + 1) + 43) ≤ R.locals) (hRcells : cells + 1 ≤ R.cells) (hRslots : slots + 6 ≤ R.slots) (hlocks : meth.locks = false)
    (hx : ∀ t : State, s.vm.Alike t.vm → H.size ≤ t.heap.size → (∀ q : Nat, q < H.size → t.heap[q]? = H[q]?) → XC cls s t)
    (hf : ∀ z ∈ locs, free z.base) (hc : cells + 1 ≤ mc) (hs : slots + 6 ≤ ms) :
    W p l e R s m args below meth c H locs cells slots (vx_MQ below Qc XC args s mc ms free) (F0 m pc ls rest) := by
  intro T hT X
  have htr : e.platform.stackTraces = false := (show e.platform.stackTraces = l.stackTraces by rw [X.admits.platform]).trans hl
  have Y := vx_rebase X (R' := { frames := R.frames, locals := R.locals, cells := 1, slots := 6 }) (Nat.le_refl _) (Nat.le_refl _) hRcells hRslots
  obtain ⟨s', hA⟩ : ∃ z, z = (T.setVm s.vm).setFrames (.invoking m args :: below) := ⟨_, rfl⟩
  rw [← hA] at Y
  have hvm : s'.vm = s.vm := by rw [hA]; rfl
  have hhp : s'.heap = H := by rw [hA]; exact hT
  have hW0 : s.WarmedH s'.vm := by rw [hvm]; exact State.WarmedH.refl s
  have hat' : ∀ w ∈ vx_atS own ic cls names, w.before args s' = true := fun w hw => vx_ot_at hW0 hvm.symm (hgood w (List.mem_cons_of_mem _ (List.mem_cons_of_mem _ hw))) (hat w hw)
  have hk' : (Cond.classLink own ik cls).before args s' = true := vx_ot_at hW0 hvm.symm (hgood _ List.mem_cons_self) hk
  have hini' : (Cond.initialized cls).before args s' = true := vx_ot_at hW0 hvm.symm (hgood _ (List.mem_cons_of_mem _ List.mem_cons_self)) hini
  have hU' : vx_Zq Bundle.tN "UNASSIGNED_STACK" Bundle.steD A s' s'.heap := by rw [hhp]; exact vx_Zq.moved hW0.alike (hU.kept hS.2.1)
  have hN' : vx_Zq Bundle.tN "SUPPRESSED_SENTINEL" Bundle.listD A s' s'.heap := by rw [hhp]; exact vx_Zq.moved hW0.alike (hN.kept hS.2.1)
  have h : ∀ w ∈ Bundle.ownAtoms own ic cls names, w.before args s' = true := vx_own hat' (vx_isRefq hU'.1) (vx_isRefq hN'.1) hU'.2.word hN'.2.word
  have hown' : s'.vm.findClass own = some m.cls := by rw [hvm]; exact hown
  have hins : (Cond.instantiable cls 6).before args s' = true := h _ (by simp [Bundle.ownAtoms])
  obtain ⟨vm₁, cX, kX, hfX, hkX, -, -, X₁, st1⟩ := Y.newCold hexec (own := own) (C := cls) (index := ik) (n := 6) hown' hk' hins hini'
    (g := F0 m pc ls rest) rfl (by rw [hb]; exact d0) (Nat.le_refl _) (Nat.le_refl _)
  generalize hT1 : (T.setVm vm₁).pushCell { cls := cX, slots := kX.instanceTypes.map defaultValue, vm := .none } = T1 at X₁ st1
  have hcat : (Value.ref T.heap.size).category = 1 := rfl
  have hcellA : T1.heap[T.heap.size]? = some (freshCell cX kX) := by rw [← hT1]; exact State.heap_pushCell_size _ _
  have d3' : decode c.code (pc + 3) = .ok (.dup, 1) := by rw [hb]; exact d3
  have d4' : decode c.code (pc + 4) = .ok (.ldc is, 2) := by rw [hb]; exact d4
  have hstr' : vk_R own is text sa s' := vk_R.warm hW0 hstr
  obtain ⟨U, hsteps, hrun, hend, hW, hsame, ce, hce, hO⟩ := X₁.ctorThrowS hexec htr (own := own) (cls := cls) (names := names) (ic := ic) hown' hcls hnames h (fun x hx => nomatch hx) hfX hkX hcellA (by rw [hhp, hT]; exact Nat.le_refl _) (msg := .ref sa) rfl
    (g := { method := m, pc := pc + 6, locals := ls, stack := .ref sa :: .ref T.heap.size :: .ref T.heap.size :: rest, locked := none }) rfl hsize rfl rfl (rest := rest) rfl
    (by rw [hb]; exact d6) (by rw [hb]; exact d9) hout hRframes (by simp only [List.map_cons, List.sum_cons, hcat]; omega) hlocks
  obtain ⟨f1, f2⟩ := vx_frame hsame
  rw [hhp] at f1 f2
  have hWs : s.WarmedH U.vm := State.WarmedH.trans hW0 hW
  have hcl : s.vm.findClass cls = some ce.cls := by
    have h9 := hO.cls
    rw [hvm] at h9
    exact h9
  have hall : s.sameButNew ({ U with vm := s.vm } : State) locs mc ms := by
    subst hA
    obtain ⟨e1, e2⟩ := hsame
    rw [State.setFrames_setFrames] at e1
    have h2 : (T.setVm s.vm).sameButNew ({ U with vm := s.vm } : State) [] (0 + 1) (0 + 6) := ⟨e1, e2⟩
    have h3 := X.same.trans h2
    rw [List.append_nil] at h3
    exact h3.mono hc hs
  refine ⟨U, ?_, .threw T.heap.size, hrun, hend, Or.inr ⟨T.heap.size, rfl, cls, ce, locs, hx U hWs.alike f1 (fun q hq => f2 q hq (fun z hz => nomatch hz)), hce, hO.vm, hcl, hWs, hall, hf⟩⟩
  refine st1 _ ?_
  show Steps p.tables e below (T1.setTop { method := m, pc := pc + 3, locals := ls, stack := .ref T.heap.size :: rest, locked := none }) _
  jvm_step X₁.here [X₁.here.top, hexec, d3', Value.category]
  exact X₁.ldcString hexec (own := own) (text := text) (index := is) (a := sa) hown' hstr'.1 hstr'.2
    (g := { method := m, pc := pc + 4, locals := ls, stack := .ref T.heap.size :: .ref T.heap.size :: rest, locked := none }) rfl d4' _ hsteps
/-- 'throw new E("text")', the text by a wide index -/
theorem vx_throwSW {cc : ByteArray} {pc : Nat} (hexec : p.tables.exec = Jvm.exec) (hb : c.code = cc) (hl : l.stackTraces = false) {own cls text : String} {names : List String} {ik is ic mc ms sa : Nat} {A : Nat → Prop}
    (hown : s.vm.findClass own = some m.cls) (hcls : Bundle.fit cls = true) (hnames : ∀ n ∈ names, Bundle.fit n = true)
    (hk : (Cond.classLink own ik cls).before args s = true) (hini : (Cond.initialized cls).before args s = true) (hstr : vk_R own is text sa s) (hat : ∀ w ∈ vx_atS own ic cls names, w.before args s = true)
    (hgood : ∀ w ∈ Cond.classLink own ik cls :: Cond.initialized cls :: vx_atS own ic cls names, vx_ot w = true)
    (hU : vx_Zq Bundle.tN "UNASSIGNED_STACK" Bundle.steD A s s.heap) (hN : vx_Zq Bundle.tN "SUPPRESSED_SENTINEL" Bundle.listD A s s.heap) (hS : va_S A s.heap H locs) (hsize : ls.size = c.maxLocals)
    (d0 : decode cc pc = .ok (.new ik, 3)) (d3 : decode cc (pc + 3) = .ok (.dup, 1)) (d4 : decode cc (pc + 4) = .ok (.ldc_w is, 3)) (d7 : decode cc (pc + 7) = .ok (.invokespecial ic, 3)) (d10 : decode cc (pc + 10) = .ok (.athrow, 1))
    (hout : ∀ x ∈ c.exceptionTable.toList, covers x (pc + 10) = false)
    (hRframes : names.length + 3 < R.frames) (hRlocals : (rest.map fun v => v.category).sum + (13 * (names.length + 1) + 43) ≤ R.locals) (hRcells : cells + 1 ≤ R.cells) (hRslots : slots + 6 ≤ R.slots) (hlocks : meth.locks = false)
    (hx : ∀ t : State, s.vm.Alike t.vm → H.size ≤ t.heap.size → (∀ q : Nat, q < H.size → t.heap[q]? = H[q]?) → XC cls s t)
    (hf : ∀ z ∈ locs, free z.base) (hc : cells + 1 ≤ mc) (hs : slots + 6 ≤ ms) :
    W p l e R s m args below meth c H locs cells slots (vx_MQ below Qc XC args s mc ms free) (F0 m pc ls rest) := by
  intro T hT X
  have htr : e.platform.stackTraces = false := (show e.platform.stackTraces = l.stackTraces by rw [X.admits.platform]).trans hl
  have Y := vx_rebase X (R' := { frames := R.frames, locals := R.locals, cells := 1, slots := 6 }) (Nat.le_refl _) (Nat.le_refl _) hRcells hRslots
  obtain ⟨s', hA⟩ : ∃ z, z = (T.setVm s.vm).setFrames (.invoking m args :: below) := ⟨_, rfl⟩
  rw [← hA] at Y
  have hvm : s'.vm = s.vm := by rw [hA]; rfl
  have hhp : s'.heap = H := by rw [hA]; exact hT
  have hW0 : s.WarmedH s'.vm := by rw [hvm]; exact State.WarmedH.refl s
  have hat' : ∀ w ∈ vx_atS own ic cls names, w.before args s' = true := fun w hw => vx_ot_at hW0 hvm.symm (hgood w (List.mem_cons_of_mem _ (List.mem_cons_of_mem _ hw))) (hat w hw)
  have hk' : (Cond.classLink own ik cls).before args s' = true := vx_ot_at hW0 hvm.symm (hgood _ List.mem_cons_self) hk
  have hini' : (Cond.initialized cls).before args s' = true := vx_ot_at hW0 hvm.symm (hgood _ (List.mem_cons_of_mem _ List.mem_cons_self)) hini
  have hU' : vx_Zq Bundle.tN "UNASSIGNED_STACK" Bundle.steD A s' s'.heap := by rw [hhp]; exact vx_Zq.moved hW0.alike (hU.kept hS.2.1)
  have hN' : vx_Zq Bundle.tN "SUPPRESSED_SENTINEL" Bundle.listD A s' s'.heap := by rw [hhp]; exact vx_Zq.moved hW0.alike (hN.kept hS.2.1)
  have h : ∀ w ∈ Bundle.ownAtoms own ic cls names, w.before args s' = true := vx_own hat' (vx_isRefq hU'.1) (vx_isRefq hN'.1) hU'.2.word hN'.2.word
  have hown' : s'.vm.findClass own = some m.cls := by rw [hvm]; exact hown
  have hins : (Cond.instantiable cls 6).before args s' = true := h _ (by simp [Bundle.ownAtoms])
  obtain ⟨vm₁, cX, kX, hfX, hkX, -, -, X₁, st1⟩ := Y.newCold hexec (own := own) (C := cls) (index := ik) (n := 6) hown' hk' hins hini'
    (g := F0 m pc ls rest) rfl (by rw [hb]; exact d0) (Nat.le_refl _) (Nat.le_refl _)
  generalize hT1 : (T.setVm vm₁).pushCell { cls := cX, slots := kX.instanceTypes.map defaultValue, vm := .none } = T1 at X₁ st1
  have hcat : (Value.ref T.heap.size).category = 1 := rfl
  have hcellA : T1.heap[T.heap.size]? = some (freshCell cX kX) := by rw [← hT1]; exact State.heap_pushCell_size _ _
  have d3' : decode c.code (pc + 3) = .ok (.dup, 1) := by rw [hb]; exact d3
  have d4' : decode c.code (pc + 4) = .ok (.ldc_w is, 3) := by rw [hb]; exact d4
  have hstr' : vk_R own is text sa s' := vk_R.warm hW0 hstr
  obtain ⟨U, hsteps, hrun, hend, hW, hsame, ce, hce, hO⟩ := X₁.ctorThrowS hexec htr (own := own) (cls := cls) (names := names) (ic := ic) hown' hcls hnames h (fun x hx => nomatch hx) hfX hkX hcellA (by rw [hhp, hT]; exact Nat.le_refl _) (msg := .ref sa) rfl
    (g := { method := m, pc := pc + 7, locals := ls, stack := .ref sa :: .ref T.heap.size :: .ref T.heap.size :: rest, locked := none }) rfl hsize rfl rfl (rest := rest) rfl
    (by rw [hb]; exact d7) (by rw [hb]; exact d10) hout hRframes (by simp only [List.map_cons, List.sum_cons, hcat]; omega) hlocks
  obtain ⟨f1, f2⟩ := vx_frame hsame
  rw [hhp] at f1 f2
  have hWs : s.WarmedH U.vm := State.WarmedH.trans hW0 hW
  have hcl : s.vm.findClass cls = some ce.cls := by
    have h9 := hO.cls
    rw [hvm] at h9
    exact h9
  have hall : s.sameButNew ({ U with vm := s.vm } : State) locs mc ms := by
    subst hA
    obtain ⟨e1, e2⟩ := hsame
    rw [State.setFrames_setFrames] at e1
    have h2 : (T.setVm s.vm).sameButNew ({ U with vm := s.vm } : State) [] (0 + 1) (0 + 6) := ⟨e1, e2⟩
    have h3 := X.same.trans h2
    rw [List.append_nil] at h3
    exact h3.mono hc hs
  refine ⟨U, ?_, .threw T.heap.size, hrun, hend, Or.inr ⟨T.heap.size, rfl, cls, ce, locs, hx U hWs.alike f1 (fun q hq => f2 q hq (fun z hz => nomatch hz)), hce, hO.vm, hcl, hWs, hall, hf⟩⟩
  refine st1 _ ?_
  show Steps p.tables e below (T1.setTop { method := m, pc := pc + 3, locals := ls, stack := .ref T.heap.size :: rest, locked := none }) _
  jvm_step X₁.here [X₁.here.top, hexec, d3', Value.category]
  exact X₁.ldcStringW hexec (own := own) (text := text) (index := is) (a := sa) hown' hstr'.1 hstr'.2
    (g := { method := m, pc := pc + 4, locals := ls, stack := .ref T.heap.size :: .ref T.heap.size :: rest, locked := none }) rfl d4' _ hsteps
end Ends
section Bodies
variable {l : Launch}
theorem vx_ofW {y : MethodName} {ws ws' : List Cond} {rm : Room} {Pc : Array Value → State → Prop} {Qc : Array Value → State → Outcome → State → Prop} {XC : String → State → State → Prop} {mc ms : Nat} {free : Addr → Prop} {cc : ByteArray} {maxL : Nat} {ret : Option FieldType}
    (hy : plainName y.cls = true) (hw : ws = Cond.code y cc maxL ret :: ws')
    (body : ∀ p e s m args below meth c s₁, BodyLoose p l y (headSpec ws rm) cc maxL ret e s m args below meth c s₁ → c.maxLocals = maxL → (∀ x ∈ c.exceptionTable.toList, False) → Pc args s →
      W p l e (headSpec ws rm).room s m args below meth c s.heap [] 0 0 (vx_MQ below Qc XC args s mc ms free) (entryFrame m args maxL)) : vx_Met l y ws rm Pc Qc XC mc ms free := by
  refine MetFree.of_bodyS (code := cc) (maxLocals := maxL) (ret := ret) hy ?_ ?_
  · intro args s m h hn
    obtain ⟨meth, c, h1, h2, h3, h4, h5, h6, -, -⟩ := Cond.code_spec hn (atoms_spec (ws := ws) h _ (by rw [hw]; exact List.mem_cons_self))
    exact ⟨meth, c, h1, h2, h3, h4, h5, h6⟩
  · intro p e s m args below meth c s₁ B hml hP _
    have hh0 : s₁.heap = s.heap := by rw [B.state]; rfl
    have ht : ∀ x ∈ c.exceptionTable.toList, False := by
      obtain ⟨meth9, c9, h1, h2, -, -, -, -, h7, -⟩ := Cond.code_spec B.named (atoms_spec (ws := ws) B.pre _ (by rw [hw]; exact List.mem_cons_self))
      cases Option.some.inj (h1.symm.trans B.method)
      cases Option.some.inj (h2.symm.trans (Stand.of_body B).code)
      intro x hx
      rw [Array.isEmpty_iff.mp h7] at hx
      cases hx
    obtain ⟨t, a1, o, b1, b2, b3⟩ := body p e s m args below meth c s₁ B hml ht hP s₁ hh0 (Stand.of_body B)
    exact ⟨t, o, a1, b1, b2, b3⟩
/-- the table of a body with handlers -/
theorem vx_table {p : Program} {x y : MethodName} {S : Spec} {cc bytes : ByteArray} {maxL maxL' : Nat} {ret ret' : Option FieldType} {e : Env} {s s₁ : State} {m : MethodId} {args : Array Value} {below : List Frame} {meth : Method} {c : Code} {hh : List (Nat × Nat × Nat × Nat)}
    (B : BodyLoose p l y S cc maxL ret e s m args below meth c s₁) (h : (Cond.codeWith y bytes maxL' ret' hh).before args s = true) : c.exceptionTable.toList = tableOf hh := by
  obtain ⟨m9, meth9, c9, hn9, h1, h2, -, -, h6, -⟩ := Cond.codeWith_spec h
  cases Option.some.inj (hn9.symm.trans B.named)
  cases Option.some.inj (h1.symm.trans B.method)
  cases Option.some.inj (h2.symm.trans (Stand.of_body B).code)
  rw [← h6, table_eq]
end Bodies
end VXA
/-! ===== END ===== -/
/-! ===== BEGIN a static call of a method with an exception table ===== -/
section VXS
variable {p : Program} {l : Launch} {e : Env} {R : Room} {s : State} {m : MethodId} {args : Array Value} {below : List Frame} {meth : Method} {c : Code} {T : State} {H : Heap} {locs : List Loc} {cells slots : Nat}
abbrev vx_CSW (R : Room) (s : State) (args : Array Value) (own : String) (index : Nat) (y : MethodName) (bytes : ByteArray) (maxL : Nat) (ret : Option FieldType) (hh : List (Nat × Nat × Nat × Nat)) (ws : List Cond) (rm : Room) (mc ms n : Nat) : Prop :=
  (rm.cells = mc ∧ rm.slots = ms ∧ rm.frames + 1 ≤ R.frames ∧ 8 + (maxL + 11) + rm.locals ≤ R.locals ∧ (∀ w ∈ ws, ∀ (a' : Array Value) (U : State), s.WarmedH U.vm → w.before a' U = true) ∧ Cond.codeWith y bytes maxL ret hh ∈ ws) ∧
  (Cond.codeWith y bytes maxL ret hh).before args s = true ∧ (Cond.initialized y.cls).before args s = true ∧ (y.cls ≠ "java/lang/invoke/MethodHandle" ∧ y.cls ≠ "java/lang/invoke/VarHandle") ∧
  (∀ sig, parseMethodDescriptor y.desc = some sig → n = sig.parameters.length) ∧ (Cond.methodLink own index y).before args s = true ∧ (Cond.static y).before args s = true
theorem vx_cwSW {own : String} {index maxL mc ms : Nat} {y : MethodName} {bytes : ByteArray} {ret : Option FieldType} {hh : List (Nat × Nat × Nat × Nat)} {Ts ws ws' : List Cond} {rm : Room} (n : Nat) (ht : ∀ w ∈ Ts, w.before args s = true) (hT : GoodIn Ts (va_wsS own index y ws)) (hw : ws = Cond.codeWith y bytes maxL ret hh :: ws') (hrc : rm.cells = mc) (hrs : rm.slots = ms)
    (hd : y.cls ≠ "java/lang/invoke/MethodHandle" ∧ y.cls ≠ "java/lang/invoke/VarHandle" ∧ (parseMethodDescriptor y.desc).map (fun d => d.parameters.length) = some n) (hR : rm.frames + 1 ≤ R.frames ∧ 8 + (maxL + 11) + rm.locals ≤ R.locals) :
    vx_CSW R s args own index y bytes maxL ret hh ws rm mc ms n := by
  have ok : ∀ w ∈ va_wsS own index y ws, w.before args s = true := fun w h => ht w (hT w h).1
  have hG : GoodIn Ts ws := fun w h => hT w (by unfold va_wsS; exact List.mem_append_right _ h)
  have hc : Cond.codeWith y bytes maxL ret hh ∈ ws := by rw [hw]; exact List.mem_cons_self
  refine ⟨⟨hrc, hrs, hR.1, hR.2, pay_in ht hG, hc⟩, ht _ (hG _ hc).1, ok _ (by simp [va_wsS]), ⟨hd.1, hd.2.1⟩, fun sig h => ?_, ok _ (by simp [va_wsS]), ok _ (by simp [va_wsS])⟩
  have h2 := hd.2.2
  rw [h] at h2
  exact (Option.some.inj h2).symm
theorem vx_callSW (X : Stand p l e R s m args below meth c T locs cells slots) (hexec : p.tables.exec = Jvm.exec) {own : String} {index : Nat} {y : MethodName} {bytes : ByteArray} {maxL : Nat} {ret : Option FieldType} {hh : List (Nat × Nat × Nat × Nat)}
    (hown : s.vm.findClass own = some m.cls) (hlink : (Cond.methodLink own index y).before args s = true) (hstat : (Cond.static y).before args s = true) (hinit : (Cond.initialized y.cls).before args s = true)
    (hcode : (Cond.codeWith y bytes maxL ret hh).before args s = true) (hy : y.cls ≠ "java/lang/invoke/MethodHandle" ∧ y.cls ≠ "java/lang/invoke/VarHandle")
    {W9 : Nat} {Pre : Pt → Array Value → Prop} {Post : Pt → Array Value → Option Value → Pt → Prop} (hK : Back l R p e below s args y 3 W9 Pre Post)
    {g : JFrame} (hg : g.method = m) (hsize : g.locals.size = c.maxLocals) {argsL rest : List Value} (hlen : ∀ sig, parseMethodDescriptor y.desc = some sig → argsL.length = sig.parameters.length)
    (hstack : g.stack = argsL.reverse ++ rest) (hW : 2 * g.monitorRoom + (rest.map fun v => v.category).sum ≤ W9) (hdg : decode c.code g.pc = .ok (.invokestatic index, 3))
    (hpre : ∀ vm₁, s.WarmedH vm₁ → Pre ⟨T.setVm vm₁, locs, cells, slots⟩ argsL.toArray) :
    ∃ (v : Option Value) (vm₁ : Vm) (B : Pt), s.WarmedH vm₁ ∧ Stand p l e R s m args below meth c B.U B.locs B.cells B.slots ∧ Post ⟨T.setVm vm₁, locs, cells, slots⟩ argsL.toArray v B ∧
      ∀ target, Steps p.tables e below (B.U.setTop { g with pc := g.pc + 3, stack := v.toList ++ rest }) target → Steps p.tables e below (T.setTop g) target := by
  obtain ⟨mk, methM, cM, hnamed, hmethM, -, -, -, -, -, -, hsigM⟩ := Cond.codeWith_spec hcode
  have hstatic : methM.isStatic = true := Cond.static_spec hnamed hmethM hstat
  obtain ⟨kP, hkP, -⟩ := className_of_methodNamed hnamed
  have hinitP : kP.init = .initialized := Cond.initialized_spec (findClass_of_methodNamed hnamed) hkP hinit
  obtain ⟨vm₁, X₁, hstep₁⟩ := X.invokestatic hexec hown hlink hnamed hmethM hstatic hkP hinitP hy (g := g) hg (argsL := argsL) (rest := rest) (hlen _ hsigM) hstack hdg
  obtain ⟨v, B, X', hpost, hsteps⟩ := hK m meth c ⟨T.setVm vm₁, locs, cells, slots⟩ { g with stack := rest } (.invokestatic index) mk argsL.toArray X₁ hg hsize hdg hW (X₁.named hnamed) (hpre vm₁ X₁.warmed)
  exact ⟨v, vm₁, B, X₁.warmed, X', hpost, fun target h => hstep₁ _ fun acts => by rw [doInvoke_state]; exact hsteps.trans h⟩
theorem vx_runSW {y : MethodName} {bytes cc : ByteArray} {maxL nL mc ms n index : Nat} {ret : Option FieldType} {hh : List (Nat × Nat × Nat × Nat)} {ws : List Cond} {rm : Room} {Pc : Array Value → State → Prop} {Qc : Array Value → State → Outcome → State → Prop} {free : Addr → Prop} {Ts : List Cond} {own : String} {As rest : List Value} {g : JFrame}
    (S : CallFix p m c cc nL s args Ts own) (hM : Met l y ws rm Pc Qc mc ms free) (cw : vx_CSW R s args own index y bytes maxL ret hh ws rm mc ms n) (hp : PreS s H Pc As)
    (hg : g.method = m) (hn : As.length = n) (hsize : g.locals.size = nL) (hstack : g.stack = As.reverse ++ rest) (hW : 2 * g.monitorRoom + (rest.map fun v => v.category).sum ≤ 8) (hdg : decode cc g.pc = .ok (.invokestatic index, 3)) (hf : cells + mc ≤ R.cells ∧ slots + ms ≤ R.slots) :
    va_Run p l e R s m args below meth c H locs cells slots mc ms g rest (Qc As.toArray) (free) := by
  obtain ⟨⟨hrc, hrs, hfr, hlo, hws, hcw⟩, hcode, hini, hy, hlen, hl, hstt⟩ := cw
  have hK : Back l R p e below s args y 3 8 (PreOf R mc ms Pc) (PostOf Qc mc ms free) := va_backW (hh := hh) (bytes := bytes) (maxL := maxL) (ret := ret) hM hp.1 hrc hrs hfr hlo hws hcw (fun a' U hW => word_at hW (Or.inl (by first | rfl | simp [Cond.onTables, Cond.keeps, Cond.steady])) hini)
  obtain ⟨hx, hb, hml, ho, -⟩ := S
  intro T hT X
  obtain ⟨v, vm₁, ⟨U', l2, c2, s2⟩, hW₁, X', ⟨g', mk, t, L, e1, e2, hq, h1, hL, h2, h3⟩, st⟩ := vx_callSW X hx (hh := hh) (bytes := bytes) (maxL := maxL) (ret := ret) ho hl hstt hini hcode hy hK hg (hsize.trans hml.symm) (argsL := As) (rest := rest) (fun sig h => hn.trans (hlen sig h)) hstack hW (by rw [hb]; exact hdg)
    (fun vm₁ hW₁ => ⟨hf.1, hf.2, hp.2 (T.setVm vm₁) hT hW₁⟩)
  dsimp only [Pt.U, Pt.locs, Pt.cells, Pt.slots] at X' e1 e2 h1 h2 h3 st
  subst h1; subst h2; subst h3
  exact ⟨v, (T.setVm vm₁).calling g' mk As.toArray, t, U', L, hT, X', hL, e1, e2, hq, st⟩
/-- not caught here, past rows that name other classes: it goes on to the caller -/
theorem vx_outP {p : Program} {l : Launch} {e : Env} {R : Room} {s : State} {m : MethodId} {args : Array Value} {below : List Frame} {meth : Method} {c : Code} {H : Heap} {locs : List Loc} {cells slots : Nat} {free : Addr → Prop} {ls : Array Slot} {rest : List Value} {Qc : Array Value → State → Outcome → State → Prop} {XC : String → State → State → Prop}
    {pc : Nat} {own E : String} {ce : Cell} {q : Addr} {mc ms : Nat} (hown : s.vm.findClass own = some m.cls) (hlocks : meth.locks = false)
    (hpass : ∀ z ∈ c.exceptionTable.toList, covers z pc = false ∨ (z.catchType ≠ 0 ∧ ∃ nm : String, (Cond.classLink own z.catchType nm).before args s = true ∧ va_Nc E nm s)) (hcell : H[q]? = some ce) (hv : ce.vm = .none) (hcl : s.vm.findClass E = some ce.cls)
    (hx : ∀ t : State, t.heap = H → s.vm.Alike t.vm → XC E s t) (hf : ∀ z ∈ locs, free z.base) (hc : cells ≤ mc) (hs : slots ≤ ms) :
    vx_W p l e R s m args below meth c H locs cells slots (vx_MQ below Qc XC args s mc ms free) (F0 m pc ls rest) q := by
  intro T hT X
  have hpl : e.platform.magicAccessors = ({} : Platform).magicAccessors := by rw [X.admits.platform]
  obtain ⟨vm', hW', X', st⟩ := X.outThrough hlocks q (g := F0 m pc ls rest) rfl rfl rfl (cell := ce) (by rw [hT]; exact hcell) (by rw [hv]; rfl)
    (by obtain ⟨k9, h9, -⟩ := Vm.findClass_spec hcl; exact ⟨k9, h9⟩) (fun z hz => by
      rcases hpass z hz with h | ⟨hz0, nm, hl1, hn1⟩
      · exact Or.inl h
      · obtain ⟨c6, hc6, hcl6⟩ := Cond.classLink_spec hown hl1 e.platform hpl
        obtain ⟨a8, b8, h1, h2, h3⟩ := hn1
        cases Option.some.inj (h1.symm.trans hcl)
        cases Option.some.inj (h2.symm.trans hc6)
        exact Or.inr ⟨hz0, _, hcl6, h3⟩)
  obtain ⟨g₀, hfr⟩ := X'.frames_eq
  have hcell9 : ((T.setVm vm').setFrames (.throwing q :: below)).heap[q]? = some ce := by
    show T.heap[q]? = some ce
    rw [hT]; exact hcell
  have hend : Ended ((T.setVm vm').setFrames (.throwing q :: below)) below (.threw q) := State.frames_setFrames _ (State.cur_lt_of_frames hfr)
  refine ⟨(T.setVm vm').setFrames (.throwing q :: below), ?_, .threw q, X'.here.running, hend, Or.inr ⟨q, rfl, E, ce, locs, hx _ hT (X'.ends _).1.alike, hcell9, hv, hcl, (X'.ends _).1, (X'.ends _).2.mono hc hs, hf⟩⟩
  rw [X.pushThrowing_eq]
  exact st
/-- a thing of a world lies in the heap -/
theorem vx_lt {D : va_G} {cl : List vw_C} {ws : va_W} {H1 : Heap} (h : va_P D cl ws H1) {k : Nat} {q : Nat × va_E} (hk : ws[k]? = some q) : q.1 < H1.size := (h k q hk).lt
end VXS
/-! ===== END ===== -/
/-! ===== BEGIN methods with a table of their own: called by a name, returning or throwing ===== -/
section VXH
/-! vx_backW, vx_callVX, vx_callSX, vx_callVW, vx_runVW, vx_runVX, vx_runSX, vx_ofWH follow the same proofs as their sisters above (Free/Laws.lean, Shelf42/LK1.lean); vx_outP calls Shelf42/NT130.lean (outThrough). -/
section
variable {l : Launch} {R : Room} {p : Program} {e : Env} {below : List Frame} {s : State} {sargs : Array Value} {y : MethodName} {len W9 : Nat}
theorem vx_backW {ws : List Cond} {rm : Room} {Pc : Array Value → State → Prop} {Qc : Array Value → State → Outcome → State → Prop} {XC : String → State → State → Prop} {mc ms : Nat} {free : Addr → Prop} {bytes : ByteArray} {maxL : Nat} {ret : Option FieldType} {hh : List (Nat × Nat × Nat × Nat)}
    (hM : vx_Met l y ws rm Pc Qc XC mc ms free) (hblind : FrameBlind Pc) (hrc : rm.cells = mc) (hrs : rm.slots = ms)
    (hframes : rm.frames + 1 ≤ R.frames) (hlocals : W9 + (maxL + 11) + rm.locals ≤ R.locals)
    (hws : ∀ w ∈ ws, ∀ a' U, s.WarmedH U.vm → w.before a' U = true) (hcode : Cond.codeWith y bytes maxL ret hh ∈ ws) (hinit : ∀ a' U, s.WarmedH U.vm → (Cond.initialized y.cls).before a' U = true) :
    vx_Back l R p e below s sargs y len W9 (PreOf R mc ms Pc) (PostOf Qc mc ms free) (vx_Post XC mc ms free) := by
  intro m meth c A g ig mk a X hg hsize hdg hW hn hp
  have h1 : (headSpec ws rm).pre.before a A.U = true := atoms_intro fun w hw => hws w hw _ _ X.warmed
  have h2 : (Cond.codeWith y bytes maxL ret hh).before a A.U = true := hws _ hcode _ _ X.warmed
  have h3 : (Cond.initialized y.cls).before a A.U = true := hinit _ _ X.warmed
  have h4 : A.cells + (headSpec ws rm).room.cells ≤ R.cells := by rw [show (headSpec ws rm).room.cells = mc from hrc]; exact hp.1
  have h5 : A.slots + (headSpec ws rm).room.slots ≤ R.slots := by rw [show (headSpec ws rm).room.slots = ms from hrs]; exact hp.2.1
  have hPc : Pc a (A.U.calling g mk a) := hblind _ _ _ _ hp.2.2
  obtain ⟨U, Ls, c0, s0⟩ := A
  dsimp only [Pt.U, Pt.locs, Pt.cells, Pt.slots] at h1 h2 h3 h4 h5 X hn hPc ⊢
  obtain ⟨m9, methY, cY, hn9, hmY, hcY, -, hlY, -⟩ := Cond.codeWith_spec h2
  cases Option.some.inj (hn9.symm.trans hn)
  obtain ⟨kY, hkY, -⟩ := className_of_methodNamed hn
  have hinitY : kY.init = .initialized := Cond.initialized_spec (findClass_of_methodNamed hn) hkY h3
  have h : At U g.method c below := by rw [hg]; exact X.here
  have hlocals9 : W9 + (maxL + 11) + (headSpec ws rm).room.locals ≤ R.locals := hlocals
  have happ : (headSpec ws rm).appliesLoose y e.platform (U.calling g mk a) = true :=
    Spec.appliesLoose_calling (g := g) h hdg hn hkY hinitY
      (X.room_calling (g := g) (R' := (headSpec ws rm).room) hsize hmY hcY hframes (by rw [hlY]; omega) h4 h5) h1
  obtain ⟨mid, hmid⟩ := h.above
  have hfr : (U.setTop g).frames = (.java g :: mid) ++ below := by rw [State.frames_setTop' g h.top, hmid]; rfl
  obtain ⟨o, s₂, hsteps, -, hend, hq⟩ := Steps.callFree hM p X.admits X.cas X.clock (acts := []) hfr happ hPc trivial
  have hq' : vx_Q Qc XC mc ms free a (U.calling g mk a) o s₂ := hq
  rw [State.frames_setTop' g h.top] at hend
  obtain ⟨g₀, hg0⟩ := Option.isSome_iff_exists.mp h.top
  obtain ⟨r, hr⟩ := State.topJava?_eq_some.mp hg0
  have hr' : (({ U with heap := s₂.heap, slotsUsed := s₂.slotsUsed } : State).setVm s₂.vm).frames = .java g₀ :: r := hr
  rcases hq' with ⟨hqc, L, hfe, hL⟩ | ⟨q, rfl, E, ce, L, hx, hce, hcv, hcl, hW₂, hsm, hL⟩
  · obtain ⟨⟨v, rfl⟩, hW₂, e2, q2, q3, q4, q5, q6⟩ := id hfe
    have e3 : s₂ = ({ (U.calling g mk a).setFrames s₂.frames with heap := s₂.heap, slotsUsed := s₂.slotsUsed } : State).setVm s₂.vm := by
      have : s₂ = ({ s₂ with vm := (U.calling g mk a).vm } : State).setVm s₂.vm := rfl
      rw [e2] at this
      exact this
    obtain ⟨c₂, i₂, len₂, hc₂, hd₂, hf₂⟩ := hend
    have hW' : U.WarmedH s₂.vm := hW₂
    have hcc : c₂ = c := by
      have h1 : s₂.code? g.method = U.code? g.method := by
        rw [State.code?_eq, State.code?_eq, hW'.alike.method?]
      exact Option.some.inj (hc₂.symm.trans (h1.trans h.code))
    subst hcc
    have hlen : len₂ = len := by rw [hdg] at hd₂; cases hd₂; rfl
    subst hlen
    have hs₂ : s₂ = (({ U with heap := s₂.heap, slotsUsed := s₂.slotsUsed } : State).setVm s₂.vm).setTop { g with pc := g.pc + len₂, stack := v.toList ++ g.stack } := by
      refine e3.trans ?_
      rw [hf₂, State.calling_eq h.top, State.setFrames_setFrames, State.setTop_of_frames _ hr', hr]
      rfl
    have hsame : U.sameButNew ({ U with heap := s₂.heap, slotsUsed := s₂.slotsUsed } : State) L mc ms := by
      refine ⟨?_, q2, q3, q4, q5, q6⟩
      obtain ⟨t, ht, -⟩ := State.frames_cons hr
      show ({ U with heap := s₂.heap, slotsUsed := s₂.slotsUsed } : State) = { U.setFrames U.frames with heap := s₂.heap, slotsUsed := s₂.slotsUsed }
      rw [State.setFrames_self ht]
    subst hg
    refine Or.inl ⟨v, ⟨(({ U with heap := s₂.heap, slotsUsed := s₂.slotsUsed } : State).setVm s₂.vm), Ls ++ L, c0 + mc, s0 + ms⟩,
      ⟨X.admits, X.cas, X.clock, X.frames, X.room, X.hears, X.method, X.code, (X.here.setHeapUsed s₂.heap s₂.slotsUsed).setVm hW'.alike, X.tail, State.WarmedH.trans X.warmed hW', X.limits, X.bytes, X.same.trans (hsame.setVm s.vm)⟩,
      ⟨g, mk, s₂, L, rfl, rfl, hqc, rfl, hL, rfl, rfl⟩, ?_⟩
    show Steps p.tables e below _ ((({ U with heap := s₂.heap, slotsUsed := s₂.slotsUsed } : State).setVm s₂.vm).setTop { g with pc := g.pc + len₂, stack := v.toList ++ g.stack })
    rw [← hs₂]
    exact hsteps
  · obtain ⟨e2, q2, q3, q4, q5, q6⟩ := id hsm
    have e3 : s₂ = ({ (U.calling g mk a).setFrames s₂.frames with heap := s₂.heap, slotsUsed := s₂.slotsUsed } : State).setVm s₂.vm := by
      have : s₂ = ({ s₂ with vm := (U.calling g mk a).vm } : State).setVm s₂.vm := rfl
      rw [e2] at this
      exact this
    have hf₂ : s₂.frames = .throwing q :: .java g :: U.frames.tail := hend
    have hW' : U.WarmedH s₂.vm := hW₂
    have hs₂ : s₂ = ((({ U with heap := s₂.heap, slotsUsed := s₂.slotsUsed } : State).setVm s₂.vm).setTop g).pushFrame (.throwing q) := by
      refine e3.trans ?_
      rw [hf₂, State.calling_eq h.top, State.setFrames_setFrames, State.pushFrame, State.frames_setTop _ hr', State.setTop_of_frames _ hr', State.setFrames_setFrames, hr]
      rfl
    have hsame : U.sameButNew ({ U with heap := s₂.heap, slotsUsed := s₂.slotsUsed } : State) L mc ms := by
      refine ⟨?_, q2, q3, q4, q5, q6⟩
      obtain ⟨t, ht, -⟩ := State.frames_cons hr
      show ({ U with heap := s₂.heap, slotsUsed := s₂.slotsUsed } : State) = { U.setFrames U.frames with heap := s₂.heap, slotsUsed := s₂.slotsUsed }
      rw [State.setFrames_self ht]
    subst hg
    refine Or.inr ⟨q, ⟨(({ U with heap := s₂.heap, slotsUsed := s₂.slotsUsed } : State).setVm s₂.vm), Ls ++ L, c0 + mc, s0 + ms⟩,
      ⟨X.admits, X.cas, X.clock, X.frames, X.room, X.hears, X.method, X.code, (X.here.setHeapUsed s₂.heap s₂.slotsUsed).setVm hW'.alike, X.tail, State.WarmedH.trans X.warmed hW', X.limits, X.bytes, X.same.trans (hsame.setVm s.vm)⟩,
      ⟨g, mk, s₂, L, E, ce, rfl, rfl, hx, hce, hcv, hcl, rfl, hL, rfl, rfl⟩, ?_⟩
    show Steps p.tables e below _ (((({ U with heap := s₂.heap, slotsUsed := s₂.slotsUsed } : State).setVm s₂.vm).setTop g).pushFrame (.throwing q))
    rw [← hs₂]
    exact hsteps
end
variable {p : Program} {l : Launch} {e : Env} {R : Room} {s : State} {m : MethodId} {args : Array Value} {below : List Frame} {meth : Method} {c : Code} {T : State} {H : Heap} {locs : List Loc} {cells slots : Nat}
theorem vx_callVX (X : Stand p l e R s m args below meth c T locs cells slots) (hexec : p.tables.exec = Jvm.exec) {own C : String} {index : Nat} {y : MethodName} {bytes : ByteArray} {maxL : Nat} {ret : Option FieldType} {hh : List (Nat × Nat × Nat × Nat)}
    (hown : s.vm.findClass own = some m.cls) (hlink : (Cond.methodLink own index y).before args s = true) (hinst : (Cond.instanceMethod y).before args s = true) (hsel : (Cond.selects C y y).before args s = true)
    (hcode : (Cond.codeWith y bytes maxL ret hh).before args s = true) (hy : y.cls ≠ "java/lang/invoke/MethodHandle" ∧ y.cls ≠ "java/lang/invoke/VarHandle")
    {W9 : Nat} {Pre : Pt → Array Value → Prop} {Post : Pt → Array Value → Option Value → Pt → Prop} {PostX : Pt → Array Value → Addr → Pt → Prop} (hK : vx_Back l R p e below s args y 3 W9 Pre Post PostX)
    {b : Addr} {cellB : Cell} (hcell : T.heap[b]? = some cellB) (hobj : cellB.vm.isStatics = false) (hcls : s.vm.findClass C = some cellB.cls)
    {g : JFrame} (hg : g.method = m) (hsize : g.locals.size = c.maxLocals) {argsL rest : List Value} (hlen : ∀ sig, parseMethodDescriptor y.desc = some sig → argsL.length = sig.parameters.length)
    (hstack : g.stack = argsL.reverse ++ .ref b :: rest) (hW : 2 * g.monitorRoom + (rest.map fun v => v.category).sum ≤ W9) (hdg : decode c.code g.pc = .ok (.invokevirtual index, 3))
    (hpre : ∀ vm₁, s.WarmedH vm₁ → Pre ⟨T.setVm vm₁, locs, cells, slots⟩ (Value.ref b :: argsL).toArray) :
    (∃ (v : Option Value) (vm₁ : Vm) (B : Pt), s.WarmedH vm₁ ∧ Stand p l e R s m args below meth c B.U B.locs B.cells B.slots ∧ Post ⟨T.setVm vm₁, locs, cells, slots⟩ (Value.ref b :: argsL).toArray v B ∧
      ∀ target, Steps p.tables e below (B.U.setTop { g with pc := g.pc + 3, stack := v.toList ++ rest }) target → Steps p.tables e below (T.setTop g) target) ∨
    (∃ (q : Addr) (vm₁ : Vm) (B : Pt), s.WarmedH vm₁ ∧ Stand p l e R s m args below meth c B.U B.locs B.cells B.slots ∧ PostX ⟨T.setVm vm₁, locs, cells, slots⟩ (Value.ref b :: argsL).toArray q B ∧
      Steps p.tables e below (T.setTop g) ((B.U.setTop { g with stack := rest }).pushFrame (.throwing q))) := by
  obtain ⟨mk, methM, hnamed, hmethM, hstM, habM⟩ := Cond.instanceMethod_spec hinst
  obtain ⟨m8, methM', cM, hn8, hmethM', -, -, -, -, -, -, hsigM⟩ := Cond.codeWith_spec hcode
  cases Option.some.inj (hn8.symm.trans hnamed)
  cases hmethM.symm.trans hmethM'
  obtain ⟨c2, r2, m2, q1, q2, q3, q4, kP, hkP, hkPi⟩ := Cond.selects_spec hsel
  cases hcls.symm.trans q1
  cases (State.methodFound?_of_named hnamed hy).symm.trans q2
  cases hnamed.symm.trans q3
  have hselP : selectMethod e.platform s.vm cellB.cls mk = .method mk := by rw [Launch.admits_selectMethod X.admits]; exact q4
  obtain ⟨vm₁, X₁, hstep₁⟩ := X.invokevirtual hexec hown hlink hnamed hmethM hstM hkP hkPi hy (a := b) (cell := cellB) hcell
    (fun z h => by rw [h] at hobj; cases hobj) hselP hmethM habM hkP hkPi (g := g) hg (argsL := argsL) (rest := rest) (hlen _ hsigM) hstack hdg
  rcases hK m meth c ⟨T.setVm vm₁, locs, cells, slots⟩ { g with stack := rest } (.invokevirtual index) mk (Value.ref b :: argsL).toArray X₁ hg hsize hdg hW (X₁.named hnamed) (hpre vm₁ X₁.warmed) with ⟨v, B, X', hpost, hsteps⟩ | ⟨q, B, X', hpost, hsteps⟩
  · exact Or.inl ⟨v, vm₁, B, X₁.warmed, X', hpost, fun target h => hstep₁ _ fun acts => by rw [doInvoke_state]; exact hsteps.trans h⟩
  · exact Or.inr ⟨q, vm₁, B, X₁.warmed, X', hpost, hstep₁ _ fun acts => by rw [doInvoke_state]; exact hsteps⟩
theorem vx_callSX (X : Stand p l e R s m args below meth c T locs cells slots) (hexec : p.tables.exec = Jvm.exec) {own : String} {index : Nat} {y : MethodName} {bytes : ByteArray} {maxL : Nat} {ret : Option FieldType} {hh : List (Nat × Nat × Nat × Nat)}
    (hown : s.vm.findClass own = some m.cls) (hlink : (Cond.methodLink own index y).before args s = true) (hstat : (Cond.static y).before args s = true) (hinit : (Cond.initialized y.cls).before args s = true)
    (hcode : (Cond.codeWith y bytes maxL ret hh).before args s = true) (hy : y.cls ≠ "java/lang/invoke/MethodHandle" ∧ y.cls ≠ "java/lang/invoke/VarHandle")
    {W9 : Nat} {Pre : Pt → Array Value → Prop} {Post : Pt → Array Value → Option Value → Pt → Prop} {PostX : Pt → Array Value → Addr → Pt → Prop} (hK : vx_Back l R p e below s args y 3 W9 Pre Post PostX)
    {g : JFrame} (hg : g.method = m) (hsize : g.locals.size = c.maxLocals) {argsL rest : List Value} (hlen : ∀ sig, parseMethodDescriptor y.desc = some sig → argsL.length = sig.parameters.length)
    (hstack : g.stack = argsL.reverse ++ rest) (hW : 2 * g.monitorRoom + (rest.map fun v => v.category).sum ≤ W9) (hdg : decode c.code g.pc = .ok (.invokestatic index, 3))
    (hpre : ∀ vm₁, s.WarmedH vm₁ → Pre ⟨T.setVm vm₁, locs, cells, slots⟩ argsL.toArray) :
    (∃ (v : Option Value) (vm₁ : Vm) (B : Pt), s.WarmedH vm₁ ∧ Stand p l e R s m args below meth c B.U B.locs B.cells B.slots ∧ Post ⟨T.setVm vm₁, locs, cells, slots⟩ argsL.toArray v B ∧
      ∀ target, Steps p.tables e below (B.U.setTop { g with pc := g.pc + 3, stack := v.toList ++ rest }) target → Steps p.tables e below (T.setTop g) target) ∨
    (∃ (q : Addr) (vm₁ : Vm) (B : Pt), s.WarmedH vm₁ ∧ Stand p l e R s m args below meth c B.U B.locs B.cells B.slots ∧ PostX ⟨T.setVm vm₁, locs, cells, slots⟩ argsL.toArray q B ∧
      Steps p.tables e below (T.setTop g) ((B.U.setTop { g with stack := rest }).pushFrame (.throwing q))) := by
  obtain ⟨mk, methM, cM, hnamed, hmethM, -, -, -, -, -, -, hsigM⟩ := Cond.codeWith_spec hcode
  have hstatic : methM.isStatic = true := Cond.static_spec hnamed hmethM hstat
  obtain ⟨kP, hkP, -⟩ := className_of_methodNamed hnamed
  have hinitP : kP.init = .initialized := Cond.initialized_spec (findClass_of_methodNamed hnamed) hkP hinit
  obtain ⟨vm₁, X₁, hstep₁⟩ := X.invokestatic hexec hown hlink hnamed hmethM hstatic hkP hinitP hy (g := g) hg (argsL := argsL) (rest := rest) (hlen _ hsigM) hstack hdg
  rcases hK m meth c ⟨T.setVm vm₁, locs, cells, slots⟩ { g with stack := rest } (.invokestatic index) mk argsL.toArray X₁ hg hsize hdg hW (X₁.named hnamed) (hpre vm₁ X₁.warmed) with ⟨v, B, X', hpost, hsteps⟩ | ⟨q, B, X', hpost, hsteps⟩
  · exact Or.inl ⟨v, vm₁, B, X₁.warmed, X', hpost, fun target h => hstep₁ _ fun acts => by rw [doInvoke_state]; exact hsteps.trans h⟩
  · exact Or.inr ⟨q, vm₁, B, X₁.warmed, X', hpost, hstep₁ _ fun acts => by rw [doInvoke_state]; exact hsteps⟩
theorem vx_callVW (X : Stand p l e R s m args below meth c T locs cells slots) (hexec : p.tables.exec = Jvm.exec) {own C : String} {index : Nat} {y : MethodName} {bytes : ByteArray} {maxL : Nat} {ret : Option FieldType} {hh : List (Nat × Nat × Nat × Nat)}
    (hown : s.vm.findClass own = some m.cls) (hlink : (Cond.methodLink own index y).before args s = true) (hinst : (Cond.instanceMethod y).before args s = true) (hsel : (Cond.selects C y y).before args s = true)
    (hcode : (Cond.codeWith y bytes maxL ret hh).before args s = true) (hy : y.cls ≠ "java/lang/invoke/MethodHandle" ∧ y.cls ≠ "java/lang/invoke/VarHandle")
    {W9 : Nat} {Pre : Pt → Array Value → Prop} {Post : Pt → Array Value → Option Value → Pt → Prop} (hK : Back l R p e below s args y 3 W9 Pre Post)
    {b : Addr} {cellB : Cell} (hcell : T.heap[b]? = some cellB) (hobj : cellB.vm.isStatics = false) (hcls : s.vm.findClass C = some cellB.cls)
    {g : JFrame} (hg : g.method = m) (hsize : g.locals.size = c.maxLocals) {argsL rest : List Value} (hlen : ∀ sig, parseMethodDescriptor y.desc = some sig → argsL.length = sig.parameters.length)
    (hstack : g.stack = argsL.reverse ++ .ref b :: rest) (hW : 2 * g.monitorRoom + (rest.map fun v => v.category).sum ≤ W9) (hdg : decode c.code g.pc = .ok (.invokevirtual index, 3))
    (hpre : ∀ vm₁, s.WarmedH vm₁ → Pre ⟨T.setVm vm₁, locs, cells, slots⟩ (Value.ref b :: argsL).toArray) :
    ∃ (v : Option Value) (vm₁ : Vm) (B : Pt), s.WarmedH vm₁ ∧ Stand p l e R s m args below meth c B.U B.locs B.cells B.slots ∧ Post ⟨T.setVm vm₁, locs, cells, slots⟩ (Value.ref b :: argsL).toArray v B ∧
      ∀ target, Steps p.tables e below (B.U.setTop { g with pc := g.pc + 3, stack := v.toList ++ rest }) target → Steps p.tables e below (T.setTop g) target := by
  obtain ⟨mk, methM, hnamed, hmethM, hstM, habM⟩ := Cond.instanceMethod_spec hinst
  obtain ⟨m8, methM', cM, hn8, hmethM', -, -, -, -, -, -, hsigM⟩ := Cond.codeWith_spec hcode
  cases Option.some.inj (hn8.symm.trans hnamed)
  cases hmethM.symm.trans hmethM'
  obtain ⟨c2, r2, m2, q1, q2, q3, q4, kP, hkP, hkPi⟩ := Cond.selects_spec hsel
  cases hcls.symm.trans q1
  cases (State.methodFound?_of_named hnamed hy).symm.trans q2
  cases hnamed.symm.trans q3
  have hselP : selectMethod e.platform s.vm cellB.cls mk = .method mk := by rw [Launch.admits_selectMethod X.admits]; exact q4
  obtain ⟨vm₁, X₁, hstep₁⟩ := X.invokevirtual hexec hown hlink hnamed hmethM hstM hkP hkPi hy (a := b) (cell := cellB) hcell
    (fun z h => by rw [h] at hobj; cases hobj) hselP hmethM habM hkP hkPi (g := g) hg (argsL := argsL) (rest := rest) (hlen _ hsigM) hstack hdg
  obtain ⟨v, B, X', hpost, hsteps⟩ := hK m meth c ⟨T.setVm vm₁, locs, cells, slots⟩ { g with stack := rest } (.invokevirtual index) mk (Value.ref b :: argsL).toArray X₁ hg hsize hdg hW (X₁.named hnamed) (hpre vm₁ X₁.warmed)
  exact ⟨v, vm₁, B, X₁.warmed, X', hpost, fun target h => hstep₁ _ fun acts => by rw [doInvoke_state]; exact hsteps.trans h⟩
abbrev vx_CVW (R : Room) (s : State) (args : Array Value) (own C : String) (index : Nat) (y : MethodName) (bytes : ByteArray) (maxL : Nat) (ret : Option FieldType) (hh : List (Nat × Nat × Nat × Nat)) (ws : List Cond) (rm : Room) (mc ms n : Nat) : Prop :=
  (rm.cells = mc ∧ rm.slots = ms ∧ rm.frames + 1 ≤ R.frames ∧ 8 + (maxL + 11) + rm.locals ≤ R.locals ∧ (∀ w ∈ ws, ∀ (a' : Array Value) (U : State), s.WarmedH U.vm → w.before a' U = true) ∧ Cond.codeWith y bytes maxL ret hh ∈ ws) ∧
  (Cond.codeWith y bytes maxL ret hh).before args s = true ∧ (Cond.initialized y.cls).before args s = true ∧ (y.cls ≠ "java/lang/invoke/MethodHandle" ∧ y.cls ≠ "java/lang/invoke/VarHandle") ∧
  (∀ sig, parseMethodDescriptor y.desc = some sig → n = sig.parameters.length) ∧ (Cond.methodLink own index y).before args s = true ∧ (Cond.instanceMethod y).before args s = true ∧ (Cond.selects C y y).before args s = true
theorem vx_cwVW {own C : String} {index maxL mc ms : Nat} {y : MethodName} {bytes : ByteArray} {ret : Option FieldType} {hh : List (Nat × Nat × Nat × Nat)} {Ts ws ws' : List Cond} {rm : Room} (n : Nat) (ht : ∀ w ∈ Ts, w.before args s = true) (hT : GoodIn Ts (wsV own index C y ws)) (hw : ws = Cond.codeWith y bytes maxL ret hh :: ws') (hrc : rm.cells = mc) (hrs : rm.slots = ms)
    (hd : y.cls = C ∧ y.cls ≠ "java/lang/invoke/MethodHandle" ∧ y.cls ≠ "java/lang/invoke/VarHandle" ∧ (parseMethodDescriptor y.desc).map (fun d => d.parameters.length) = some n) (hR : rm.frames + 1 ≤ R.frames ∧ 8 + (maxL + 11) + rm.locals ≤ R.locals) :
    vx_CVW R s args own C index y bytes maxL ret hh ws rm mc ms n := by
  obtain ⟨hC, hd⟩ := hd
  subst hC
  have ok : ∀ w ∈ wsV own index y.cls y ws, w.before args s = true := fun w h => ht w (hT w h).1
  have hG : GoodIn Ts ws := fun w h => hT w (by unfold wsV; exact List.mem_append_right _ h)
  have hc : Cond.codeWith y bytes maxL ret hh ∈ ws := by rw [hw]; exact List.mem_cons_self
  refine ⟨⟨hrc, hrs, hR.1, hR.2, pay_in ht hG, hc⟩, ht _ (hG _ hc).1, ok _ (by simp [wsV]), ⟨hd.1, hd.2.1⟩, fun sig h => ?_, ok _ (by simp [wsV]), ok _ (by simp [wsV]), ok _ (by simp [wsV])⟩
  have h2 := hd.2.2
  rw [h] at h2
  exact (Option.some.inj h2).symm
theorem vx_runVW {y : MethodName} {bytes cc : ByteArray} {maxL nL mc ms n index : Nat} {ret : Option FieldType} {hh : List (Nat × Nat × Nat × Nat)} {ws : List Cond} {rm : Room} {Pc : Array Value → State → Prop} {Qc : Array Value → State → Outcome → State → Prop} {free : Addr → Prop} {Ts : List Cond} {own C : String} {b : Addr} {As rest : List Value} {g : JFrame}
    (S : CallFix p m c cc nL s args Ts own) (hM : Met l y ws rm Pc Qc mc ms free) (cw : vx_CVW R s args own C index y bytes maxL ret hh ws rm mc ms n) (hp : PreV s H C b Pc As)
    (hg : g.method = m) (hn : As.length = n) (hsize : g.locals.size = nL) (hstack : g.stack = As.reverse ++ .ref b :: rest) (hW : 2 * g.monitorRoom + (rest.map fun v => v.category).sum ≤ 8) (hdg : decode cc g.pc = .ok (.invokevirtual index, 3)) (hf : cells + mc ≤ R.cells ∧ slots + ms ≤ R.slots) :
    va_Run p l e R s m args below meth c H locs cells slots mc ms g rest (Qc (Value.ref b :: As).toArray) free := by
  obtain ⟨⟨hrc, hrs, hfr, hlo, hws, hcw⟩, hcode, hini, hy, hlen, hl, hin, hse⟩ := cw
  have hK : Back l R p e below s args y 3 8 (PreOf R mc ms Pc) (PostOf Qc mc ms free) := va_backW (hh := hh) (bytes := bytes) (maxL := maxL) (ret := ret) hM hp.1 hrc hrs hfr hlo hws hcw (fun a' U hW => word_at hW (Or.inl (by first | rfl | simp [Cond.onTables, Cond.keeps, Cond.steady])) hini)
  obtain ⟨hx, hb, hml, ho, -⟩ := S
  obtain ⟨-, ⟨cellB, hcB, hoB, hclB⟩, hPc⟩ := hp
  intro T hT X
  obtain ⟨v, vm₁, ⟨U', l2, c2, s2⟩, hW₁, X', ⟨g', mk, t, L, e1, e2, hq, h1, hL, h2, h3⟩, st⟩ := vx_callVW X hx (C := C) (hh := hh) (bytes := bytes) (maxL := maxL) (ret := ret) ho hl hin hse hcode hy hK (by rw [hT]; exact hcB) hoB hclB hg (hsize.trans hml.symm) (argsL := As) (rest := rest) (fun sig h => hn.trans (hlen sig h)) hstack hW (by rw [hb]; exact hdg)
    (fun vm₁ hW₁ => ⟨hf.1, hf.2, hPc (T.setVm vm₁) hT hW₁⟩)
  dsimp only [Pt.U, Pt.locs, Pt.cells, Pt.slots] at X' e1 e2 h1 h2 h3 st
  subst h1; subst h2; subst h3
  exact ⟨v, (T.setVm vm₁).calling g' mk (Value.ref b :: As).toArray, t, U', L, hT, X', hL, e1, e2, hq, st⟩
section
variable {y : MethodName} {bytes cc : ByteArray} {maxL nL mc ms n index : Nat} {ret : Option FieldType} {ws : List Cond} {rm : Room} {Pc : Array Value → State → Prop} {Qc : Array Value → State → Outcome → State → Prop} {XC : String → State → State → Prop} {free : Addr → Prop} {Ts : List Cond} {own C : String} {b : Addr} {As rest : List Value} {g : JFrame}
theorem vx_runVX {hh : List (Nat × Nat × Nat × Nat)} (S : CallFix p m c cc nL s args Ts own) (hM : vx_Met l y ws rm Pc Qc XC mc ms free) (cw : vx_CVW R s args own C index y bytes maxL ret hh ws rm mc ms n) (hp : PreV s H C b Pc As)
    (hg : g.method = m) (hn : As.length = n) (hsize : g.locals.size = nL) (hstack : g.stack = As.reverse ++ .ref b :: rest) (hW : 2 * g.monitorRoom + (rest.map fun v => v.category).sum ≤ 8) (hdg : decode cc g.pc = .ok (.invokevirtual index, 3)) (hf : cells + mc ≤ R.cells ∧ slots + ms ≤ R.slots) :
    vx_Run p l e R s m args below meth c H locs cells slots mc ms g rest (Qc (Value.ref b :: As).toArray) XC free := by
  obtain ⟨⟨hrc, hrs, hfr, hlo, hws, hcw⟩, hcode, hini, hy, hlen, hl, hin, hse⟩ := cw
  have hK : vx_Back l R p e below s args y 3 8 (PreOf R mc ms Pc) (PostOf Qc mc ms free) (vx_Post XC mc ms free) := vx_backW (hh := hh) (bytes := bytes) (maxL := maxL) (ret := ret) hM hp.1 hrc hrs hfr hlo hws hcw (fun a' U hW => word_at hW (Or.inl (by first | rfl | simp [Cond.onTables, Cond.keeps, Cond.steady])) hini)
  obtain ⟨hx, hb, hml, ho, -⟩ := S
  obtain ⟨-, ⟨cellB, hcB, hoB, hclB⟩, hPc⟩ := hp
  intro T hT X
  rcases vx_callVX X hx (C := C) (hh := hh) (bytes := bytes) (maxL := maxL) (ret := ret) ho hl hin hse hcode hy hK (by rw [hT]; exact hcB) hoB hclB hg (hsize.trans hml.symm) (argsL := As) (rest := rest) (fun sig h => hn.trans (hlen sig h)) hstack hW (by rw [hb]; exact hdg)
    (fun vm₁ hW₁ => ⟨hf.1, hf.2, hPc (T.setVm vm₁) hT hW₁⟩) with ⟨v, vm₁, ⟨U', l2, c2, s2⟩, hW₁, X', ⟨g', mk, t, L, e1, e2, hq, h1, hL, h2, h3⟩, st⟩ | ⟨q, vm₁, ⟨U', l2, c2, s2⟩, hW₁, X', ⟨g', mk, t, L, E, ce, e1, e2, hq, hce, hcv, hcl, h1, hL, h2, h3⟩, st⟩
  · dsimp only [Pt.U, Pt.locs, Pt.cells, Pt.slots] at X' e1 e2 h1 h2 h3 st
    subst h1; subst h2; subst h3
    exact Or.inl ⟨v, (T.setVm vm₁).calling g' mk (Value.ref b :: As).toArray, t, U', L, hT, X', hL, e1, e2, hq, st⟩
  · dsimp only [Pt.U, Pt.locs, Pt.cells, Pt.slots] at X' e1 e2 h1 h2 h3 st hcl
    subst h1; subst h2; subst h3
    exact Or.inr ⟨q, (T.setVm vm₁).calling g' mk (Value.ref b :: As).toArray, t, U', L, E, ce, hT, X', hL, e1, e2, hq, hce, hcv, vx_cls hW₁ hcl, st⟩
theorem vx_runSX {hh : List (Nat × Nat × Nat × Nat)} (S : CallFix p m c cc nL s args Ts own) (hM : vx_Met l y ws rm Pc Qc XC mc ms free) (cw : vx_CSW R s args own index y bytes maxL ret hh ws rm mc ms n) (hp : PreS s H Pc As)
    (hg : g.method = m) (hn : As.length = n) (hsize : g.locals.size = nL) (hstack : g.stack = As.reverse ++ rest) (hW : 2 * g.monitorRoom + (rest.map fun v => v.category).sum ≤ 8) (hdg : decode cc g.pc = .ok (.invokestatic index, 3)) (hf : cells + mc ≤ R.cells ∧ slots + ms ≤ R.slots) :
    vx_Run p l e R s m args below meth c H locs cells slots mc ms g rest (Qc As.toArray) XC free := by
  obtain ⟨⟨hrc, hrs, hfr, hlo, hws, hcw⟩, hcode, hini, hy, hlen, hl, hstt⟩ := cw
  have hK : vx_Back l R p e below s args y 3 8 (PreOf R mc ms Pc) (PostOf Qc mc ms free) (vx_Post XC mc ms free) := vx_backW (hh := hh) (bytes := bytes) (maxL := maxL) (ret := ret) hM hp.1 hrc hrs hfr hlo hws hcw (fun a' U hW => word_at hW (Or.inl (by first | rfl | simp [Cond.onTables, Cond.keeps, Cond.steady])) hini)
  obtain ⟨hx, hb, hml, ho, -⟩ := S
  intro T hT X
  rcases vx_callSX X hx (hh := hh) (bytes := bytes) (maxL := maxL) (ret := ret) ho hl hstt hini hcode hy hK hg (hsize.trans hml.symm) (argsL := As) (rest := rest) (fun sig h => hn.trans (hlen sig h)) hstack hW (by rw [hb]; exact hdg)
    (fun vm₁ hW₁ => ⟨hf.1, hf.2, hp.2 (T.setVm vm₁) hT hW₁⟩) with ⟨v, vm₁, ⟨U', l2, c2, s2⟩, hW₁, X', ⟨g', mk, t, L, e1, e2, hq, h1, hL, h2, h3⟩, st⟩ | ⟨q, vm₁, ⟨U', l2, c2, s2⟩, hW₁, X', ⟨g', mk, t, L, E, ce, e1, e2, hq, hce, hcv, hcl, h1, hL, h2, h3⟩, st⟩
  · dsimp only [Pt.U, Pt.locs, Pt.cells, Pt.slots] at X' e1 e2 h1 h2 h3 st
    subst h1; subst h2; subst h3
    exact Or.inl ⟨v, (T.setVm vm₁).calling g' mk As.toArray, t, U', L, hT, X', hL, e1, e2, hq, st⟩
  · dsimp only [Pt.U, Pt.locs, Pt.cells, Pt.slots] at X' e1 e2 h1 h2 h3 st hcl
    subst h1; subst h2; subst h3
    exact Or.inr ⟨q, (T.setVm vm₁).calling g' mk As.toArray, t, U', L, E, ce, hT, X', hL, e1, e2, hq, hce, hcv, vx_cls hW₁ hcl, st⟩
end
end VXH
theorem vx_ofWH {l : Launch} {y : MethodName} {ws ws' : List Cond} {rm : Room} {Pc : Array Value → State → Prop} {Qc : Array Value → State → Outcome → State → Prop} {XC : String → State → State → Prop} {mc ms : Nat} {free : Addr → Prop} {cc : ByteArray} {maxL : Nat} {ret : Option FieldType} {hh : List (Nat × Nat × Nat × Nat)}
    (hy : plainName y.cls = true) (hw : ws = Cond.codeWith y cc maxL ret hh :: ws')
    (body : ∀ p e s m args below meth c s₁, BodyLoose p l y (headSpec ws rm) cc maxL ret e s m args below meth c s₁ → c.maxLocals = maxL → Pc args s →
      W p l e (headSpec ws rm).room s m args below meth c s.heap [] 0 0 (vx_MQ below Qc XC args s mc ms free) (entryFrame m args maxL)) : vx_Met l y ws rm Pc Qc XC mc ms free := by
  refine MetFree.of_bodyS (code := cc) (maxLocals := maxL) (ret := ret) hy ?_ ?_
  · intro args s m h hn
    obtain ⟨m9, meth, c, hn9, h1, h2, h3, h4, -, h5, h6, -⟩ := Cond.codeWith_spec (atoms_spec (ws := ws) h _ (by rw [hw]; exact List.mem_cons_self))
    cases hn.symm.trans hn9
    exact ⟨meth, c, h1, h2, h3, h4, h5, h6⟩
  · intro p e s m args below meth c s₁ B hml hP _
    have hh0 : s₁.heap = s.heap := by rw [B.state]; rfl
    obtain ⟨t, a1, o, b1, b2, b3⟩ := body p e s m args below meth c s₁ B hml hP s₁ hh0 (Stand.of_body B)
    exact ⟨t, o, a1, b1, b2, b3⟩
/-! ===== END ===== -/
end
section
def RX0 : String := "ReelConsole$CommandText"
def TX0 : u_T := fun k => match k with
  | 0 => ("ReelConsole$CommandText", "characters", "[I", true)
  | 1 => ("ReelConsole$CommandText", "length", "I", false)
  | 2 => ("ReelConsole$CommandText", "position", "I", false)
  | 3 => ("ReelConsole$CommandText", "command", "I", false)
  | 4 => ("ReelConsole$CommandText", "kind", "I", false)
  | 5 => ("ReelConsole$CommandText", "volume", "I", false)
  | 6 => ("ReelConsole$CommandText", "minutes", "I", false)
  | _ => ("ReelConsole$CommandText", "priority", "I", false)
def tyX0 : Nat → FieldType := fun k => match k with
  | 0 => .array .int
  | 1 => .int
  | 2 => .int
  | 3 => .int
  | 4 => .int
  | 5 => .int
  | 6 => .int
  | _ => .int
abbrev wsX00 : List Cond := u_ws RX0 TX0 8
theorem nmX0 : ∀ a, a < 8 → ∀ b, b < 8 → a ≠ b → (TX0 a).2.1 ≠ (TX0 b).2.1 := by decide +kernel
theorem tyX0_ok : ∀ k, k < 8 → parseFieldDescriptor (TX0 k).2.2.1 = some (tyX0 k) := by decide +kernel
abbrev cX0_init : ByteArray := prog_2_method_1_code
def yX0_init : MethodName := ⟨RX0, "<init>", "()V"⟩
abbrev cX0_append : ByteArray := prog_2_method_2_code
def yX0_append : MethodName := ⟨RX0, "append", "(I)V"⟩
abbrev cX0_rewind : ByteArray := prog_2_method_3_code
def yX0_rewind : MethodName := ⟨RX0, "rewind", "()V"⟩
abbrev cX0_findError : ByteArray := prog_2_method_4_code
def yX0_findError : MethodName := ⟨RX0, "findError", "()I"⟩
abbrev cX0_readCommand : ByteArray := prog_2_method_5_code
def yX0_readCommand : MethodName := ⟨RX0, "readCommand", "()Z"⟩
abbrev cX0_readSubmission : ByteArray := prog_2_method_6_code
def yX0_readSubmission : MethodName := ⟨RX0, "readSubmission", "(I)Z"⟩
abbrev cX0_readPriority : ByteArray := prog_2_method_7_code
def yX0_readPriority : MethodName := ⟨RX0, "readPriority", "()Z"⟩
abbrev cX0_readNumber : ByteArray := prog_2_method_8_code
def yX0_readNumber : MethodName := ⟨RX0, "readNumber", "(I)I"⟩
abbrev cX0_skip : ByteArray := prog_2_method_9_code
def yX0_skip : MethodName := ⟨RX0, "skip", "(C)Z"⟩
abbrev cX0_digitHere : ByteArray := prog_2_method_10_code
def yX0_digitHere : MethodName := ⟨RX0, "digitHere", "()I"⟩
abbrev cX0_characterHere : ByteArray := prog_2_method_11_code
def yX0_characterHere : MethodName := ⟨RX0, "characterHere", "()I"⟩
def RX1 : String := "ReelConsole$History"
def TX1 : u_T := fun k => match k with
  | 0 => ("ReelConsole$History", "slots", "[LReelConsole$Room;", true)
  | 1 => ("ReelConsole$History", "size", "I", false)
  | _ => ("ReelConsole$History", "nextSlot", "I", false)
def tyX1 : Nat → FieldType := fun k => match k with
  | 0 => .array (.object "ReelConsole$Room")
  | 1 => .int
  | _ => .int
abbrev wsX10 : List Cond := u_ws RX1 TX1 3
theorem nmX1 : ∀ a, a < 3 → ∀ b, b < 3 → a ≠ b → (TX1 a).2.1 ≠ (TX1 b).2.1 := by decide +kernel
theorem tyX1_ok : ∀ k, k < 3 → parseFieldDescriptor (TX1 k).2.2.1 = some (tyX1 k) := by decide +kernel
abbrev cX1_init : ByteArray := prog_3_method_1_code
def yX1_init : MethodName := ⟨RX1, "<init>", "()V"⟩
abbrev cX1_save : ByteArray := prog_3_method_2_code
def yX1_save : MethodName := ⟨RX1, "save", "(LReelConsole$Room;)V"⟩
abbrev cX1_restore : ByteArray := prog_3_method_3_code
def yX1_restore : MethodName := ⟨RX1, "restore", "(LReelConsole$Room;)V"⟩
def RX2 : String := "ReelConsole$Jobs"
def TX2 : u_T := fun k => match k with
  | 0 => ("ReelConsole$Jobs", "kinds", "[I", true)
  | 1 => ("ReelConsole$Jobs", "volumes", "[I", true)
  | 2 => ("ReelConsole$Jobs", "minutes", "[I", true)
  | 3 => ("ReelConsole$Jobs", "priorities", "[I", true)
  | 4 => ("ReelConsole$Jobs", "states", "[I", true)
  | 5 => ("ReelConsole$Jobs", "blocks", "[I", true)
  | 6 => ("ReelConsole$Jobs", "mounted", "[I", true)
  | 7 => ("ReelConsole$Jobs", "sentBack", "[I", true)
  | _ => ("ReelConsole$Jobs", "number", "I", false)
def tyX2 : Nat → FieldType := fun k => match k with
  | 0 => .array .int
  | 1 => .array .int
  | 2 => .array .int
  | 3 => .array .int
  | 4 => .array .int
  | 5 => .array .int
  | 6 => .array .int
  | 7 => .array .int
  | _ => .int
abbrev wsX20 : List Cond := u_ws RX2 TX2 9
theorem nmX2 : ∀ a, a < 9 → ∀ b, b < 9 → a ≠ b → (TX2 a).2.1 ≠ (TX2 b).2.1 := by decide +kernel
theorem tyX2_ok : ∀ k, k < 9 → parseFieldDescriptor (TX2 k).2.2.1 = some (tyX2 k) := by decide +kernel
abbrev cX2_init : ByteArray := prog_4_method_1_code
def yX2_init : MethodName := ⟨RX2, "<init>", "()V"⟩
abbrev cX2_copyFrom : ByteArray := prog_4_method_2_code
def yX2_copyFrom : MethodName := ⟨RX2, "copyFrom", "(LReelConsole$Jobs;)V"⟩
abbrev cX2_has : ByteArray := prog_4_method_3_code
def yX2_has : MethodName := ⟨RX2, "has", "(I)Z"⟩
abbrev cX2_isFull : ByteArray := prog_4_method_4_code
def yX2_isFull : MethodName := ⟨RX2, "isFull", "()Z"⟩
abbrev cX2_add : ByteArray := prog_4_method_5_code
def yX2_add : MethodName := ⟨RX2, "add", "(IIII)I"⟩
abbrev cX2_countIn : ByteArray := prog_4_method_6_code
def yX2_countIn : MethodName := ⟨RX2, "countIn", "(I)I"⟩
abbrev cX2_wantedSticker : ByteArray := prog_4_method_7_code
def yX2_wantedSticker : MethodName := ⟨RX2, "wantedSticker", "(I)I"⟩
abbrev cX2_hasWaitingCreate : ByteArray := prog_4_method_8_code
def yX2_hasWaitingCreate : MethodName := ⟨RX2, "hasWaitingCreate", "(I)Z"⟩
def RX3 : String := "ReelConsole$Reels"
def TX3 : u_T := fun k => match k with
  | 0 => ("ReelConsole$Reels", "labels", "[I", true)
  | 1 => ("ReelConsole$Reels", "stickers", "[I", true)
  | 2 => ("ReelConsole$Reels", "rings", "[Z", true)
  | 3 => ("ReelConsole$Reels", "expiryDays", "[I", true)
  | 4 => ("ReelConsole$Reels", "blocks", "[I", true)
  | _ => ("ReelConsole$Reels", "drives", "[I", true)
def tyX3 : Nat → FieldType := fun k => match k with
  | 0 => .array .int
  | 1 => .array .int
  | 2 => .array .boolean
  | 3 => .array .int
  | 4 => .array .int
  | _ => .array .int
abbrev wsX30 : List Cond := u_ws RX3 TX3 6
theorem nmX3 : ∀ a, a < 6 → ∀ b, b < 6 → a ≠ b → (TX3 a).2.1 ≠ (TX3 b).2.1 := by decide +kernel
theorem tyX3_ok : ∀ k, k < 6 → parseFieldDescriptor (TX3 k).2.2.1 = some (tyX3 k) := by decide +kernel
abbrev cX3_init : ByteArray := prog_5_method_1_code
def yX3_init : MethodName := ⟨RX3, "<init>", "()V"⟩
abbrev cX3_copyFrom : ByteArray := prog_5_method_2_code
def yX3_copyFrom : MethodName := ⟨RX3, "copyFrom", "(LReelConsole$Reels;)V"⟩
abbrev cX3_isScratch : ByteArray := prog_5_method_3_code
def yX3_isScratch : MethodName := ⟨RX3, "isScratch", "(II)Z"⟩
abbrev cX3_keepsLabel : ByteArray := prog_5_method_4_code
def yX3_keepsLabel : MethodName := ⟨RX3, "keepsLabel", "(II)Z"⟩
abbrev cX3_findOn : ByteArray := prog_5_method_5_code
def yX3_findOn : MethodName := ⟨RX3, "findOn", "(I)I"⟩
abbrev cX3_findEmptyDrive : ByteArray := prog_5_method_6_code
def yX3_findEmptyDrive : MethodName := ⟨RX3, "findEmptyDrive", "()I"⟩
abbrev cX3_findOnShelf : ByteArray := prog_5_method_7_code
def yX3_findOnShelf : MethodName := ⟨RX3, "findOnShelf", "(I)I"⟩
abbrev cX3_findNextOnShelf : ByteArray := prog_5_method_8_code
def yX3_findNextOnShelf : MethodName := ⟨RX3, "findNextOnShelf", "(I)I"⟩
def RX4 : String := "ReelConsole$Room"
def TX4 : u_T := fun k => match k with
  | 0 => ("ReelConsole$Room", "reels", "LReelConsole$Reels;", true)
  | 1 => ("ReelConsole$Room", "jobs", "LReelConsole$Jobs;", true)
  | 2 => ("ReelConsole$Room", "day", "I", false)
  | 3 => ("ReelConsole$Room", "care", "I", false)
  | 4 => ("ReelConsole$Room", "keep", "I", false)
  | 5 => ("ReelConsole$Room", "minutes", "I", false)
  | 6 => ("ReelConsole$Room", "mounts", "I", false)
  | 7 => ("ReelConsole$Room", "slips", "I", false)
  | 8 => ("ReelConsole$Room", "sentBack", "I", false)
  | 9 => ("ReelConsole$Room", "blocksRead", "I", false)
  | 10 => ("ReelConsole$Room", "blocksWritten", "I", false)
  | _ => ("ReelConsole$Room", "blocksDropped", "I", false)
def tyX4 : Nat → FieldType := fun k => match k with
  | 0 => .object "ReelConsole$Reels"
  | 1 => .object "ReelConsole$Jobs"
  | 2 => .int
  | 3 => .int
  | 4 => .int
  | 5 => .int
  | 6 => .int
  | 7 => .int
  | 8 => .int
  | 9 => .int
  | 10 => .int
  | _ => .int
abbrev wsX40 : List Cond := u_ws RX4 TX4 12
theorem nmX4 : ∀ a, a < 12 → ∀ b, b < 12 → a ≠ b → (TX4 a).2.1 ≠ (TX4 b).2.1 := by decide +kernel
theorem tyX4_ok : ∀ k, k < 12 → parseFieldDescriptor (TX4 k).2.2.1 = some (tyX4 k) := by decide +kernel
abbrev cX4_init : ByteArray := prog_6_method_1_code
def yX4_init : MethodName := ⟨RX4, "<init>", "()V"⟩
abbrev cX4_copyFrom : ByteArray := prog_6_method_2_code
def yX4_copyFrom : MethodName := ⟨RX4, "copyFrom", "(LReelConsole$Room;)V"⟩
abbrev cX4_hasNextDay : ByteArray := prog_6_method_3_code
def yX4_hasNextDay : MethodName := ⟨RX4, "hasNextDay", "()Z"⟩
abbrev cX4_takesJob : ByteArray := prog_6_method_4_code
def yX4_takesJob : MethodName := ⟨RX4, "takesJob", "(II)Z"⟩
abbrev cX4_endJob : ByteArray := prog_6_method_5_code
def yX4_endJob : MethodName := ⟨RX4, "endJob", "(II)V"⟩
abbrev cX4_runMinutes : ByteArray := prog_6_method_6_code
def yX4_runMinutes : MethodName := ⟨RX4, "runMinutes", "(I)I"⟩
abbrev cX4_runMinute : ByteArray := prog_6_method_7_code
def yX4_runMinute : MethodName := ⟨RX4, "runMinute", "()I"⟩
abbrev cX4_moveBlock : ByteArray := prog_6_method_8_code
def yX4_moveBlock : MethodName := ⟨RX4, "moveBlock", "(I)V"⟩
abbrev cX4_lacksReel : ByteArray := prog_6_method_9_code
def yX4_lacksReel : MethodName := ⟨RX4, "lacksReel", "(I)Z"⟩
abbrev cX4_findNextJob : ByteArray := prog_6_method_10_code
def yX4_findNextJob : MethodName := ⟨RX4, "findNextJob", "()I"⟩
abbrev cX4_isSlip : ByteArray := prog_6_method_11_code
def yX4_isSlip : MethodName := ⟨RX4, "isSlip", "(I)Z"⟩
abbrev cX4_chooseReel : ByteArray := prog_6_method_12_code
def yX4_chooseReel : MethodName := ⟨RX4, "chooseReel", "(IZ)I"⟩
abbrev cX4_serve : ByteArray := prog_6_method_13_code
def yX4_serve : MethodName := ⟨RX4, "serve", "(II)V"⟩
abbrev cX4_check : ByteArray := prog_6_method_14_code
def yX4_check : MethodName := ⟨RX4, "check", "(II)I"⟩
abbrev cX4_mount : ByteArray := prog_6_method_15_code
def yX4_mount : MethodName := ⟨RX4, "mount", "(III)V"⟩
abbrev cX4_sendBack : ByteArray := prog_6_method_16_code
def yX4_sendBack : MethodName := ⟨RX4, "sendBack", "(II)V"⟩
def RX5 : String := "ReelConsole"
def TX5 : u_T := fun k => match k with
  | 0 => ("ReelConsole", "room", "LReelConsole$Room;", true)
  | 1 => ("ReelConsole", "trial", "LReelConsole$Room;", true)
  | 2 => ("ReelConsole", "history", "LReelConsole$History;", true)
  | _ => ("ReelConsole", "text", "LReelConsole$CommandText;", true)
def tyX5 : Nat → FieldType := fun k => match k with
  | 0 => .object "ReelConsole$Room"
  | 1 => .object "ReelConsole$Room"
  | 2 => .object "ReelConsole$History"
  | _ => .object "ReelConsole$CommandText"
abbrev wsX50 : List Cond := u_ws RX5 TX5 4
theorem nmX5 : ∀ a, a < 4 → ∀ b, b < 4 → a ≠ b → (TX5 a).2.1 ≠ (TX5 b).2.1 := by decide +kernel
theorem tyX5_ok : ∀ k, k < 4 → parseFieldDescriptor (TX5 k).2.2.1 = some (tyX5 k) := by decide +kernel
abbrev cX5_init : ByteArray := prog_1_method_1_code
def yX5_init : MethodName := ⟨RX5, "<init>", "()V"⟩
abbrev cX5_submit : ByteArray := prog_1_method_2_code
def yX5_submit : MethodName := ⟨RX5, "submit", "(IIII)I"⟩
abbrev cX5_cancel : ByteArray := prog_1_method_3_code
def yX5_cancel : MethodName := ⟨RX5, "cancel", "(I)I"⟩
abbrev cX5_setSticker : ByteArray := prog_1_method_4_code
def yX5_setSticker : MethodName := ⟨RX5, "setSticker", "(II)I"⟩
abbrev cX5_setRing : ByteArray := prog_1_method_5_code
def yX5_setRing : MethodName := ⟨RX5, "setRing", "(IZ)Z"⟩
abbrev cX5_pass : ByteArray := prog_1_method_6_code
def yX5_pass : MethodName := ⟨RX5, "pass", "(I)I"⟩
abbrev cX5_nextDay : ByteArray := prog_1_method_7_code
def yX5_nextDay : MethodName := ⟨RX5, "nextDay", "()I"⟩
abbrev cX5_set : ByteArray := prog_1_method_8_code
def yX5_set : MethodName := ⟨RX5, "set", "(II)I"⟩
abbrev cX5_appendText : ByteArray := prog_1_method_9_code
def yX5_appendText : MethodName := ⟨RX5, "appendText", "(I)I"⟩
abbrev cX5_clearText : ByteArray := prog_1_method_10_code
def yX5_clearText : MethodName := ⟨RX5, "clearText", "()I"⟩
abbrev cX5_errorPosition : ByteArray := prog_1_method_11_code
def yX5_errorPosition : MethodName := ⟨RX5, "errorPosition", "()I"⟩
abbrev cX5_runText : ByteArray := prog_1_method_12_code
def yX5_runText : MethodName := ⟨RX5, "runText", "()I"⟩
abbrev cX5_execute : ByteArray := prog_1_method_13_code
def yX5_execute : MethodName := ⟨RX5, "execute", "()Z"⟩
abbrev cX5_undo : ByteArray := prog_1_method_14_code
def yX5_undo : MethodName := ⟨RX5, "undo", "()I"⟩
abbrev cX5_reel : ByteArray := prog_1_method_15_code
def yX5_reel : MethodName := ⟨RX5, "reel", "(II)I"⟩
abbrev cX5_reelOn : ByteArray := prog_1_method_16_code
def yX5_reelOn : MethodName := ⟨RX5, "reelOn", "(I)I"⟩
abbrev cX5_scratchReels : ByteArray := prog_1_method_17_code
def yX5_scratchReels : MethodName := ⟨RX5, "scratchReels", "()I"⟩
abbrev cX5_jobs : ByteArray := prog_1_method_18_code
def yX5_jobs : MethodName := ⟨RX5, "jobs", "()I"⟩
abbrev cX5_job : ByteArray := prog_1_method_19_code
def yX5_job : MethodName := ⟨RX5, "job", "(II)I"⟩
abbrev cX5_isStuck : ByteArray := prog_1_method_20_code
def yX5_isStuck : MethodName := ⟨RX5, "isStuck", "(I)Z"⟩
abbrev cX5_verdict : ByteArray := prog_1_method_21_code
def yX5_verdict : MethodName := ⟨RX5, "verdict", "(II)I"⟩
abbrev cX5_nextJob : ByteArray := prog_1_method_22_code
def yX5_nextJob : MethodName := ⟨RX5, "nextJob", "()I"⟩
abbrev cX5_nextReel : ByteArray := prog_1_method_23_code
def yX5_nextReel : MethodName := ⟨RX5, "nextReel", "()I"⟩
abbrev cX5_minutesToDone : ByteArray := prog_1_method_24_code
def yX5_minutesToDone : MethodName := ⟨RX5, "minutesToDone", "(I)I"⟩
abbrev cX5_count : ByteArray := prog_1_method_25_code
def yX5_count : MethodName := ⟨RX5, "count", "(I)I"⟩
abbrev cX5_success : ByteArray := prog_1_method_26_code
def yX5_success : MethodName := ⟨RX5, "success", "()D"⟩
abbrev cX5_savedStates : ByteArray := prog_1_method_27_code
def yX5_savedStates : MethodName := ⟨RX5, "savedStates", "()I"⟩
abbrev cX5_textLength : ByteArray := prog_1_method_28_code
def yX5_textLength : MethodName := ⟨RX5, "textLength", "()I"⟩
abbrev cX5_isWithin : ByteArray := prog_1_method_29_code
def yX5_isWithin : MethodName := ⟨RX5, "isWithin", "(III)Z"⟩
abbrev cX5_isReel : ByteArray := prog_1_method_30_code
def yX5_isReel : MethodName := ⟨RX5, "isReel", "(I)Z"⟩
def RX6 : String := "ReelConsoleModel"
def TX6 : u_T := fun k => match k with
  | 0 => ("ReelConsoleModel", "row", "[I", true)
  | 1 => ("ReelConsoleModel", "saved", "[I", true)
  | 2 => ("ReelConsoleModel", "savedMany", "I", false)
  | 3 => ("ReelConsoleModel", "aside", "[I", true)
  | 4 => ("ReelConsoleModel", "thrown", "I", false)
  | 5 => ("ReelConsoleModel", "text", "[I", true)
  | 6 => ("ReelConsoleModel", "length", "I", false)
  | 7 => ("ReelConsoleModel", "spot", "I", false)
  | 8 => ("ReelConsoleModel", "number", "I", false)
  | 9 => ("ReelConsoleModel", "commands", "I", false)
  | 10 => ("ReelConsoleModel", "letter", "[I", true)
  | 11 => ("ReelConsoleModel", "one", "[I", true)
  | 12 => ("ReelConsoleModel", "two", "[I", true)
  | _ => ("ReelConsoleModel", "three", "[I", true)
def tyX6 : Nat → FieldType := fun k => match k with
  | 0 => .array .int
  | 1 => .array .int
  | 2 => .int
  | 3 => .array .int
  | 4 => .int
  | 5 => .array .int
  | 6 => .int
  | 7 => .int
  | 8 => .int
  | 9 => .int
  | 10 => .array .int
  | 11 => .array .int
  | 12 => .array .int
  | _ => .array .int
abbrev wsX60 : List Cond := u_ws RX6 TX6 14
theorem nmX6 : ∀ a, a < 14 → ∀ b, b < 14 → a ≠ b → (TX6 a).2.1 ≠ (TX6 b).2.1 := by decide +kernel
theorem tyX6_ok : ∀ k, k < 14 → parseFieldDescriptor (TX6 k).2.2.1 = some (tyX6 k) := by decide +kernel
abbrev cX6_init : ByteArray := prog_8_method_1_code
def yX6_init : MethodName := ⟨RX6, "<init>", "()V"⟩
abbrev cX6_thrown : ByteArray := prog_8_method_2_code
def yX6_thrown : MethodName := ⟨RX6, "thrown", "()I"⟩
abbrev cX6_fails : ByteArray := prog_8_method_3_code
def yX6_fails : MethodName := ⟨RX6, "fails", "(I)I"⟩
abbrev cX6_in : ByteArray := prog_8_method_4_code
def yX6_in : MethodName := ⟨RX6, "in", "(III)Z"⟩
abbrev cX6_isReel : ByteArray := prog_8_method_5_code
def yX6_isReel : MethodName := ⟨RX6, "isReel", "(I)Z"⟩
abbrev cX6_isJob : ByteArray := prog_8_method_6_code
def yX6_isJob : MethodName := ⟨RX6, "isJob", "(I)Z"⟩
abbrev cX6_of : ByteArray := prog_8_method_7_code
def yX6_of : MethodName := ⟨RX6, "of", "(II)I"⟩
abbrev cX6_put : ByteArray := prog_8_method_8_code
def yX6_put : MethodName := ⟨RX6, "put", "(III)V"⟩
abbrev cX6_ofJob : ByteArray := prog_8_method_9_code
def yX6_ofJob : MethodName := ⟨RX6, "ofJob", "(II)I"⟩
abbrev cX6_putJob : ByteArray := prog_8_method_10_code
def yX6_putJob : MethodName := ⟨RX6, "putJob", "(III)V"⟩
abbrev cX6_isOnShelf : ByteArray := prog_8_method_11_code
def yX6_isOnShelf : MethodName := ⟨RX6, "isOnShelf", "(I)Z"⟩
abbrev cX6_isScratch : ByteArray := prog_8_method_12_code
def yX6_isScratch : MethodName := ⟨RX6, "isScratch", "(I)Z"⟩
abbrev cX6_save : ByteArray := prog_8_method_13_code
def yX6_save : MethodName := ⟨RX6, "save", "()V"⟩
abbrev cX6_undo : ByteArray := prog_8_method_14_code
def yX6_undo : MethodName := ⟨RX6, "undo", "()I"⟩
abbrev cX6_found : ByteArray := prog_8_method_15_code
def yX6_found : MethodName := ⟨RX6, "found", "(I)I"⟩
abbrev cX6_next : ByteArray := prog_8_method_16_code
def yX6_next : MethodName := ⟨RX6, "next", "()I"⟩
abbrev cX6_isSlip : ByteArray := prog_8_method_17_code
def yX6_isSlip : MethodName := ⟨RX6, "isSlip", "(I)Z"⟩
abbrev cX6_after : ByteArray := prog_8_method_18_code
def yX6_after : MethodName := ⟨RX6, "after", "(I)I"⟩
abbrev cX6_check : ByteArray := prog_8_method_19_code
def yX6_check : MethodName := ⟨RX6, "check", "(II)I"⟩
abbrev cX6_onDrive : ByteArray := prog_8_method_20_code
def yX6_onDrive : MethodName := ⟨RX6, "onDrive", "(I)I"⟩
abbrev cX6_emptyDrive : ByteArray := prog_8_method_21_code
def yX6_emptyDrive : MethodName := ⟨RX6, "emptyDrive", "()I"⟩
abbrev cX6_mount : ByteArray := prog_8_method_22_code
def yX6_mount : MethodName := ⟨RX6, "mount", "(III)V"⟩
abbrev cX6_serve : ByteArray := prog_8_method_23_code
def yX6_serve : MethodName := ⟨RX6, "serve", "(II)V"⟩
abbrev cX6_takeOff : ByteArray := prog_8_method_24_code
def yX6_takeOff : MethodName := ⟨RX6, "takeOff", "(I)V"⟩
abbrev cX6_isDoneNow : ByteArray := prog_8_method_25_code
def yX6_isDoneNow : MethodName := ⟨RX6, "isDoneNow", "(I)Z"⟩
abbrev cX6_minute : ByteArray := prog_8_method_26_code
def yX6_minute : MethodName := ⟨RX6, "minute", "()I"⟩
abbrev cX6_passNow : ByteArray := prog_8_method_27_code
def yX6_passNow : MethodName := ⟨RX6, "passNow", "(I)I"⟩
abbrev cX6_areRight : ByteArray := prog_8_method_28_code
def yX6_areRight : MethodName := ⟨RX6, "areRight", "(IIII)Z"⟩
abbrev cX6_isKept : ByteArray := prog_8_method_29_code
def yX6_isKept : MethodName := ⟨RX6, "isKept", "(I)Z"⟩
abbrev cX6_canSubmit : ByteArray := prog_8_method_30_code
def yX6_canSubmit : MethodName := ⟨RX6, "canSubmit", "(II)Z"⟩
abbrev cX6_submitNow : ByteArray := prog_8_method_31_code
def yX6_submitNow : MethodName := ⟨RX6, "submitNow", "(IIII)I"⟩
abbrev cX6_submit : ByteArray := prog_8_method_32_code
def yX6_submit : MethodName := ⟨RX6, "submit", "(IIII)I"⟩
abbrev cX6_cancel : ByteArray := prog_8_method_33_code
def yX6_cancel : MethodName := ⟨RX6, "cancel", "(I)I"⟩
abbrev cX6_setSticker : ByteArray := prog_8_method_34_code
def yX6_setSticker : MethodName := ⟨RX6, "setSticker", "(II)I"⟩
abbrev cX6_setRing : ByteArray := prog_8_method_35_code
def yX6_setRing : MethodName := ⟨RX6, "setRing", "(IZ)Z"⟩
abbrev cX6_pass : ByteArray := prog_8_method_36_code
def yX6_pass : MethodName := ⟨RX6, "pass", "(I)I"⟩
abbrev cX6_nextDay : ByteArray := prog_8_method_37_code
def yX6_nextDay : MethodName := ⟨RX6, "nextDay", "()I"⟩
abbrev cX6_set : ByteArray := prog_8_method_38_code
def yX6_set : MethodName := ⟨RX6, "set", "(II)I"⟩
abbrev cX6_appendText : ByteArray := prog_8_method_39_code
def yX6_appendText : MethodName := ⟨RX6, "appendText", "(I)I"⟩
abbrev cX6_clearText : ByteArray := prog_8_method_40_code
def yX6_clearText : MethodName := ⟨RX6, "clearText", "()I"⟩
abbrev cX6_sign : ByteArray := prog_8_method_41_code
def yX6_sign : MethodName := ⟨RX6, "sign", "()I"⟩
abbrev cX6_takes : ByteArray := prog_8_method_42_code
def yX6_takes : MethodName := ⟨RX6, "takes", "(I)Z"⟩
abbrev cX6_readsNumber : ByteArray := prog_8_method_43_code
def yX6_readsNumber : MethodName := ⟨RX6, "readsNumber", "(I)Z"⟩
abbrev cX6_readsJob : ByteArray := prog_8_method_44_code
def yX6_readsJob : MethodName := ⟨RX6, "readsJob", "()Z"⟩
abbrev cX6_readsMinutes : ByteArray := prog_8_method_45_code
def yX6_readsMinutes : MethodName := ⟨RX6, "readsMinutes", "()Z"⟩
abbrev cX6_readsCommand : ByteArray := prog_8_method_46_code
def yX6_readsCommand : MethodName := ⟨RX6, "readsCommand", "()Z"⟩
abbrev cX6_isValid : ByteArray := prog_8_method_47_code
def yX6_isValid : MethodName := ⟨RX6, "isValid", "()Z"⟩
abbrev cX6_errorPosition : ByteArray := prog_8_method_48_code
def yX6_errorPosition : MethodName := ⟨RX6, "errorPosition", "()I"⟩
abbrev cX6_kindOf : ByteArray := prog_8_method_49_code
def yX6_kindOf : MethodName := ⟨RX6, "kindOf", "(I)I"⟩
abbrev cX6_isCarriedOut : ByteArray := prog_8_method_50_code
def yX6_isCarriedOut : MethodName := ⟨RX6, "isCarriedOut", "(I)Z"⟩
abbrev cX6_runText : ByteArray := prog_8_method_51_code
def yX6_runText : MethodName := ⟨RX6, "runText", "()I"⟩
abbrev cX6_reel : ByteArray := prog_8_method_52_code
def yX6_reel : MethodName := ⟨RX6, "reel", "(II)I"⟩
abbrev cX6_reelOn : ByteArray := prog_8_method_53_code
def yX6_reelOn : MethodName := ⟨RX6, "reelOn", "(I)I"⟩
abbrev cX6_scratchReels : ByteArray := prog_8_method_54_code
def yX6_scratchReels : MethodName := ⟨RX6, "scratchReels", "()I"⟩
abbrev cX6_jobs : ByteArray := prog_8_method_55_code
def yX6_jobs : MethodName := ⟨RX6, "jobs", "()I"⟩
abbrev cX6_job : ByteArray := prog_8_method_56_code
def yX6_job : MethodName := ⟨RX6, "job", "(II)I"⟩
abbrev cX6_isStuck : ByteArray := prog_8_method_57_code
def yX6_isStuck : MethodName := ⟨RX6, "isStuck", "(I)Z"⟩
abbrev cX6_verdict : ByteArray := prog_8_method_58_code
def yX6_verdict : MethodName := ⟨RX6, "verdict", "(II)I"⟩
abbrev cX6_nextJob : ByteArray := prog_8_method_59_code
def yX6_nextJob : MethodName := ⟨RX6, "nextJob", "()I"⟩
abbrev cX6_nextReel : ByteArray := prog_8_method_60_code
def yX6_nextReel : MethodName := ⟨RX6, "nextReel", "()I"⟩
abbrev cX6_minutesTo : ByteArray := prog_8_method_61_code
def yX6_minutesTo : MethodName := ⟨RX6, "minutesTo", "(I)I"⟩
abbrev cX6_minutesToDone : ByteArray := prog_8_method_62_code
def yX6_minutesToDone : MethodName := ⟨RX6, "minutesToDone", "(I)I"⟩
abbrev cX6_with : ByteArray := prog_8_method_63_code
def yX6_with : MethodName := ⟨RX6, "with", "(I)I"⟩
abbrev cX6_count : ByteArray := prog_8_method_64_code
def yX6_count : MethodName := ⟨RX6, "count", "(I)I"⟩
abbrev cX6_success : ByteArray := prog_8_method_65_code
def yX6_success : MethodName := ⟨RX6, "success", "()D"⟩
abbrev cX6_savedStates : ByteArray := prog_8_method_66_code
def yX6_savedStates : MethodName := ⟨RX6, "savedStates", "()I"⟩
abbrev cX6_textLength : ByteArray := prog_8_method_67_code
def yX6_textLength : MethodName := ⟨RX6, "textLength", "()I"⟩
def RJ9 : String := "java/lang/Math"
def TJ9 : u_T := fun k => match k with
  | _ => ("", "", "", false)
def tyJ9 : Nat → FieldType := fun k => match k with
  | _ => .int
abbrev wsJ90 : List Cond := u_ws RJ9 TJ9 0
theorem nmJ9 : ∀ a, a < 0 → ∀ b, b < 0 → a ≠ b → (TJ9 a).2.1 ≠ (TJ9 b).2.1 := by decide +kernel
theorem tyJ9_ok : ∀ k, k < 0 → parseFieldDescriptor (TJ9 k).2.2.1 = some (tyJ9 k) := by decide +kernel
abbrev cJ9_floorMod_7cf53 : ByteArray := prog_13_method_50_code
def yJ9_floorMod_7cf53 : MethodName := ⟨RJ9, "floorMod", "(II)I"⟩
def RJ0 : String := "java/lang/String"
def TJ0 : u_T := fun k => match k with
  | _ => ("", "", "", false)
def tyJ0 : Nat → FieldType := fun k => match k with
  | _ => .int
abbrev wsJ00 : List Cond := u_ws RJ0 TJ0 0
theorem nmJ0 : ∀ a, a < 0 → ∀ b, b < 0 → a ≠ b → (TJ0 a).2.1 ≠ (TJ0 b).2.1 := by decide +kernel
theorem tyJ0_ok : ∀ k, k < 0 → parseFieldDescriptor (TJ0 k).2.2.1 = some (tyJ0 k) := by decide +kernel
def RJ10 : String := "java/lang/System"
def TJ10 : u_T := fun k => match k with
  | _ => ("", "", "", false)
def tyJ10 : Nat → FieldType := fun k => match k with
  | _ => .int
abbrev wsJ100 : List Cond := u_ws RJ10 TJ10 0
theorem nmJ10 : ∀ a, a < 0 → ∀ b, b < 0 → a ≠ b → (TJ10 a).2.1 ≠ (TJ10 b).2.1 := by decide +kernel
theorem tyJ10_ok : ∀ k, k < 0 → parseFieldDescriptor (TJ10 k).2.2.1 = some (tyJ10 k) := by decide +kernel
def RL : String := "ReelConsoleLaw"
abbrev cL_submit : ByteArray := method_3_code
def yL_submit : MethodName := ⟨RL, "submit", "(LReelConsole;IIII[J)I"⟩
abbrev cL_cancel : ByteArray := method_4_code
def yL_cancel : MethodName := ⟨RL, "cancel", "(LReelConsole;I[J)I"⟩
abbrev cL_setSticker : ByteArray := method_5_code
def yL_setSticker : MethodName := ⟨RL, "setSticker", "(LReelConsole;II[J)I"⟩
abbrev cL_setRing : ByteArray := method_6_code
def yL_setRing : MethodName := ⟨RL, "setRing", "(LReelConsole;IZ[J)I"⟩
abbrev cL_pass : ByteArray := method_7_code
def yL_pass : MethodName := ⟨RL, "pass", "(LReelConsole;I[J)I"⟩
abbrev cL_nextDay : ByteArray := method_8_code
def yL_nextDay : MethodName := ⟨RL, "nextDay", "(LReelConsole;[J)I"⟩
abbrev cL_set : ByteArray := method_9_code
def yL_set : MethodName := ⟨RL, "set", "(LReelConsole;II[J)I"⟩
abbrev cL_appendText : ByteArray := method_10_code
def yL_appendText : MethodName := ⟨RL, "appendText", "(LReelConsole;I[J)I"⟩
abbrev cL_runText : ByteArray := method_11_code
def yL_runText : MethodName := ⟨RL, "runText", "(LReelConsole;[J)I"⟩
abbrev cL_undo : ByteArray := method_12_code
def yL_undo : MethodName := ⟨RL, "undo", "(LReelConsole;[J)I"⟩
abbrev cL_reel : ByteArray := method_13_code
def yL_reel : MethodName := ⟨RL, "reel", "(LReelConsole;II[J)I"⟩
abbrev cL_reelOn : ByteArray := method_14_code
def yL_reelOn : MethodName := ⟨RL, "reelOn", "(LReelConsole;I[J)I"⟩
abbrev cL_job : ByteArray := method_15_code
def yL_job : MethodName := ⟨RL, "job", "(LReelConsole;II[J)I"⟩
abbrev cL_isStuck : ByteArray := method_16_code
def yL_isStuck : MethodName := ⟨RL, "isStuck", "(LReelConsole;I[J)I"⟩
abbrev cL_verdict : ByteArray := method_17_code
def yL_verdict : MethodName := ⟨RL, "verdict", "(LReelConsole;II[J)I"⟩
abbrev cL_minutesToDone : ByteArray := method_18_code
def yL_minutesToDone : MethodName := ⟨RL, "minutesToDone", "(LReelConsole;I[J)I"⟩
abbrev cL_count : ByteArray := method_19_code
def yL_count : MethodName := ⟨RL, "count", "(LReelConsole;I[J)I"⟩
abbrev cL_law : ByteArray := code
def yL_law : MethodName := ⟨RL, "law", "([I)Z"⟩
theorem dX0_init_0 : decode cX0_init 0 = .ok (.aload_n 0, 1) := by decide +kernel
theorem dX0_init_1 : decode cX0_init 1 = .ok (.invokespecial 3, 3) := by decide +kernel
theorem dX0_init_4 : decode cX0_init 4 = .ok (.aload_n 0, 1) := by decide +kernel
theorem dX0_init_5 : decode cX0_init 5 = .ok (.bipush 80, 2) := by decide +kernel
theorem dX0_init_7 : decode cX0_init 7 = .ok (.newarray .int, 2) := by decide +kernel
theorem dX0_init_9 : decode cX0_init 9 = .ok (.putfield 9, 3) := by decide +kernel
theorem dX0_init_12 : decode cX0_init 12 = .ok (.aload_n 0, 1) := by decide +kernel
theorem dX0_init_13 : decode cX0_init 13 = .ok (.iconst 0, 1) := by decide +kernel
theorem dX0_init_14 : decode cX0_init 14 = .ok (.putfield 15, 3) := by decide +kernel
theorem dX0_init_17 : decode cX0_init 17 = .ok (.aload_n 0, 1) := by decide +kernel
theorem dX0_init_18 : decode cX0_init 18 = .ok (.iconst 0, 1) := by decide +kernel
theorem dX0_init_19 : decode cX0_init 19 = .ok (.putfield 19, 3) := by decide +kernel
theorem dX0_init_22 : decode cX0_init 22 = .ok (.aload_n 0, 1) := by decide +kernel
theorem dX0_init_23 : decode cX0_init 23 = .ok (.iconst 0, 1) := by decide +kernel
theorem dX0_init_24 : decode cX0_init 24 = .ok (.putfield 22, 3) := by decide +kernel
theorem dX0_init_27 : decode cX0_init 27 = .ok (.aload_n 0, 1) := by decide +kernel
theorem dX0_init_28 : decode cX0_init 28 = .ok (.iconst 0, 1) := by decide +kernel
theorem dX0_init_29 : decode cX0_init 29 = .ok (.putfield 25, 3) := by decide +kernel
theorem dX0_init_32 : decode cX0_init 32 = .ok (.aload_n 0, 1) := by decide +kernel
theorem dX0_init_33 : decode cX0_init 33 = .ok (.iconst 0, 1) := by decide +kernel
theorem dX0_init_34 : decode cX0_init 34 = .ok (.putfield 28, 3) := by decide +kernel
theorem dX0_init_37 : decode cX0_init 37 = .ok (.aload_n 0, 1) := by decide +kernel
theorem dX0_init_38 : decode cX0_init 38 = .ok (.iconst 0, 1) := by decide +kernel
theorem dX0_init_39 : decode cX0_init 39 = .ok (.putfield 31, 3) := by decide +kernel
theorem dX0_init_42 : decode cX0_init 42 = .ok (.aload_n 0, 1) := by decide +kernel
theorem dX0_init_43 : decode cX0_init 43 = .ok (.iconst 0, 1) := by decide +kernel
theorem dX0_init_44 : decode cX0_init 44 = .ok (.putfield 34, 3) := by decide +kernel
theorem dX0_init_47 : decode cX0_init 47 = .ok (.return_, 1) := by decide +kernel
theorem dX0_append_0 : decode cX0_append 0 = .ok (.aload_n 0, 1) := by decide +kernel
theorem dX0_append_1 : decode cX0_append 1 = .ok (.getfield 15, 3) := by decide +kernel
theorem dX0_append_4 : decode cX0_append 4 = .ok (.bipush 80, 2) := by decide +kernel
theorem dX0_append_6 : decode cX0_append 6 = .ok (.if_icmp .ge 23, 3) := by decide +kernel
theorem dX0_append_9 : decode cX0_append 9 = .ok (.aload_n 0, 1) := by decide +kernel
theorem dX0_append_10 : decode cX0_append 10 = .ok (.getfield 9, 3) := by decide +kernel
theorem dX0_append_13 : decode cX0_append 13 = .ok (.aload_n 0, 1) := by decide +kernel
theorem dX0_append_14 : decode cX0_append 14 = .ok (.getfield 15, 3) := by decide +kernel
theorem dX0_append_17 : decode cX0_append 17 = .ok (.iload_n 1, 1) := by decide +kernel
theorem dX0_append_18 : decode cX0_append 18 = .ok (.iastore, 1) := by decide +kernel
theorem dX0_append_19 : decode cX0_append 19 = .ok (.aload_n 0, 1) := by decide +kernel
theorem dX0_append_20 : decode cX0_append 20 = .ok (.dup, 1) := by decide +kernel
theorem dX0_append_21 : decode cX0_append 21 = .ok (.getfield 15, 3) := by decide +kernel
theorem dX0_append_24 : decode cX0_append 24 = .ok (.iconst 1, 1) := by decide +kernel
theorem dX0_append_25 : decode cX0_append 25 = .ok (.iadd, 1) := by decide +kernel
theorem dX0_append_26 : decode cX0_append 26 = .ok (.putfield 15, 3) := by decide +kernel
theorem dX0_append_29 : decode cX0_append 29 = .ok (.return_, 1) := by decide +kernel
theorem dX0_rewind_0 : decode cX0_rewind 0 = .ok (.aload_n 0, 1) := by decide +kernel
theorem dX0_rewind_1 : decode cX0_rewind 1 = .ok (.iconst 0, 1) := by decide +kernel
theorem dX0_rewind_2 : decode cX0_rewind 2 = .ok (.putfield 19, 3) := by decide +kernel
theorem dX0_rewind_5 : decode cX0_rewind 5 = .ok (.return_, 1) := by decide +kernel
theorem dX0_findError_0 : decode cX0_findError 0 = .ok (.aload_n 0, 1) := by decide +kernel
theorem dX0_findError_1 : decode cX0_findError 1 = .ok (.invokevirtual 37, 3) := by decide +kernel
theorem dX0_findError_4 : decode cX0_findError 4 = .ok (.iconst 0, 1) := by decide +kernel
theorem dX0_findError_5 : decode cX0_findError 5 = .ok (.istore_n 1, 1) := by decide +kernel
theorem dX0_findError_6 : decode cX0_findError 6 = .ok (.iload_n 1, 1) := by decide +kernel
theorem dX0_findError_7 : decode cX0_findError 7 = .ok (.bipush 80, 2) := by decide +kernel
theorem dX0_findError_9 : decode cX0_findError 9 = .ok (.if_icmp .ge 48, 3) := by decide +kernel
theorem dX0_findError_12 : decode cX0_findError 12 = .ok (.aload_n 0, 1) := by decide +kernel
theorem dX0_findError_13 : decode cX0_findError 13 = .ok (.invokevirtual 40, 3) := by decide +kernel
theorem dX0_findError_16 : decode cX0_findError 16 = .ok (.ifCond .ne 8, 3) := by decide +kernel
theorem dX0_findError_19 : decode cX0_findError 19 = .ok (.aload_n 0, 1) := by decide +kernel
theorem dX0_findError_20 : decode cX0_findError 20 = .ok (.getfield 19, 3) := by decide +kernel
theorem dX0_findError_23 : decode cX0_findError 23 = .ok (.ireturn, 1) := by decide +kernel
theorem dX0_findError_24 : decode cX0_findError 24 = .ok (.aload_n 0, 1) := by decide +kernel
theorem dX0_findError_25 : decode cX0_findError 25 = .ok (.getfield 19, 3) := by decide +kernel
theorem dX0_findError_28 : decode cX0_findError 28 = .ok (.aload_n 0, 1) := by decide +kernel
theorem dX0_findError_29 : decode cX0_findError 29 = .ok (.getfield 15, 3) := by decide +kernel
theorem dX0_findError_32 : decode cX0_findError 32 = .ok (.if_icmp .lt 5, 3) := by decide +kernel
theorem dX0_findError_35 : decode cX0_findError 35 = .ok (.iconst (-1), 1) := by decide +kernel
theorem dX0_findError_36 : decode cX0_findError 36 = .ok (.ireturn, 1) := by decide +kernel
theorem dX0_findError_37 : decode cX0_findError 37 = .ok (.aload_n 0, 1) := by decide +kernel
theorem dX0_findError_38 : decode cX0_findError 38 = .ok (.bipush 59, 2) := by decide +kernel
theorem dX0_findError_40 : decode cX0_findError 40 = .ok (.invokevirtual 44, 3) := by decide +kernel
theorem dX0_findError_43 : decode cX0_findError 43 = .ok (.ifCond .ne 8, 3) := by decide +kernel
theorem dX0_findError_46 : decode cX0_findError 46 = .ok (.aload_n 0, 1) := by decide +kernel
theorem dX0_findError_47 : decode cX0_findError 47 = .ok (.getfield 19, 3) := by decide +kernel
theorem dX0_findError_50 : decode cX0_findError 50 = .ok (.ireturn, 1) := by decide +kernel
theorem dX0_findError_51 : decode cX0_findError 51 = .ok (.iinc 1 1, 3) := by decide +kernel
theorem dX0_findError_54 : decode cX0_findError 54 = .ok (.goto (-48), 3) := by decide +kernel
theorem dX0_findError_57 : decode cX0_findError 57 = .ok (.aload_n 0, 1) := by decide +kernel
theorem dX0_findError_58 : decode cX0_findError 58 = .ok (.getfield 19, 3) := by decide +kernel
theorem dX0_findError_61 : decode cX0_findError 61 = .ok (.ireturn, 1) := by decide +kernel
theorem dX0_readCommand_0 : decode cX0_readCommand 0 = .ok (.aload_n 0, 1) := by decide +kernel
theorem dX0_readCommand_1 : decode cX0_readCommand 1 = .ok (.aload_n 0, 1) := by decide +kernel
theorem dX0_readCommand_2 : decode cX0_readCommand 2 = .ok (.invokevirtual 48, 3) := by decide +kernel
theorem dX0_readCommand_5 : decode cX0_readCommand 5 = .ok (.putfield 22, 3) := by decide +kernel
theorem dX0_readCommand_8 : decode cX0_readCommand 8 = .ok (.aload_n 0, 1) := by decide +kernel
theorem dX0_readCommand_9 : decode cX0_readCommand 9 = .ok (.getfield 22, 3) := by decide +kernel
theorem dX0_readCommand_12 : decode cX0_readCommand 12 = .ok (.lookupswitch 115 #[(99, 64), (100, 103), (114, 52), (116, 70), (119, 58)], 52) := by decide +kernel
theorem dX0_readCommand_64 : decode cX0_readCommand 64 = .ok (.aload_n 0, 1) := by decide +kernel
theorem dX0_readCommand_65 : decode cX0_readCommand 65 = .ok (.iconst 0, 1) := by decide +kernel
theorem dX0_readCommand_66 : decode cX0_readCommand 66 = .ok (.invokevirtual 52, 3) := by decide +kernel
theorem dX0_readCommand_69 : decode cX0_readCommand 69 = .ok (.ireturn, 1) := by decide +kernel
theorem dX0_readCommand_70 : decode cX0_readCommand 70 = .ok (.aload_n 0, 1) := by decide +kernel
theorem dX0_readCommand_71 : decode cX0_readCommand 71 = .ok (.iconst 1, 1) := by decide +kernel
theorem dX0_readCommand_72 : decode cX0_readCommand 72 = .ok (.invokevirtual 52, 3) := by decide +kernel
theorem dX0_readCommand_75 : decode cX0_readCommand 75 = .ok (.ireturn, 1) := by decide +kernel
theorem dX0_readCommand_76 : decode cX0_readCommand 76 = .ok (.aload_n 0, 1) := by decide +kernel
theorem dX0_readCommand_77 : decode cX0_readCommand 77 = .ok (.iconst 2, 1) := by decide +kernel
theorem dX0_readCommand_78 : decode cX0_readCommand 78 = .ok (.invokevirtual 52, 3) := by decide +kernel
theorem dX0_readCommand_81 : decode cX0_readCommand 81 = .ok (.ireturn, 1) := by decide +kernel
theorem dX0_readCommand_82 : decode cX0_readCommand 82 = .ok (.aload_n 0, 1) := by decide +kernel
theorem dX0_readCommand_83 : decode cX0_readCommand 83 = .ok (.dup, 1) := by decide +kernel
theorem dX0_readCommand_84 : decode cX0_readCommand 84 = .ok (.getfield 19, 3) := by decide +kernel
theorem dX0_readCommand_87 : decode cX0_readCommand 87 = .ok (.iconst 1, 1) := by decide +kernel
theorem dX0_readCommand_88 : decode cX0_readCommand 88 = .ok (.iadd, 1) := by decide +kernel
theorem dX0_readCommand_89 : decode cX0_readCommand 89 = .ok (.putfield 19, 3) := by decide +kernel
theorem dX0_readCommand_92 : decode cX0_readCommand 92 = .ok (.aload_n 0, 1) := by decide +kernel
theorem dX0_readCommand_93 : decode cX0_readCommand 93 = .ok (.aload_n 0, 1) := by decide +kernel
theorem dX0_readCommand_94 : decode cX0_readCommand 94 = .ok (.bipush 99, 2) := by decide +kernel
theorem dX0_readCommand_96 : decode cX0_readCommand 96 = .ok (.invokevirtual 56, 3) := by decide +kernel
theorem dX0_readCommand_99 : decode cX0_readCommand 99 = .ok (.putfield 31, 3) := by decide +kernel
theorem dX0_readCommand_102 : decode cX0_readCommand 102 = .ok (.aload_n 0, 1) := by decide +kernel
theorem dX0_readCommand_103 : decode cX0_readCommand 103 = .ok (.getfield 31, 3) := by decide +kernel
theorem dX0_readCommand_106 : decode cX0_readCommand 106 = .ok (.ifCond .le 7, 3) := by decide +kernel
theorem dX0_readCommand_109 : decode cX0_readCommand 109 = .ok (.iconst 1, 1) := by decide +kernel
theorem dX0_readCommand_110 : decode cX0_readCommand 110 = .ok (.goto 4, 3) := by decide +kernel
theorem dX0_readCommand_113 : decode cX0_readCommand 113 = .ok (.iconst 0, 1) := by decide +kernel
theorem dX0_readCommand_114 : decode cX0_readCommand 114 = .ok (.ireturn, 1) := by decide +kernel
theorem dX0_readCommand_115 : decode cX0_readCommand 115 = .ok (.aload_n 0, 1) := by decide +kernel
theorem dX0_readCommand_116 : decode cX0_readCommand 116 = .ok (.dup, 1) := by decide +kernel
theorem dX0_readCommand_117 : decode cX0_readCommand 117 = .ok (.getfield 19, 3) := by decide +kernel
theorem dX0_readCommand_120 : decode cX0_readCommand 120 = .ok (.iconst 1, 1) := by decide +kernel
theorem dX0_readCommand_121 : decode cX0_readCommand 121 = .ok (.iadd, 1) := by decide +kernel
theorem dX0_readCommand_122 : decode cX0_readCommand 122 = .ok (.putfield 19, 3) := by decide +kernel
theorem dX0_readCommand_125 : decode cX0_readCommand 125 = .ok (.iconst 1, 1) := by decide +kernel
theorem dX0_readCommand_126 : decode cX0_readCommand 126 = .ok (.ireturn, 1) := by decide +kernel
theorem dX0_readCommand_127 : decode cX0_readCommand 127 = .ok (.iconst 0, 1) := by decide +kernel
theorem dX0_readCommand_128 : decode cX0_readCommand 128 = .ok (.ireturn, 1) := by decide +kernel
theorem dX0_readSubmission_0 : decode cX0_readSubmission 0 = .ok (.aload_n 0, 1) := by decide +kernel
theorem dX0_readSubmission_1 : decode cX0_readSubmission 1 = .ok (.dup, 1) := by decide +kernel
theorem dX0_readSubmission_2 : decode cX0_readSubmission 2 = .ok (.getfield 19, 3) := by decide +kernel
theorem dX0_readSubmission_5 : decode cX0_readSubmission 5 = .ok (.iconst 1, 1) := by decide +kernel
theorem dX0_readSubmission_6 : decode cX0_readSubmission 6 = .ok (.iadd, 1) := by decide +kernel
theorem dX0_readSubmission_7 : decode cX0_readSubmission 7 = .ok (.putfield 19, 3) := by decide +kernel
theorem dX0_readSubmission_10 : decode cX0_readSubmission 10 = .ok (.aload_n 0, 1) := by decide +kernel
theorem dX0_readSubmission_11 : decode cX0_readSubmission 11 = .ok (.iload_n 1, 1) := by decide +kernel
theorem dX0_readSubmission_12 : decode cX0_readSubmission 12 = .ok (.putfield 25, 3) := by decide +kernel
theorem dX0_readSubmission_15 : decode cX0_readSubmission 15 = .ok (.aload_n 0, 1) := by decide +kernel
theorem dX0_readSubmission_16 : decode cX0_readSubmission 16 = .ok (.aload_n 0, 1) := by decide +kernel
theorem dX0_readSubmission_17 : decode cX0_readSubmission 17 = .ok (.bipush 99, 2) := by decide +kernel
theorem dX0_readSubmission_19 : decode cX0_readSubmission 19 = .ok (.invokevirtual 56, 3) := by decide +kernel
theorem dX0_readSubmission_22 : decode cX0_readSubmission 22 = .ok (.putfield 28, 3) := by decide +kernel
theorem dX0_readSubmission_25 : decode cX0_readSubmission 25 = .ok (.aload_n 0, 1) := by decide +kernel
theorem dX0_readSubmission_26 : decode cX0_readSubmission 26 = .ok (.getfield 28, 3) := by decide +kernel
theorem dX0_readSubmission_29 : decode cX0_readSubmission 29 = .ok (.ifCond .eq 12, 3) := by decide +kernel
theorem dX0_readSubmission_32 : decode cX0_readSubmission 32 = .ok (.aload_n 0, 1) := by decide +kernel
theorem dX0_readSubmission_33 : decode cX0_readSubmission 33 = .ok (.bipush 42, 2) := by decide +kernel
theorem dX0_readSubmission_35 : decode cX0_readSubmission 35 = .ok (.invokevirtual 44, 3) := by decide +kernel
theorem dX0_readSubmission_38 : decode cX0_readSubmission 38 = .ok (.ifCond .ne 5, 3) := by decide +kernel
theorem dX0_readSubmission_41 : decode cX0_readSubmission 41 = .ok (.iconst 0, 1) := by decide +kernel
theorem dX0_readSubmission_42 : decode cX0_readSubmission 42 = .ok (.ireturn, 1) := by decide +kernel
theorem dX0_readSubmission_43 : decode cX0_readSubmission 43 = .ok (.aload_n 0, 1) := by decide +kernel
theorem dX0_readSubmission_44 : decode cX0_readSubmission 44 = .ok (.aload_n 0, 1) := by decide +kernel
theorem dX0_readSubmission_45 : decode cX0_readSubmission 45 = .ok (.bipush 20, 2) := by decide +kernel
theorem dX0_readSubmission_47 : decode cX0_readSubmission 47 = .ok (.invokevirtual 56, 3) := by decide +kernel
theorem dX0_readSubmission_50 : decode cX0_readSubmission 50 = .ok (.putfield 31, 3) := by decide +kernel
theorem dX0_readSubmission_53 : decode cX0_readSubmission 53 = .ok (.aload_n 0, 1) := by decide +kernel
theorem dX0_readSubmission_54 : decode cX0_readSubmission 54 = .ok (.iconst 0, 1) := by decide +kernel
theorem dX0_readSubmission_55 : decode cX0_readSubmission 55 = .ok (.putfield 34, 3) := by decide +kernel
theorem dX0_readSubmission_58 : decode cX0_readSubmission 58 = .ok (.aload_n 0, 1) := by decide +kernel
theorem dX0_readSubmission_59 : decode cX0_readSubmission 59 = .ok (.getfield 31, 3) := by decide +kernel
theorem dX0_readSubmission_62 : decode cX0_readSubmission 62 = .ok (.ifCond .le 23, 3) := by decide +kernel
theorem dX0_readSubmission_65 : decode cX0_readSubmission 65 = .ok (.aload_n 0, 1) := by decide +kernel
theorem dX0_readSubmission_66 : decode cX0_readSubmission 66 = .ok (.bipush 33, 2) := by decide +kernel
theorem dX0_readSubmission_68 : decode cX0_readSubmission 68 = .ok (.invokevirtual 44, 3) := by decide +kernel
theorem dX0_readSubmission_71 : decode cX0_readSubmission 71 = .ok (.ifCond .eq 10, 3) := by decide +kernel
theorem dX0_readSubmission_74 : decode cX0_readSubmission 74 = .ok (.aload_n 0, 1) := by decide +kernel
theorem dX0_readSubmission_75 : decode cX0_readSubmission 75 = .ok (.invokevirtual 60, 3) := by decide +kernel
theorem dX0_readSubmission_78 : decode cX0_readSubmission 78 = .ok (.ifCond .eq 7, 3) := by decide +kernel
theorem dX0_readSubmission_81 : decode cX0_readSubmission 81 = .ok (.iconst 1, 1) := by decide +kernel
theorem dX0_readSubmission_82 : decode cX0_readSubmission 82 = .ok (.goto 4, 3) := by decide +kernel
theorem dX0_readSubmission_85 : decode cX0_readSubmission 85 = .ok (.iconst 0, 1) := by decide +kernel
theorem dX0_readSubmission_86 : decode cX0_readSubmission 86 = .ok (.ireturn, 1) := by decide +kernel
theorem dX0_readPriority_0 : decode cX0_readPriority 0 = .ok (.aload_n 0, 1) := by decide +kernel
theorem dX0_readPriority_1 : decode cX0_readPriority 1 = .ok (.invokevirtual 63, 3) := by decide +kernel
theorem dX0_readPriority_4 : decode cX0_readPriority 4 = .ok (.istore_n 1, 1) := by decide +kernel
theorem dX0_readPriority_5 : decode cX0_readPriority 5 = .ok (.iload_n 1, 1) := by decide +kernel
theorem dX0_readPriority_6 : decode cX0_readPriority 6 = .ok (.iconst (-1), 1) := by decide +kernel
theorem dX0_readPriority_7 : decode cX0_readPriority 7 = .ok (.if_icmp .ne 5, 3) := by decide +kernel
theorem dX0_readPriority_10 : decode cX0_readPriority 10 = .ok (.iconst 0, 1) := by decide +kernel
theorem dX0_readPriority_11 : decode cX0_readPriority 11 = .ok (.ireturn, 1) := by decide +kernel
theorem dX0_readPriority_12 : decode cX0_readPriority 12 = .ok (.aload_n 0, 1) := by decide +kernel
theorem dX0_readPriority_13 : decode cX0_readPriority 13 = .ok (.iload_n 1, 1) := by decide +kernel
theorem dX0_readPriority_14 : decode cX0_readPriority 14 = .ok (.putfield 34, 3) := by decide +kernel
theorem dX0_readPriority_17 : decode cX0_readPriority 17 = .ok (.aload_n 0, 1) := by decide +kernel
theorem dX0_readPriority_18 : decode cX0_readPriority 18 = .ok (.dup, 1) := by decide +kernel
theorem dX0_readPriority_19 : decode cX0_readPriority 19 = .ok (.getfield 19, 3) := by decide +kernel
theorem dX0_readPriority_22 : decode cX0_readPriority 22 = .ok (.iconst 1, 1) := by decide +kernel
theorem dX0_readPriority_23 : decode cX0_readPriority 23 = .ok (.iadd, 1) := by decide +kernel
theorem dX0_readPriority_24 : decode cX0_readPriority 24 = .ok (.putfield 19, 3) := by decide +kernel
theorem dX0_readPriority_27 : decode cX0_readPriority 27 = .ok (.iconst 1, 1) := by decide +kernel
theorem dX0_readPriority_28 : decode cX0_readPriority 28 = .ok (.ireturn, 1) := by decide +kernel
theorem dX0_readNumber_0 : decode cX0_readNumber 0 = .ok (.iconst 0, 1) := by decide +kernel
theorem dX0_readNumber_1 : decode cX0_readNumber 1 = .ok (.istore_n 2, 1) := by decide +kernel
theorem dX0_readNumber_2 : decode cX0_readNumber 2 = .ok (.aload_n 0, 1) := by decide +kernel
theorem dX0_readNumber_3 : decode cX0_readNumber 3 = .ok (.getfield 19, 3) := by decide +kernel
theorem dX0_readNumber_6 : decode cX0_readNumber 6 = .ok (.aload_n 0, 1) := by decide +kernel
theorem dX0_readNumber_7 : decode cX0_readNumber 7 = .ok (.getfield 15, 3) := by decide +kernel
theorem dX0_readNumber_10 : decode cX0_readNumber 10 = .ok (.if_icmp .ge 51, 3) := by decide +kernel
theorem dX0_readNumber_13 : decode cX0_readNumber 13 = .ok (.aload_n 0, 1) := by decide +kernel
theorem dX0_readNumber_14 : decode cX0_readNumber 14 = .ok (.invokevirtual 63, 3) := by decide +kernel
theorem dX0_readNumber_17 : decode cX0_readNumber 17 = .ok (.istore_n 3, 1) := by decide +kernel
theorem dX0_readNumber_18 : decode cX0_readNumber 18 = .ok (.iload_n 2, 1) := by decide +kernel
theorem dX0_readNumber_19 : decode cX0_readNumber 19 = .ok (.bipush 10, 2) := by decide +kernel
theorem dX0_readNumber_21 : decode cX0_readNumber 21 = .ok (.imul, 1) := by decide +kernel
theorem dX0_readNumber_22 : decode cX0_readNumber 22 = .ok (.iload_n 3, 1) := by decide +kernel
theorem dX0_readNumber_23 : decode cX0_readNumber 23 = .ok (.iadd, 1) := by decide +kernel
theorem dX0_readNumber_24 : decode cX0_readNumber 24 = .ok (.istore 4, 2) := by decide +kernel
theorem dX0_readNumber_26 : decode cX0_readNumber 26 = .ok (.iload_n 3, 1) := by decide +kernel
theorem dX0_readNumber_27 : decode cX0_readNumber 27 = .ok (.iconst (-1), 1) := by decide +kernel
theorem dX0_readNumber_28 : decode cX0_readNumber 28 = .ok (.if_icmp .eq 33, 3) := by decide +kernel
theorem dX0_readNumber_31 : decode cX0_readNumber 31 = .ok (.iload 4, 2) := by decide +kernel
theorem dX0_readNumber_33 : decode cX0_readNumber 33 = .ok (.ifCond .eq 28, 3) := by decide +kernel
theorem dX0_readNumber_36 : decode cX0_readNumber 36 = .ok (.iload 4, 2) := by decide +kernel
theorem dX0_readNumber_38 : decode cX0_readNumber 38 = .ok (.iload_n 1, 1) := by decide +kernel
theorem dX0_readNumber_39 : decode cX0_readNumber 39 = .ok (.if_icmp .le 6, 3) := by decide +kernel
theorem dX0_readNumber_42 : decode cX0_readNumber 42 = .ok (.goto 19, 3) := by decide +kernel
theorem dX0_readNumber_45 : decode cX0_readNumber 45 = .ok (.iload 4, 2) := by decide +kernel
theorem dX0_readNumber_47 : decode cX0_readNumber 47 = .ok (.istore_n 2, 1) := by decide +kernel
theorem dX0_readNumber_48 : decode cX0_readNumber 48 = .ok (.aload_n 0, 1) := by decide +kernel
theorem dX0_readNumber_49 : decode cX0_readNumber 49 = .ok (.dup, 1) := by decide +kernel
theorem dX0_readNumber_50 : decode cX0_readNumber 50 = .ok (.getfield 19, 3) := by decide +kernel
theorem dX0_readNumber_53 : decode cX0_readNumber 53 = .ok (.iconst 1, 1) := by decide +kernel
theorem dX0_readNumber_54 : decode cX0_readNumber 54 = .ok (.iadd, 1) := by decide +kernel
theorem dX0_readNumber_55 : decode cX0_readNumber 55 = .ok (.putfield 19, 3) := by decide +kernel
theorem dX0_readNumber_58 : decode cX0_readNumber 58 = .ok (.goto (-56), 3) := by decide +kernel
theorem dX0_readNumber_61 : decode cX0_readNumber 61 = .ok (.iload_n 2, 1) := by decide +kernel
theorem dX0_readNumber_62 : decode cX0_readNumber 62 = .ok (.ireturn, 1) := by decide +kernel
theorem dX0_skip_0 : decode cX0_skip 0 = .ok (.aload_n 0, 1) := by decide +kernel
theorem dX0_skip_1 : decode cX0_skip 1 = .ok (.invokevirtual 48, 3) := by decide +kernel
theorem dX0_skip_4 : decode cX0_skip 4 = .ok (.iload_n 1, 1) := by decide +kernel
theorem dX0_skip_5 : decode cX0_skip 5 = .ok (.if_icmp .eq 5, 3) := by decide +kernel
theorem dX0_skip_8 : decode cX0_skip 8 = .ok (.iconst 0, 1) := by decide +kernel
theorem dX0_skip_9 : decode cX0_skip 9 = .ok (.ireturn, 1) := by decide +kernel
theorem dX0_skip_10 : decode cX0_skip 10 = .ok (.aload_n 0, 1) := by decide +kernel
theorem dX0_skip_11 : decode cX0_skip 11 = .ok (.dup, 1) := by decide +kernel
theorem dX0_skip_12 : decode cX0_skip 12 = .ok (.getfield 19, 3) := by decide +kernel
theorem dX0_skip_15 : decode cX0_skip 15 = .ok (.iconst 1, 1) := by decide +kernel
theorem dX0_skip_16 : decode cX0_skip 16 = .ok (.iadd, 1) := by decide +kernel
theorem dX0_skip_17 : decode cX0_skip 17 = .ok (.putfield 19, 3) := by decide +kernel
theorem dX0_skip_20 : decode cX0_skip 20 = .ok (.iconst 1, 1) := by decide +kernel
theorem dX0_skip_21 : decode cX0_skip 21 = .ok (.ireturn, 1) := by decide +kernel
theorem dX0_digitHere_0 : decode cX0_digitHere 0 = .ok (.aload_n 0, 1) := by decide +kernel
theorem dX0_digitHere_1 : decode cX0_digitHere 1 = .ok (.invokevirtual 48, 3) := by decide +kernel
theorem dX0_digitHere_4 : decode cX0_digitHere 4 = .ok (.istore_n 1, 1) := by decide +kernel
theorem dX0_digitHere_5 : decode cX0_digitHere 5 = .ok (.iload_n 1, 1) := by decide +kernel
theorem dX0_digitHere_6 : decode cX0_digitHere 6 = .ok (.bipush 48, 2) := by decide +kernel
theorem dX0_digitHere_8 : decode cX0_digitHere 8 = .ok (.bipush 57, 2) := by decide +kernel
theorem dX0_digitHere_10 : decode cX0_digitHere 10 = .ok (.invokestatic 66, 3) := by decide +kernel
theorem dX0_digitHere_13 : decode cX0_digitHere 13 = .ok (.ifCond .eq 10, 3) := by decide +kernel
theorem dX0_digitHere_16 : decode cX0_digitHere 16 = .ok (.iload_n 1, 1) := by decide +kernel
theorem dX0_digitHere_17 : decode cX0_digitHere 17 = .ok (.bipush 48, 2) := by decide +kernel
theorem dX0_digitHere_19 : decode cX0_digitHere 19 = .ok (.isub, 1) := by decide +kernel
theorem dX0_digitHere_20 : decode cX0_digitHere 20 = .ok (.goto 4, 3) := by decide +kernel
theorem dX0_digitHere_23 : decode cX0_digitHere 23 = .ok (.iconst (-1), 1) := by decide +kernel
theorem dX0_digitHere_24 : decode cX0_digitHere 24 = .ok (.ireturn, 1) := by decide +kernel
theorem dX0_characterHere_0 : decode cX0_characterHere 0 = .ok (.aload_n 0, 1) := by decide +kernel
theorem dX0_characterHere_1 : decode cX0_characterHere 1 = .ok (.getfield 19, 3) := by decide +kernel
theorem dX0_characterHere_4 : decode cX0_characterHere 4 = .ok (.iconst 0, 1) := by decide +kernel
theorem dX0_characterHere_5 : decode cX0_characterHere 5 = .ok (.aload_n 0, 1) := by decide +kernel
theorem dX0_characterHere_6 : decode cX0_characterHere 6 = .ok (.getfield 15, 3) := by decide +kernel
theorem dX0_characterHere_9 : decode cX0_characterHere 9 = .ok (.iconst 1, 1) := by decide +kernel
theorem dX0_characterHere_10 : decode cX0_characterHere 10 = .ok (.isub, 1) := by decide +kernel
theorem dX0_characterHere_11 : decode cX0_characterHere 11 = .ok (.invokestatic 66, 3) := by decide +kernel
theorem dX0_characterHere_14 : decode cX0_characterHere 14 = .ok (.ifCond .eq 15, 3) := by decide +kernel
theorem dX0_characterHere_17 : decode cX0_characterHere 17 = .ok (.aload_n 0, 1) := by decide +kernel
theorem dX0_characterHere_18 : decode cX0_characterHere 18 = .ok (.getfield 9, 3) := by decide +kernel
theorem dX0_characterHere_21 : decode cX0_characterHere 21 = .ok (.aload_n 0, 1) := by decide +kernel
theorem dX0_characterHere_22 : decode cX0_characterHere 22 = .ok (.getfield 19, 3) := by decide +kernel
theorem dX0_characterHere_25 : decode cX0_characterHere 25 = .ok (.iaload, 1) := by decide +kernel
theorem dX0_characterHere_26 : decode cX0_characterHere 26 = .ok (.goto 4, 3) := by decide +kernel
theorem dX0_characterHere_29 : decode cX0_characterHere 29 = .ok (.iconst (-1), 1) := by decide +kernel
theorem dX0_characterHere_30 : decode cX0_characterHere 30 = .ok (.ireturn, 1) := by decide +kernel
theorem dX1_init_0 : decode cX1_init 0 = .ok (.aload_n 0, 1) := by decide +kernel
theorem dX1_init_1 : decode cX1_init 1 = .ok (.invokespecial 3, 3) := by decide +kernel
theorem dX1_init_4 : decode cX1_init 4 = .ok (.aload_n 0, 1) := by decide +kernel
theorem dX1_init_5 : decode cX1_init 5 = .ok (.bipush 6, 2) := by decide +kernel
theorem dX1_init_7 : decode cX1_init 7 = .ok (.anewarray 9, 3) := by decide +kernel
theorem dX1_init_10 : decode cX1_init 10 = .ok (.putfield 11, 3) := by decide +kernel
theorem dX1_init_13 : decode cX1_init 13 = .ok (.aload_n 0, 1) := by decide +kernel
theorem dX1_init_14 : decode cX1_init 14 = .ok (.iconst 0, 1) := by decide +kernel
theorem dX1_init_15 : decode cX1_init 15 = .ok (.putfield 17, 3) := by decide +kernel
theorem dX1_init_18 : decode cX1_init 18 = .ok (.aload_n 0, 1) := by decide +kernel
theorem dX1_init_19 : decode cX1_init 19 = .ok (.iconst 0, 1) := by decide +kernel
theorem dX1_init_20 : decode cX1_init 20 = .ok (.putfield 21, 3) := by decide +kernel
theorem dX1_init_23 : decode cX1_init 23 = .ok (.iconst 0, 1) := by decide +kernel
theorem dX1_init_24 : decode cX1_init 24 = .ok (.istore_n 1, 1) := by decide +kernel
theorem dX1_init_25 : decode cX1_init 25 = .ok (.iload_n 1, 1) := by decide +kernel
theorem dX1_init_26 : decode cX1_init 26 = .ok (.bipush 6, 2) := by decide +kernel
theorem dX1_init_28 : decode cX1_init 28 = .ok (.if_icmp .ge 22, 3) := by decide +kernel
theorem dX1_init_31 : decode cX1_init 31 = .ok (.aload_n 0, 1) := by decide +kernel
theorem dX1_init_32 : decode cX1_init 32 = .ok (.getfield 11, 3) := by decide +kernel
theorem dX1_init_35 : decode cX1_init 35 = .ok (.iload_n 1, 1) := by decide +kernel
theorem dX1_init_36 : decode cX1_init 36 = .ok (.new 9, 3) := by decide +kernel
theorem dX1_init_39 : decode cX1_init 39 = .ok (.dup, 1) := by decide +kernel
theorem dX1_init_40 : decode cX1_init 40 = .ok (.invokespecial 24, 3) := by decide +kernel
theorem dX1_init_43 : decode cX1_init 43 = .ok (.aastore, 1) := by decide +kernel
theorem dX1_init_44 : decode cX1_init 44 = .ok (.iinc 1 1, 3) := by decide +kernel
theorem dX1_init_47 : decode cX1_init 47 = .ok (.goto (-22), 3) := by decide +kernel
theorem dX1_init_50 : decode cX1_init 50 = .ok (.return_, 1) := by decide +kernel
theorem dX1_save_0 : decode cX1_save 0 = .ok (.aload_n 0, 1) := by decide +kernel
theorem dX1_save_1 : decode cX1_save 1 = .ok (.getfield 11, 3) := by decide +kernel
theorem dX1_save_4 : decode cX1_save 4 = .ok (.aload_n 0, 1) := by decide +kernel
theorem dX1_save_5 : decode cX1_save 5 = .ok (.getfield 21, 3) := by decide +kernel
theorem dX1_save_8 : decode cX1_save 8 = .ok (.aaload, 1) := by decide +kernel
theorem dX1_save_9 : decode cX1_save 9 = .ok (.astore_n 2, 1) := by decide +kernel
theorem dX1_save_10 : decode cX1_save 10 = .ok (.aload_n 2, 1) := by decide +kernel
theorem dX1_save_11 : decode cX1_save 11 = .ok (.ifnonnull 4, 3) := by decide +kernel
theorem dX1_save_14 : decode cX1_save 14 = .ok (.return_, 1) := by decide +kernel
theorem dX1_save_15 : decode cX1_save 15 = .ok (.aload_n 2, 1) := by decide +kernel
theorem dX1_save_16 : decode cX1_save 16 = .ok (.aload_n 1, 1) := by decide +kernel
theorem dX1_save_17 : decode cX1_save 17 = .ok (.invokevirtual 25, 3) := by decide +kernel
theorem dX1_save_20 : decode cX1_save 20 = .ok (.aload_n 0, 1) := by decide +kernel
theorem dX1_save_21 : decode cX1_save 21 = .ok (.aload_n 0, 1) := by decide +kernel
theorem dX1_save_22 : decode cX1_save 22 = .ok (.getfield 21, 3) := by decide +kernel
theorem dX1_save_25 : decode cX1_save 25 = .ok (.iconst 1, 1) := by decide +kernel
theorem dX1_save_26 : decode cX1_save 26 = .ok (.iadd, 1) := by decide +kernel
theorem dX1_save_27 : decode cX1_save 27 = .ok (.bipush 6, 2) := by decide +kernel
theorem dX1_save_29 : decode cX1_save 29 = .ok (.invokestatic 29, 3) := by decide +kernel
theorem dX1_save_32 : decode cX1_save 32 = .ok (.putfield 21, 3) := by decide +kernel
theorem dX1_save_35 : decode cX1_save 35 = .ok (.aload_n 0, 1) := by decide +kernel
theorem dX1_save_36 : decode cX1_save 36 = .ok (.getfield 17, 3) := by decide +kernel
theorem dX1_save_39 : decode cX1_save 39 = .ok (.bipush 6, 2) := by decide +kernel
theorem dX1_save_41 : decode cX1_save 41 = .ok (.if_icmp .ge 13, 3) := by decide +kernel
theorem dX1_save_44 : decode cX1_save 44 = .ok (.aload_n 0, 1) := by decide +kernel
theorem dX1_save_45 : decode cX1_save 45 = .ok (.dup, 1) := by decide +kernel
theorem dX1_save_46 : decode cX1_save 46 = .ok (.getfield 17, 3) := by decide +kernel
theorem dX1_save_49 : decode cX1_save 49 = .ok (.iconst 1, 1) := by decide +kernel
theorem dX1_save_50 : decode cX1_save 50 = .ok (.iadd, 1) := by decide +kernel
theorem dX1_save_51 : decode cX1_save 51 = .ok (.putfield 17, 3) := by decide +kernel
theorem dX1_save_54 : decode cX1_save 54 = .ok (.return_, 1) := by decide +kernel
theorem dX1_restore_0 : decode cX1_restore 0 = .ok (.aload_n 0, 1) := by decide +kernel
theorem dX1_restore_1 : decode cX1_restore 1 = .ok (.aload_n 0, 1) := by decide +kernel
theorem dX1_restore_2 : decode cX1_restore 2 = .ok (.getfield 21, 3) := by decide +kernel
theorem dX1_restore_5 : decode cX1_restore 5 = .ok (.iconst 1, 1) := by decide +kernel
theorem dX1_restore_6 : decode cX1_restore 6 = .ok (.isub, 1) := by decide +kernel
theorem dX1_restore_7 : decode cX1_restore 7 = .ok (.bipush 6, 2) := by decide +kernel
theorem dX1_restore_9 : decode cX1_restore 9 = .ok (.invokestatic 29, 3) := by decide +kernel
theorem dX1_restore_12 : decode cX1_restore 12 = .ok (.putfield 21, 3) := by decide +kernel
theorem dX1_restore_15 : decode cX1_restore 15 = .ok (.aload_n 0, 1) := by decide +kernel
theorem dX1_restore_16 : decode cX1_restore 16 = .ok (.dup, 1) := by decide +kernel
theorem dX1_restore_17 : decode cX1_restore 17 = .ok (.getfield 17, 3) := by decide +kernel
theorem dX1_restore_20 : decode cX1_restore 20 = .ok (.iconst 1, 1) := by decide +kernel
theorem dX1_restore_21 : decode cX1_restore 21 = .ok (.isub, 1) := by decide +kernel
theorem dX1_restore_22 : decode cX1_restore 22 = .ok (.putfield 17, 3) := by decide +kernel
theorem dX1_restore_25 : decode cX1_restore 25 = .ok (.aload_n 0, 1) := by decide +kernel
theorem dX1_restore_26 : decode cX1_restore 26 = .ok (.getfield 11, 3) := by decide +kernel
theorem dX1_restore_29 : decode cX1_restore 29 = .ok (.aload_n 0, 1) := by decide +kernel
theorem dX1_restore_30 : decode cX1_restore 30 = .ok (.getfield 21, 3) := by decide +kernel
theorem dX1_restore_33 : decode cX1_restore 33 = .ok (.aaload, 1) := by decide +kernel
theorem dX1_restore_34 : decode cX1_restore 34 = .ok (.astore_n 2, 1) := by decide +kernel
theorem dX1_restore_35 : decode cX1_restore 35 = .ok (.aload_n 2, 1) := by decide +kernel
theorem dX1_restore_36 : decode cX1_restore 36 = .ok (.ifnull 8, 3) := by decide +kernel
theorem dX1_restore_39 : decode cX1_restore 39 = .ok (.aload_n 1, 1) := by decide +kernel
theorem dX1_restore_40 : decode cX1_restore 40 = .ok (.aload_n 2, 1) := by decide +kernel
theorem dX1_restore_41 : decode cX1_restore 41 = .ok (.invokevirtual 25, 3) := by decide +kernel
theorem dX1_restore_44 : decode cX1_restore 44 = .ok (.return_, 1) := by decide +kernel
theorem dX2_init_0 : decode cX2_init 0 = .ok (.aload_n 0, 1) := by decide +kernel
theorem dX2_init_1 : decode cX2_init 1 = .ok (.invokespecial 3, 3) := by decide +kernel
theorem dX2_init_4 : decode cX2_init 4 = .ok (.aload_n 0, 1) := by decide +kernel
theorem dX2_init_5 : decode cX2_init 5 = .ok (.bipush 12, 2) := by decide +kernel
theorem dX2_init_7 : decode cX2_init 7 = .ok (.newarray .int, 2) := by decide +kernel
theorem dX2_init_9 : decode cX2_init 9 = .ok (.putfield 9, 3) := by decide +kernel
theorem dX2_init_12 : decode cX2_init 12 = .ok (.aload_n 0, 1) := by decide +kernel
theorem dX2_init_13 : decode cX2_init 13 = .ok (.bipush 12, 2) := by decide +kernel
theorem dX2_init_15 : decode cX2_init 15 = .ok (.newarray .int, 2) := by decide +kernel
theorem dX2_init_17 : decode cX2_init 17 = .ok (.putfield 15, 3) := by decide +kernel
theorem dX2_init_20 : decode cX2_init 20 = .ok (.aload_n 0, 1) := by decide +kernel
theorem dX2_init_21 : decode cX2_init 21 = .ok (.bipush 12, 2) := by decide +kernel
theorem dX2_init_23 : decode cX2_init 23 = .ok (.newarray .int, 2) := by decide +kernel
theorem dX2_init_25 : decode cX2_init 25 = .ok (.putfield 18, 3) := by decide +kernel
theorem dX2_init_28 : decode cX2_init 28 = .ok (.aload_n 0, 1) := by decide +kernel
theorem dX2_init_29 : decode cX2_init 29 = .ok (.bipush 12, 2) := by decide +kernel
theorem dX2_init_31 : decode cX2_init 31 = .ok (.newarray .int, 2) := by decide +kernel
theorem dX2_init_33 : decode cX2_init 33 = .ok (.putfield 21, 3) := by decide +kernel
theorem dX2_init_36 : decode cX2_init 36 = .ok (.aload_n 0, 1) := by decide +kernel
theorem dX2_init_37 : decode cX2_init 37 = .ok (.bipush 12, 2) := by decide +kernel
theorem dX2_init_39 : decode cX2_init 39 = .ok (.newarray .int, 2) := by decide +kernel
theorem dX2_init_41 : decode cX2_init 41 = .ok (.putfield 24, 3) := by decide +kernel
theorem dX2_init_44 : decode cX2_init 44 = .ok (.aload_n 0, 1) := by decide +kernel
theorem dX2_init_45 : decode cX2_init 45 = .ok (.bipush 12, 2) := by decide +kernel
theorem dX2_init_47 : decode cX2_init 47 = .ok (.newarray .int, 2) := by decide +kernel
theorem dX2_init_49 : decode cX2_init 49 = .ok (.putfield 27, 3) := by decide +kernel
theorem dX2_init_52 : decode cX2_init 52 = .ok (.aload_n 0, 1) := by decide +kernel
theorem dX2_init_53 : decode cX2_init 53 = .ok (.bipush 12, 2) := by decide +kernel
theorem dX2_init_55 : decode cX2_init 55 = .ok (.newarray .int, 2) := by decide +kernel
theorem dX2_init_57 : decode cX2_init 57 = .ok (.putfield 30, 3) := by decide +kernel
theorem dX2_init_60 : decode cX2_init 60 = .ok (.aload_n 0, 1) := by decide +kernel
theorem dX2_init_61 : decode cX2_init 61 = .ok (.bipush 12, 2) := by decide +kernel
theorem dX2_init_63 : decode cX2_init 63 = .ok (.newarray .int, 2) := by decide +kernel
theorem dX2_init_65 : decode cX2_init 65 = .ok (.putfield 33, 3) := by decide +kernel
theorem dX2_init_68 : decode cX2_init 68 = .ok (.aload_n 0, 1) := by decide +kernel
theorem dX2_init_69 : decode cX2_init 69 = .ok (.iconst 0, 1) := by decide +kernel
theorem dX2_init_70 : decode cX2_init 70 = .ok (.putfield 36, 3) := by decide +kernel
theorem dX2_init_73 : decode cX2_init 73 = .ok (.return_, 1) := by decide +kernel
theorem dX2_copyFrom_0 : decode cX2_copyFrom 0 = .ok (.aload_n 1, 1) := by decide +kernel
theorem dX2_copyFrom_1 : decode cX2_copyFrom 1 = .ok (.getfield 9, 3) := by decide +kernel
theorem dX2_copyFrom_4 : decode cX2_copyFrom 4 = .ok (.iconst 0, 1) := by decide +kernel
theorem dX2_copyFrom_5 : decode cX2_copyFrom 5 = .ok (.aload_n 0, 1) := by decide +kernel
theorem dX2_copyFrom_6 : decode cX2_copyFrom 6 = .ok (.getfield 9, 3) := by decide +kernel
theorem dX2_copyFrom_9 : decode cX2_copyFrom 9 = .ok (.iconst 0, 1) := by decide +kernel
theorem dX2_copyFrom_10 : decode cX2_copyFrom 10 = .ok (.bipush 12, 2) := by decide +kernel
theorem dX2_copyFrom_12 : decode cX2_copyFrom 12 = .ok (.invokestatic 40, 3) := by decide +kernel
theorem dX2_copyFrom_15 : decode cX2_copyFrom 15 = .ok (.aload_n 1, 1) := by decide +kernel
theorem dX2_copyFrom_16 : decode cX2_copyFrom 16 = .ok (.getfield 15, 3) := by decide +kernel
theorem dX2_copyFrom_19 : decode cX2_copyFrom 19 = .ok (.iconst 0, 1) := by decide +kernel
theorem dX2_copyFrom_20 : decode cX2_copyFrom 20 = .ok (.aload_n 0, 1) := by decide +kernel
theorem dX2_copyFrom_21 : decode cX2_copyFrom 21 = .ok (.getfield 15, 3) := by decide +kernel
theorem dX2_copyFrom_24 : decode cX2_copyFrom 24 = .ok (.iconst 0, 1) := by decide +kernel
theorem dX2_copyFrom_25 : decode cX2_copyFrom 25 = .ok (.bipush 12, 2) := by decide +kernel
theorem dX2_copyFrom_27 : decode cX2_copyFrom 27 = .ok (.invokestatic 40, 3) := by decide +kernel
theorem dX2_copyFrom_30 : decode cX2_copyFrom 30 = .ok (.aload_n 1, 1) := by decide +kernel
theorem dX2_copyFrom_31 : decode cX2_copyFrom 31 = .ok (.getfield 18, 3) := by decide +kernel
theorem dX2_copyFrom_34 : decode cX2_copyFrom 34 = .ok (.iconst 0, 1) := by decide +kernel
theorem dX2_copyFrom_35 : decode cX2_copyFrom 35 = .ok (.aload_n 0, 1) := by decide +kernel
theorem dX2_copyFrom_36 : decode cX2_copyFrom 36 = .ok (.getfield 18, 3) := by decide +kernel
theorem dX2_copyFrom_39 : decode cX2_copyFrom 39 = .ok (.iconst 0, 1) := by decide +kernel
theorem dX2_copyFrom_40 : decode cX2_copyFrom 40 = .ok (.bipush 12, 2) := by decide +kernel
theorem dX2_copyFrom_42 : decode cX2_copyFrom 42 = .ok (.invokestatic 40, 3) := by decide +kernel
theorem dX2_copyFrom_45 : decode cX2_copyFrom 45 = .ok (.aload_n 1, 1) := by decide +kernel
theorem dX2_copyFrom_46 : decode cX2_copyFrom 46 = .ok (.getfield 21, 3) := by decide +kernel
theorem dX2_copyFrom_49 : decode cX2_copyFrom 49 = .ok (.iconst 0, 1) := by decide +kernel
theorem dX2_copyFrom_50 : decode cX2_copyFrom 50 = .ok (.aload_n 0, 1) := by decide +kernel
theorem dX2_copyFrom_51 : decode cX2_copyFrom 51 = .ok (.getfield 21, 3) := by decide +kernel
theorem dX2_copyFrom_54 : decode cX2_copyFrom 54 = .ok (.iconst 0, 1) := by decide +kernel
theorem dX2_copyFrom_55 : decode cX2_copyFrom 55 = .ok (.bipush 12, 2) := by decide +kernel
theorem dX2_copyFrom_57 : decode cX2_copyFrom 57 = .ok (.invokestatic 40, 3) := by decide +kernel
theorem dX2_copyFrom_60 : decode cX2_copyFrom 60 = .ok (.aload_n 1, 1) := by decide +kernel
theorem dX2_copyFrom_61 : decode cX2_copyFrom 61 = .ok (.getfield 24, 3) := by decide +kernel
theorem dX2_copyFrom_64 : decode cX2_copyFrom 64 = .ok (.iconst 0, 1) := by decide +kernel
theorem dX2_copyFrom_65 : decode cX2_copyFrom 65 = .ok (.aload_n 0, 1) := by decide +kernel
theorem dX2_copyFrom_66 : decode cX2_copyFrom 66 = .ok (.getfield 24, 3) := by decide +kernel
theorem dX2_copyFrom_69 : decode cX2_copyFrom 69 = .ok (.iconst 0, 1) := by decide +kernel
theorem dX2_copyFrom_70 : decode cX2_copyFrom 70 = .ok (.bipush 12, 2) := by decide +kernel
theorem dX2_copyFrom_72 : decode cX2_copyFrom 72 = .ok (.invokestatic 40, 3) := by decide +kernel
theorem dX2_copyFrom_75 : decode cX2_copyFrom 75 = .ok (.aload_n 1, 1) := by decide +kernel
theorem dX2_copyFrom_76 : decode cX2_copyFrom 76 = .ok (.getfield 27, 3) := by decide +kernel
theorem dX2_copyFrom_79 : decode cX2_copyFrom 79 = .ok (.iconst 0, 1) := by decide +kernel
theorem dX2_copyFrom_80 : decode cX2_copyFrom 80 = .ok (.aload_n 0, 1) := by decide +kernel
theorem dX2_copyFrom_81 : decode cX2_copyFrom 81 = .ok (.getfield 27, 3) := by decide +kernel
theorem dX2_copyFrom_84 : decode cX2_copyFrom 84 = .ok (.iconst 0, 1) := by decide +kernel
theorem dX2_copyFrom_85 : decode cX2_copyFrom 85 = .ok (.bipush 12, 2) := by decide +kernel
theorem dX2_copyFrom_87 : decode cX2_copyFrom 87 = .ok (.invokestatic 40, 3) := by decide +kernel
theorem dX2_copyFrom_90 : decode cX2_copyFrom 90 = .ok (.aload_n 1, 1) := by decide +kernel
theorem dX2_copyFrom_91 : decode cX2_copyFrom 91 = .ok (.getfield 30, 3) := by decide +kernel
theorem dX2_copyFrom_94 : decode cX2_copyFrom 94 = .ok (.iconst 0, 1) := by decide +kernel
theorem dX2_copyFrom_95 : decode cX2_copyFrom 95 = .ok (.aload_n 0, 1) := by decide +kernel
theorem dX2_copyFrom_96 : decode cX2_copyFrom 96 = .ok (.getfield 30, 3) := by decide +kernel
theorem dX2_copyFrom_99 : decode cX2_copyFrom 99 = .ok (.iconst 0, 1) := by decide +kernel
theorem dX2_copyFrom_100 : decode cX2_copyFrom 100 = .ok (.bipush 12, 2) := by decide +kernel
theorem dX2_copyFrom_102 : decode cX2_copyFrom 102 = .ok (.invokestatic 40, 3) := by decide +kernel
theorem dX2_copyFrom_105 : decode cX2_copyFrom 105 = .ok (.aload_n 1, 1) := by decide +kernel
theorem dX2_copyFrom_106 : decode cX2_copyFrom 106 = .ok (.getfield 33, 3) := by decide +kernel
theorem dX2_copyFrom_109 : decode cX2_copyFrom 109 = .ok (.iconst 0, 1) := by decide +kernel
theorem dX2_copyFrom_110 : decode cX2_copyFrom 110 = .ok (.aload_n 0, 1) := by decide +kernel
theorem dX2_copyFrom_111 : decode cX2_copyFrom 111 = .ok (.getfield 33, 3) := by decide +kernel
theorem dX2_copyFrom_114 : decode cX2_copyFrom 114 = .ok (.iconst 0, 1) := by decide +kernel
theorem dX2_copyFrom_115 : decode cX2_copyFrom 115 = .ok (.bipush 12, 2) := by decide +kernel
theorem dX2_copyFrom_117 : decode cX2_copyFrom 117 = .ok (.invokestatic 40, 3) := by decide +kernel
theorem dX2_copyFrom_120 : decode cX2_copyFrom 120 = .ok (.aload_n 0, 1) := by decide +kernel
theorem dX2_copyFrom_121 : decode cX2_copyFrom 121 = .ok (.aload_n 1, 1) := by decide +kernel
theorem dX2_copyFrom_122 : decode cX2_copyFrom 122 = .ok (.getfield 36, 3) := by decide +kernel
theorem dX2_copyFrom_125 : decode cX2_copyFrom 125 = .ok (.putfield 36, 3) := by decide +kernel
theorem dX2_copyFrom_128 : decode cX2_copyFrom 128 = .ok (.return_, 1) := by decide +kernel
theorem dX2_has_0 : decode cX2_has 0 = .ok (.iload_n 1, 1) := by decide +kernel
theorem dX2_has_1 : decode cX2_has 1 = .ok (.iconst 0, 1) := by decide +kernel
theorem dX2_has_2 : decode cX2_has 2 = .ok (.aload_n 0, 1) := by decide +kernel
theorem dX2_has_3 : decode cX2_has 3 = .ok (.getfield 36, 3) := by decide +kernel
theorem dX2_has_6 : decode cX2_has 6 = .ok (.iconst 1, 1) := by decide +kernel
theorem dX2_has_7 : decode cX2_has 7 = .ok (.isub, 1) := by decide +kernel
theorem dX2_has_8 : decode cX2_has 8 = .ok (.invokestatic 46, 3) := by decide +kernel
theorem dX2_has_11 : decode cX2_has 11 = .ok (.ireturn, 1) := by decide +kernel
theorem dX2_isFull_0 : decode cX2_isFull 0 = .ok (.aload_n 0, 1) := by decide +kernel
theorem dX2_isFull_1 : decode cX2_isFull 1 = .ok (.getfield 36, 3) := by decide +kernel
theorem dX2_isFull_4 : decode cX2_isFull 4 = .ok (.bipush 12, 2) := by decide +kernel
theorem dX2_isFull_6 : decode cX2_isFull 6 = .ok (.if_icmp .lt 7, 3) := by decide +kernel
theorem dX2_isFull_9 : decode cX2_isFull 9 = .ok (.iconst 1, 1) := by decide +kernel
theorem dX2_isFull_10 : decode cX2_isFull 10 = .ok (.goto 4, 3) := by decide +kernel
theorem dX2_isFull_13 : decode cX2_isFull 13 = .ok (.iconst 0, 1) := by decide +kernel
theorem dX2_isFull_14 : decode cX2_isFull 14 = .ok (.ireturn, 1) := by decide +kernel
theorem dX2_add_0 : decode cX2_add 0 = .ok (.aload_n 0, 1) := by decide +kernel
theorem dX2_add_1 : decode cX2_add 1 = .ok (.invokevirtual 50, 3) := by decide +kernel
theorem dX2_add_4 : decode cX2_add 4 = .ok (.ifCond .eq 5, 3) := by decide +kernel
theorem dX2_add_7 : decode cX2_add 7 = .ok (.iconst (-1), 1) := by decide +kernel
theorem dX2_add_8 : decode cX2_add 8 = .ok (.ireturn, 1) := by decide +kernel
theorem dX2_add_9 : decode cX2_add 9 = .ok (.aload_n 0, 1) := by decide +kernel
theorem dX2_add_10 : decode cX2_add 10 = .ok (.getfield 36, 3) := by decide +kernel
theorem dX2_add_13 : decode cX2_add 13 = .ok (.istore 5, 2) := by decide +kernel
theorem dX2_add_15 : decode cX2_add 15 = .ok (.aload_n 0, 1) := by decide +kernel
theorem dX2_add_16 : decode cX2_add 16 = .ok (.dup, 1) := by decide +kernel
theorem dX2_add_17 : decode cX2_add 17 = .ok (.getfield 36, 3) := by decide +kernel
theorem dX2_add_20 : decode cX2_add 20 = .ok (.iconst 1, 1) := by decide +kernel
theorem dX2_add_21 : decode cX2_add 21 = .ok (.iadd, 1) := by decide +kernel
theorem dX2_add_22 : decode cX2_add 22 = .ok (.putfield 36, 3) := by decide +kernel
theorem dX2_add_25 : decode cX2_add 25 = .ok (.aload_n 0, 1) := by decide +kernel
theorem dX2_add_26 : decode cX2_add 26 = .ok (.getfield 9, 3) := by decide +kernel
theorem dX2_add_29 : decode cX2_add 29 = .ok (.iload 5, 2) := by decide +kernel
theorem dX2_add_31 : decode cX2_add 31 = .ok (.iload_n 1, 1) := by decide +kernel
theorem dX2_add_32 : decode cX2_add 32 = .ok (.iastore, 1) := by decide +kernel
theorem dX2_add_33 : decode cX2_add 33 = .ok (.aload_n 0, 1) := by decide +kernel
theorem dX2_add_34 : decode cX2_add 34 = .ok (.getfield 15, 3) := by decide +kernel
theorem dX2_add_37 : decode cX2_add 37 = .ok (.iload 5, 2) := by decide +kernel
theorem dX2_add_39 : decode cX2_add 39 = .ok (.iload_n 2, 1) := by decide +kernel
theorem dX2_add_40 : decode cX2_add 40 = .ok (.iastore, 1) := by decide +kernel
theorem dX2_add_41 : decode cX2_add 41 = .ok (.aload_n 0, 1) := by decide +kernel
theorem dX2_add_42 : decode cX2_add 42 = .ok (.getfield 18, 3) := by decide +kernel
theorem dX2_add_45 : decode cX2_add 45 = .ok (.iload 5, 2) := by decide +kernel
theorem dX2_add_47 : decode cX2_add 47 = .ok (.iload_n 3, 1) := by decide +kernel
theorem dX2_add_48 : decode cX2_add 48 = .ok (.iastore, 1) := by decide +kernel
theorem dX2_add_49 : decode cX2_add 49 = .ok (.aload_n 0, 1) := by decide +kernel
theorem dX2_add_50 : decode cX2_add 50 = .ok (.getfield 21, 3) := by decide +kernel
theorem dX2_add_53 : decode cX2_add 53 = .ok (.iload 5, 2) := by decide +kernel
theorem dX2_add_55 : decode cX2_add 55 = .ok (.iload 4, 2) := by decide +kernel
theorem dX2_add_57 : decode cX2_add 57 = .ok (.iastore, 1) := by decide +kernel
theorem dX2_add_58 : decode cX2_add 58 = .ok (.aload_n 0, 1) := by decide +kernel
theorem dX2_add_59 : decode cX2_add 59 = .ok (.getfield 24, 3) := by decide +kernel
theorem dX2_add_62 : decode cX2_add 62 = .ok (.iload 5, 2) := by decide +kernel
theorem dX2_add_64 : decode cX2_add 64 = .ok (.iconst 0, 1) := by decide +kernel
theorem dX2_add_65 : decode cX2_add 65 = .ok (.iastore, 1) := by decide +kernel
theorem dX2_add_66 : decode cX2_add 66 = .ok (.aload_n 0, 1) := by decide +kernel
theorem dX2_add_67 : decode cX2_add 67 = .ok (.getfield 27, 3) := by decide +kernel
theorem dX2_add_70 : decode cX2_add 70 = .ok (.iload 5, 2) := by decide +kernel
theorem dX2_add_72 : decode cX2_add 72 = .ok (.iconst 0, 1) := by decide +kernel
theorem dX2_add_73 : decode cX2_add 73 = .ok (.iastore, 1) := by decide +kernel
theorem dX2_add_74 : decode cX2_add 74 = .ok (.aload_n 0, 1) := by decide +kernel
theorem dX2_add_75 : decode cX2_add 75 = .ok (.getfield 30, 3) := by decide +kernel
theorem dX2_add_78 : decode cX2_add 78 = .ok (.iload 5, 2) := by decide +kernel
theorem dX2_add_80 : decode cX2_add 80 = .ok (.iconst (-1), 1) := by decide +kernel
theorem dX2_add_81 : decode cX2_add 81 = .ok (.iastore, 1) := by decide +kernel
theorem dX2_add_82 : decode cX2_add 82 = .ok (.aload_n 0, 1) := by decide +kernel
theorem dX2_add_83 : decode cX2_add 83 = .ok (.getfield 33, 3) := by decide +kernel
theorem dX2_add_86 : decode cX2_add 86 = .ok (.iload 5, 2) := by decide +kernel
theorem dX2_add_88 : decode cX2_add 88 = .ok (.iconst 0, 1) := by decide +kernel
theorem dX2_add_89 : decode cX2_add 89 = .ok (.iastore, 1) := by decide +kernel
theorem dX2_add_90 : decode cX2_add 90 = .ok (.iload 5, 2) := by decide +kernel
theorem dX2_add_92 : decode cX2_add 92 = .ok (.ireturn, 1) := by decide +kernel
theorem dX2_countIn_0 : decode cX2_countIn 0 = .ok (.iconst 0, 1) := by decide +kernel
theorem dX2_countIn_1 : decode cX2_countIn 1 = .ok (.istore_n 2, 1) := by decide +kernel
theorem dX2_countIn_2 : decode cX2_countIn 2 = .ok (.iconst 0, 1) := by decide +kernel
theorem dX2_countIn_3 : decode cX2_countIn 3 = .ok (.istore_n 3, 1) := by decide +kernel
theorem dX2_countIn_4 : decode cX2_countIn 4 = .ok (.iload_n 3, 1) := by decide +kernel
theorem dX2_countIn_5 : decode cX2_countIn 5 = .ok (.aload_n 0, 1) := by decide +kernel
theorem dX2_countIn_6 : decode cX2_countIn 6 = .ok (.getfield 36, 3) := by decide +kernel
theorem dX2_countIn_9 : decode cX2_countIn 9 = .ok (.if_icmp .ge 22, 3) := by decide +kernel
theorem dX2_countIn_12 : decode cX2_countIn 12 = .ok (.aload_n 0, 1) := by decide +kernel
theorem dX2_countIn_13 : decode cX2_countIn 13 = .ok (.getfield 24, 3) := by decide +kernel
theorem dX2_countIn_16 : decode cX2_countIn 16 = .ok (.iload_n 3, 1) := by decide +kernel
theorem dX2_countIn_17 : decode cX2_countIn 17 = .ok (.iaload, 1) := by decide +kernel
theorem dX2_countIn_18 : decode cX2_countIn 18 = .ok (.iload_n 1, 1) := by decide +kernel
theorem dX2_countIn_19 : decode cX2_countIn 19 = .ok (.if_icmp .ne 6, 3) := by decide +kernel
theorem dX2_countIn_22 : decode cX2_countIn 22 = .ok (.iinc 2 1, 3) := by decide +kernel
theorem dX2_countIn_25 : decode cX2_countIn 25 = .ok (.iinc 3 1, 3) := by decide +kernel
theorem dX2_countIn_28 : decode cX2_countIn 28 = .ok (.goto (-24), 3) := by decide +kernel
theorem dX2_countIn_31 : decode cX2_countIn 31 = .ok (.iload_n 2, 1) := by decide +kernel
theorem dX2_countIn_32 : decode cX2_countIn 32 = .ok (.ireturn, 1) := by decide +kernel
theorem dX2_wantedSticker_0 : decode cX2_wantedSticker 0 = .ok (.aload_n 0, 1) := by decide +kernel
theorem dX2_wantedSticker_1 : decode cX2_wantedSticker 1 = .ok (.getfield 9, 3) := by decide +kernel
theorem dX2_wantedSticker_4 : decode cX2_wantedSticker 4 = .ok (.iload_n 1, 1) := by decide +kernel
theorem dX2_wantedSticker_5 : decode cX2_wantedSticker 5 = .ok (.iaload, 1) := by decide +kernel
theorem dX2_wantedSticker_6 : decode cX2_wantedSticker 6 = .ok (.iconst 2, 1) := by decide +kernel
theorem dX2_wantedSticker_7 : decode cX2_wantedSticker 7 = .ok (.if_icmp .ne 7, 3) := by decide +kernel
theorem dX2_wantedSticker_10 : decode cX2_wantedSticker 10 = .ok (.iconst 0, 1) := by decide +kernel
theorem dX2_wantedSticker_11 : decode cX2_wantedSticker 11 = .ok (.goto 9, 3) := by decide +kernel
theorem dX2_wantedSticker_14 : decode cX2_wantedSticker 14 = .ok (.aload_n 0, 1) := by decide +kernel
theorem dX2_wantedSticker_15 : decode cX2_wantedSticker 15 = .ok (.getfield 15, 3) := by decide +kernel
theorem dX2_wantedSticker_18 : decode cX2_wantedSticker 18 = .ok (.iload_n 1, 1) := by decide +kernel
theorem dX2_wantedSticker_19 : decode cX2_wantedSticker 19 = .ok (.iaload, 1) := by decide +kernel
theorem dX2_wantedSticker_20 : decode cX2_wantedSticker 20 = .ok (.ireturn, 1) := by decide +kernel
theorem dX2_hasWaitingCreate_0 : decode cX2_hasWaitingCreate 0 = .ok (.iconst 0, 1) := by decide +kernel
theorem dX2_hasWaitingCreate_1 : decode cX2_hasWaitingCreate 1 = .ok (.istore_n 2, 1) := by decide +kernel
theorem dX2_hasWaitingCreate_2 : decode cX2_hasWaitingCreate 2 = .ok (.iload_n 2, 1) := by decide +kernel
theorem dX2_hasWaitingCreate_3 : decode cX2_hasWaitingCreate 3 = .ok (.aload_n 0, 1) := by decide +kernel
theorem dX2_hasWaitingCreate_4 : decode cX2_hasWaitingCreate 4 = .ok (.getfield 36, 3) := by decide +kernel
theorem dX2_hasWaitingCreate_7 : decode cX2_hasWaitingCreate 7 = .ok (.if_icmp .ge 40, 3) := by decide +kernel
theorem dX2_hasWaitingCreate_10 : decode cX2_hasWaitingCreate 10 = .ok (.aload_n 0, 1) := by decide +kernel
theorem dX2_hasWaitingCreate_11 : decode cX2_hasWaitingCreate 11 = .ok (.getfield 24, 3) := by decide +kernel
theorem dX2_hasWaitingCreate_14 : decode cX2_hasWaitingCreate 14 = .ok (.iload_n 2, 1) := by decide +kernel
theorem dX2_hasWaitingCreate_15 : decode cX2_hasWaitingCreate 15 = .ok (.iaload, 1) := by decide +kernel
theorem dX2_hasWaitingCreate_16 : decode cX2_hasWaitingCreate 16 = .ok (.ifCond .ne 25, 3) := by decide +kernel
theorem dX2_hasWaitingCreate_19 : decode cX2_hasWaitingCreate 19 = .ok (.aload_n 0, 1) := by decide +kernel
theorem dX2_hasWaitingCreate_20 : decode cX2_hasWaitingCreate 20 = .ok (.getfield 9, 3) := by decide +kernel
theorem dX2_hasWaitingCreate_23 : decode cX2_hasWaitingCreate 23 = .ok (.iload_n 2, 1) := by decide +kernel
theorem dX2_hasWaitingCreate_24 : decode cX2_hasWaitingCreate 24 = .ok (.iaload, 1) := by decide +kernel
theorem dX2_hasWaitingCreate_25 : decode cX2_hasWaitingCreate 25 = .ok (.iconst 2, 1) := by decide +kernel
theorem dX2_hasWaitingCreate_26 : decode cX2_hasWaitingCreate 26 = .ok (.if_icmp .ne 15, 3) := by decide +kernel
theorem dX2_hasWaitingCreate_29 : decode cX2_hasWaitingCreate 29 = .ok (.aload_n 0, 1) := by decide +kernel
theorem dX2_hasWaitingCreate_30 : decode cX2_hasWaitingCreate 30 = .ok (.getfield 15, 3) := by decide +kernel
theorem dX2_hasWaitingCreate_33 : decode cX2_hasWaitingCreate 33 = .ok (.iload_n 2, 1) := by decide +kernel
theorem dX2_hasWaitingCreate_34 : decode cX2_hasWaitingCreate 34 = .ok (.iaload, 1) := by decide +kernel
theorem dX2_hasWaitingCreate_35 : decode cX2_hasWaitingCreate 35 = .ok (.iload_n 1, 1) := by decide +kernel
theorem dX2_hasWaitingCreate_36 : decode cX2_hasWaitingCreate 36 = .ok (.if_icmp .ne 5, 3) := by decide +kernel
theorem dX2_hasWaitingCreate_39 : decode cX2_hasWaitingCreate 39 = .ok (.iconst 1, 1) := by decide +kernel
theorem dX2_hasWaitingCreate_40 : decode cX2_hasWaitingCreate 40 = .ok (.ireturn, 1) := by decide +kernel
theorem dX2_hasWaitingCreate_41 : decode cX2_hasWaitingCreate 41 = .ok (.iinc 2 1, 3) := by decide +kernel
theorem dX2_hasWaitingCreate_44 : decode cX2_hasWaitingCreate 44 = .ok (.goto (-42), 3) := by decide +kernel
theorem dX2_hasWaitingCreate_47 : decode cX2_hasWaitingCreate 47 = .ok (.iconst 0, 1) := by decide +kernel
theorem dX2_hasWaitingCreate_48 : decode cX2_hasWaitingCreate 48 = .ok (.ireturn, 1) := by decide +kernel
theorem dX3_init_0 : decode cX3_init 0 = .ok (.aload_n 0, 1) := by decide +kernel
theorem dX3_init_1 : decode cX3_init 1 = .ok (.invokespecial 3, 3) := by decide +kernel
theorem dX3_init_4 : decode cX3_init 4 = .ok (.aload_n 0, 1) := by decide +kernel
theorem dX3_init_5 : decode cX3_init 5 = .ok (.bipush 12, 2) := by decide +kernel
theorem dX3_init_7 : decode cX3_init 7 = .ok (.newarray .int, 2) := by decide +kernel
theorem dX3_init_9 : decode cX3_init 9 = .ok (.putfield 9, 3) := by decide +kernel
theorem dX3_init_12 : decode cX3_init 12 = .ok (.aload_n 0, 1) := by decide +kernel
theorem dX3_init_13 : decode cX3_init 13 = .ok (.bipush 12, 2) := by decide +kernel
theorem dX3_init_15 : decode cX3_init 15 = .ok (.newarray .int, 2) := by decide +kernel
theorem dX3_init_17 : decode cX3_init 17 = .ok (.putfield 15, 3) := by decide +kernel
theorem dX3_init_20 : decode cX3_init 20 = .ok (.aload_n 0, 1) := by decide +kernel
theorem dX3_init_21 : decode cX3_init 21 = .ok (.bipush 12, 2) := by decide +kernel
theorem dX3_init_23 : decode cX3_init 23 = .ok (.newarray .boolean, 2) := by decide +kernel
theorem dX3_init_25 : decode cX3_init 25 = .ok (.putfield 18, 3) := by decide +kernel
theorem dX3_init_28 : decode cX3_init 28 = .ok (.aload_n 0, 1) := by decide +kernel
theorem dX3_init_29 : decode cX3_init 29 = .ok (.bipush 12, 2) := by decide +kernel
theorem dX3_init_31 : decode cX3_init 31 = .ok (.newarray .int, 2) := by decide +kernel
theorem dX3_init_33 : decode cX3_init 33 = .ok (.putfield 22, 3) := by decide +kernel
theorem dX3_init_36 : decode cX3_init 36 = .ok (.aload_n 0, 1) := by decide +kernel
theorem dX3_init_37 : decode cX3_init 37 = .ok (.bipush 12, 2) := by decide +kernel
theorem dX3_init_39 : decode cX3_init 39 = .ok (.newarray .int, 2) := by decide +kernel
theorem dX3_init_41 : decode cX3_init 41 = .ok (.putfield 25, 3) := by decide +kernel
theorem dX3_init_44 : decode cX3_init 44 = .ok (.aload_n 0, 1) := by decide +kernel
theorem dX3_init_45 : decode cX3_init 45 = .ok (.bipush 12, 2) := by decide +kernel
theorem dX3_init_47 : decode cX3_init 47 = .ok (.newarray .int, 2) := by decide +kernel
theorem dX3_init_49 : decode cX3_init 49 = .ok (.putfield 28, 3) := by decide +kernel
theorem dX3_init_52 : decode cX3_init 52 = .ok (.iconst 0, 1) := by decide +kernel
theorem dX3_init_53 : decode cX3_init 53 = .ok (.istore_n 1, 1) := by decide +kernel
theorem dX3_init_54 : decode cX3_init 54 = .ok (.iload_n 1, 1) := by decide +kernel
theorem dX3_init_55 : decode cX3_init 55 = .ok (.bipush 12, 2) := by decide +kernel
theorem dX3_init_57 : decode cX3_init 57 = .ok (.if_icmp .ge 44, 3) := by decide +kernel
theorem dX3_init_60 : decode cX3_init 60 = .ok (.iload_n 1, 1) := by decide +kernel
theorem dX3_init_61 : decode cX3_init 61 = .ok (.bipush 6, 2) := by decide +kernel
theorem dX3_init_63 : decode cX3_init 63 = .ok (.if_icmp .ge 9, 3) := by decide +kernel
theorem dX3_init_66 : decode cX3_init 66 = .ok (.iload_n 1, 1) := by decide +kernel
theorem dX3_init_67 : decode cX3_init 67 = .ok (.iconst 1, 1) := by decide +kernel
theorem dX3_init_68 : decode cX3_init 68 = .ok (.iadd, 1) := by decide +kernel
theorem dX3_init_69 : decode cX3_init 69 = .ok (.goto 4, 3) := by decide +kernel
theorem dX3_init_72 : decode cX3_init 72 = .ok (.iconst 0, 1) := by decide +kernel
theorem dX3_init_73 : decode cX3_init 73 = .ok (.istore_n 2, 1) := by decide +kernel
theorem dX3_init_74 : decode cX3_init 74 = .ok (.aload_n 0, 1) := by decide +kernel
theorem dX3_init_75 : decode cX3_init 75 = .ok (.getfield 9, 3) := by decide +kernel
theorem dX3_init_78 : decode cX3_init 78 = .ok (.iload_n 1, 1) := by decide +kernel
theorem dX3_init_79 : decode cX3_init 79 = .ok (.iload_n 2, 1) := by decide +kernel
theorem dX3_init_80 : decode cX3_init 80 = .ok (.iastore, 1) := by decide +kernel
theorem dX3_init_81 : decode cX3_init 81 = .ok (.aload_n 0, 1) := by decide +kernel
theorem dX3_init_82 : decode cX3_init 82 = .ok (.getfield 15, 3) := by decide +kernel
theorem dX3_init_85 : decode cX3_init 85 = .ok (.iload_n 1, 1) := by decide +kernel
theorem dX3_init_86 : decode cX3_init 86 = .ok (.iload_n 2, 1) := by decide +kernel
theorem dX3_init_87 : decode cX3_init 87 = .ok (.iastore, 1) := by decide +kernel
theorem dX3_init_88 : decode cX3_init 88 = .ok (.aload_n 0, 1) := by decide +kernel
theorem dX3_init_89 : decode cX3_init 89 = .ok (.getfield 28, 3) := by decide +kernel
theorem dX3_init_92 : decode cX3_init 92 = .ok (.iload_n 1, 1) := by decide +kernel
theorem dX3_init_93 : decode cX3_init 93 = .ok (.iconst (-1), 1) := by decide +kernel
theorem dX3_init_94 : decode cX3_init 94 = .ok (.iastore, 1) := by decide +kernel
theorem dX3_init_95 : decode cX3_init 95 = .ok (.iinc 1 1, 3) := by decide +kernel
theorem dX3_init_98 : decode cX3_init 98 = .ok (.goto (-44), 3) := by decide +kernel
theorem dX3_init_101 : decode cX3_init 101 = .ok (.return_, 1) := by decide +kernel
theorem dX3_copyFrom_0 : decode cX3_copyFrom 0 = .ok (.aload_n 1, 1) := by decide +kernel
theorem dX3_copyFrom_1 : decode cX3_copyFrom 1 = .ok (.getfield 9, 3) := by decide +kernel
theorem dX3_copyFrom_4 : decode cX3_copyFrom 4 = .ok (.iconst 0, 1) := by decide +kernel
theorem dX3_copyFrom_5 : decode cX3_copyFrom 5 = .ok (.aload_n 0, 1) := by decide +kernel
theorem dX3_copyFrom_6 : decode cX3_copyFrom 6 = .ok (.getfield 9, 3) := by decide +kernel
theorem dX3_copyFrom_9 : decode cX3_copyFrom 9 = .ok (.iconst 0, 1) := by decide +kernel
theorem dX3_copyFrom_10 : decode cX3_copyFrom 10 = .ok (.bipush 12, 2) := by decide +kernel
theorem dX3_copyFrom_12 : decode cX3_copyFrom 12 = .ok (.invokestatic 31, 3) := by decide +kernel
theorem dX3_copyFrom_15 : decode cX3_copyFrom 15 = .ok (.aload_n 1, 1) := by decide +kernel
theorem dX3_copyFrom_16 : decode cX3_copyFrom 16 = .ok (.getfield 15, 3) := by decide +kernel
theorem dX3_copyFrom_19 : decode cX3_copyFrom 19 = .ok (.iconst 0, 1) := by decide +kernel
theorem dX3_copyFrom_20 : decode cX3_copyFrom 20 = .ok (.aload_n 0, 1) := by decide +kernel
theorem dX3_copyFrom_21 : decode cX3_copyFrom 21 = .ok (.getfield 15, 3) := by decide +kernel
theorem dX3_copyFrom_24 : decode cX3_copyFrom 24 = .ok (.iconst 0, 1) := by decide +kernel
theorem dX3_copyFrom_25 : decode cX3_copyFrom 25 = .ok (.bipush 12, 2) := by decide +kernel
theorem dX3_copyFrom_27 : decode cX3_copyFrom 27 = .ok (.invokestatic 31, 3) := by decide +kernel
theorem dX3_copyFrom_30 : decode cX3_copyFrom 30 = .ok (.aload_n 1, 1) := by decide +kernel
theorem dX3_copyFrom_31 : decode cX3_copyFrom 31 = .ok (.getfield 18, 3) := by decide +kernel
theorem dX3_copyFrom_34 : decode cX3_copyFrom 34 = .ok (.iconst 0, 1) := by decide +kernel
theorem dX3_copyFrom_35 : decode cX3_copyFrom 35 = .ok (.aload_n 0, 1) := by decide +kernel
theorem dX3_copyFrom_36 : decode cX3_copyFrom 36 = .ok (.getfield 18, 3) := by decide +kernel
theorem dX3_copyFrom_39 : decode cX3_copyFrom 39 = .ok (.iconst 0, 1) := by decide +kernel
theorem dX3_copyFrom_40 : decode cX3_copyFrom 40 = .ok (.bipush 12, 2) := by decide +kernel
theorem dX3_copyFrom_42 : decode cX3_copyFrom 42 = .ok (.invokestatic 31, 3) := by decide +kernel
theorem dX3_copyFrom_45 : decode cX3_copyFrom 45 = .ok (.aload_n 1, 1) := by decide +kernel
theorem dX3_copyFrom_46 : decode cX3_copyFrom 46 = .ok (.getfield 22, 3) := by decide +kernel
theorem dX3_copyFrom_49 : decode cX3_copyFrom 49 = .ok (.iconst 0, 1) := by decide +kernel
theorem dX3_copyFrom_50 : decode cX3_copyFrom 50 = .ok (.aload_n 0, 1) := by decide +kernel
theorem dX3_copyFrom_51 : decode cX3_copyFrom 51 = .ok (.getfield 22, 3) := by decide +kernel
theorem dX3_copyFrom_54 : decode cX3_copyFrom 54 = .ok (.iconst 0, 1) := by decide +kernel
theorem dX3_copyFrom_55 : decode cX3_copyFrom 55 = .ok (.bipush 12, 2) := by decide +kernel
theorem dX3_copyFrom_57 : decode cX3_copyFrom 57 = .ok (.invokestatic 31, 3) := by decide +kernel
theorem dX3_copyFrom_60 : decode cX3_copyFrom 60 = .ok (.aload_n 1, 1) := by decide +kernel
theorem dX3_copyFrom_61 : decode cX3_copyFrom 61 = .ok (.getfield 25, 3) := by decide +kernel
theorem dX3_copyFrom_64 : decode cX3_copyFrom 64 = .ok (.iconst 0, 1) := by decide +kernel
theorem dX3_copyFrom_65 : decode cX3_copyFrom 65 = .ok (.aload_n 0, 1) := by decide +kernel
theorem dX3_copyFrom_66 : decode cX3_copyFrom 66 = .ok (.getfield 25, 3) := by decide +kernel
theorem dX3_copyFrom_69 : decode cX3_copyFrom 69 = .ok (.iconst 0, 1) := by decide +kernel
theorem dX3_copyFrom_70 : decode cX3_copyFrom 70 = .ok (.bipush 12, 2) := by decide +kernel
theorem dX3_copyFrom_72 : decode cX3_copyFrom 72 = .ok (.invokestatic 31, 3) := by decide +kernel
theorem dX3_copyFrom_75 : decode cX3_copyFrom 75 = .ok (.aload_n 1, 1) := by decide +kernel
theorem dX3_copyFrom_76 : decode cX3_copyFrom 76 = .ok (.getfield 28, 3) := by decide +kernel
theorem dX3_copyFrom_79 : decode cX3_copyFrom 79 = .ok (.iconst 0, 1) := by decide +kernel
theorem dX3_copyFrom_80 : decode cX3_copyFrom 80 = .ok (.aload_n 0, 1) := by decide +kernel
theorem dX3_copyFrom_81 : decode cX3_copyFrom 81 = .ok (.getfield 28, 3) := by decide +kernel
theorem dX3_copyFrom_84 : decode cX3_copyFrom 84 = .ok (.iconst 0, 1) := by decide +kernel
theorem dX3_copyFrom_85 : decode cX3_copyFrom 85 = .ok (.bipush 12, 2) := by decide +kernel
theorem dX3_copyFrom_87 : decode cX3_copyFrom 87 = .ok (.invokestatic 31, 3) := by decide +kernel
theorem dX3_copyFrom_90 : decode cX3_copyFrom 90 = .ok (.return_, 1) := by decide +kernel
theorem dX3_isScratch_0 : decode cX3_isScratch 0 = .ok (.aload_n 0, 1) := by decide +kernel
theorem dX3_isScratch_1 : decode cX3_isScratch 1 = .ok (.getfield 9, 3) := by decide +kernel
theorem dX3_isScratch_4 : decode cX3_isScratch 4 = .ok (.iload_n 1, 1) := by decide +kernel
theorem dX3_isScratch_5 : decode cX3_isScratch 5 = .ok (.iaload, 1) := by decide +kernel
theorem dX3_isScratch_6 : decode cX3_isScratch 6 = .ok (.ifCond .eq 13, 3) := by decide +kernel
theorem dX3_isScratch_9 : decode cX3_isScratch 9 = .ok (.aload_n 0, 1) := by decide +kernel
theorem dX3_isScratch_10 : decode cX3_isScratch 10 = .ok (.getfield 22, 3) := by decide +kernel
theorem dX3_isScratch_13 : decode cX3_isScratch 13 = .ok (.iload_n 1, 1) := by decide +kernel
theorem dX3_isScratch_14 : decode cX3_isScratch 14 = .ok (.iaload, 1) := by decide +kernel
theorem dX3_isScratch_15 : decode cX3_isScratch 15 = .ok (.iload_n 2, 1) := by decide +kernel
theorem dX3_isScratch_16 : decode cX3_isScratch 16 = .ok (.if_icmp .ge 7, 3) := by decide +kernel
theorem dX3_isScratch_19 : decode cX3_isScratch 19 = .ok (.iconst 1, 1) := by decide +kernel
theorem dX3_isScratch_20 : decode cX3_isScratch 20 = .ok (.goto 4, 3) := by decide +kernel
theorem dX3_isScratch_23 : decode cX3_isScratch 23 = .ok (.iconst 0, 1) := by decide +kernel
theorem dX3_isScratch_24 : decode cX3_isScratch 24 = .ok (.ireturn, 1) := by decide +kernel
theorem dX3_keepsLabel_0 : decode cX3_keepsLabel 0 = .ok (.iconst 0, 1) := by decide +kernel
theorem dX3_keepsLabel_1 : decode cX3_keepsLabel 1 = .ok (.istore_n 3, 1) := by decide +kernel
theorem dX3_keepsLabel_2 : decode cX3_keepsLabel 2 = .ok (.iload_n 3, 1) := by decide +kernel
theorem dX3_keepsLabel_3 : decode cX3_keepsLabel 3 = .ok (.bipush 12, 2) := by decide +kernel
theorem dX3_keepsLabel_5 : decode cX3_keepsLabel 5 = .ok (.if_icmp .ge 30, 3) := by decide +kernel
theorem dX3_keepsLabel_8 : decode cX3_keepsLabel 8 = .ok (.aload_n 0, 1) := by decide +kernel
theorem dX3_keepsLabel_9 : decode cX3_keepsLabel 9 = .ok (.getfield 9, 3) := by decide +kernel
theorem dX3_keepsLabel_12 : decode cX3_keepsLabel 12 = .ok (.iload_n 3, 1) := by decide +kernel
theorem dX3_keepsLabel_13 : decode cX3_keepsLabel 13 = .ok (.iaload, 1) := by decide +kernel
theorem dX3_keepsLabel_14 : decode cX3_keepsLabel 14 = .ok (.iload_n 1, 1) := by decide +kernel
theorem dX3_keepsLabel_15 : decode cX3_keepsLabel 15 = .ok (.if_icmp .ne 14, 3) := by decide +kernel
theorem dX3_keepsLabel_18 : decode cX3_keepsLabel 18 = .ok (.aload_n 0, 1) := by decide +kernel
theorem dX3_keepsLabel_19 : decode cX3_keepsLabel 19 = .ok (.iload_n 3, 1) := by decide +kernel
theorem dX3_keepsLabel_20 : decode cX3_keepsLabel 20 = .ok (.iload_n 2, 1) := by decide +kernel
theorem dX3_keepsLabel_21 : decode cX3_keepsLabel 21 = .ok (.invokevirtual 37, 3) := by decide +kernel
theorem dX3_keepsLabel_24 : decode cX3_keepsLabel 24 = .ok (.ifCond .ne 5, 3) := by decide +kernel
theorem dX3_keepsLabel_27 : decode cX3_keepsLabel 27 = .ok (.iconst 1, 1) := by decide +kernel
theorem dX3_keepsLabel_28 : decode cX3_keepsLabel 28 = .ok (.ireturn, 1) := by decide +kernel
theorem dX3_keepsLabel_29 : decode cX3_keepsLabel 29 = .ok (.iinc 3 1, 3) := by decide +kernel
theorem dX3_keepsLabel_32 : decode cX3_keepsLabel 32 = .ok (.goto (-30), 3) := by decide +kernel
theorem dX3_keepsLabel_35 : decode cX3_keepsLabel 35 = .ok (.iconst 0, 1) := by decide +kernel
theorem dX3_keepsLabel_36 : decode cX3_keepsLabel 36 = .ok (.ireturn, 1) := by decide +kernel
theorem dX3_findOn_0 : decode cX3_findOn 0 = .ok (.iconst 0, 1) := by decide +kernel
theorem dX3_findOn_1 : decode cX3_findOn 1 = .ok (.istore_n 2, 1) := by decide +kernel
theorem dX3_findOn_2 : decode cX3_findOn 2 = .ok (.iload_n 2, 1) := by decide +kernel
theorem dX3_findOn_3 : decode cX3_findOn 3 = .ok (.bipush 12, 2) := by decide +kernel
theorem dX3_findOn_5 : decode cX3_findOn 5 = .ok (.if_icmp .ge 21, 3) := by decide +kernel
theorem dX3_findOn_8 : decode cX3_findOn 8 = .ok (.aload_n 0, 1) := by decide +kernel
theorem dX3_findOn_9 : decode cX3_findOn 9 = .ok (.getfield 28, 3) := by decide +kernel
theorem dX3_findOn_12 : decode cX3_findOn 12 = .ok (.iload_n 2, 1) := by decide +kernel
theorem dX3_findOn_13 : decode cX3_findOn 13 = .ok (.iaload, 1) := by decide +kernel
theorem dX3_findOn_14 : decode cX3_findOn 14 = .ok (.iload_n 1, 1) := by decide +kernel
theorem dX3_findOn_15 : decode cX3_findOn 15 = .ok (.if_icmp .ne 5, 3) := by decide +kernel
theorem dX3_findOn_18 : decode cX3_findOn 18 = .ok (.iload_n 2, 1) := by decide +kernel
theorem dX3_findOn_19 : decode cX3_findOn 19 = .ok (.ireturn, 1) := by decide +kernel
theorem dX3_findOn_20 : decode cX3_findOn 20 = .ok (.iinc 2 1, 3) := by decide +kernel
theorem dX3_findOn_23 : decode cX3_findOn 23 = .ok (.goto (-21), 3) := by decide +kernel
theorem dX3_findOn_26 : decode cX3_findOn 26 = .ok (.iconst (-1), 1) := by decide +kernel
theorem dX3_findOn_27 : decode cX3_findOn 27 = .ok (.ireturn, 1) := by decide +kernel
theorem dX3_findEmptyDrive_0 : decode cX3_findEmptyDrive 0 = .ok (.iconst 0, 1) := by decide +kernel
theorem dX3_findEmptyDrive_1 : decode cX3_findEmptyDrive 1 = .ok (.istore_n 1, 1) := by decide +kernel
theorem dX3_findEmptyDrive_2 : decode cX3_findEmptyDrive 2 = .ok (.iload_n 1, 1) := by decide +kernel
theorem dX3_findEmptyDrive_3 : decode cX3_findEmptyDrive 3 = .ok (.iconst 3, 1) := by decide +kernel
theorem dX3_findEmptyDrive_4 : decode cX3_findEmptyDrive 4 = .ok (.if_icmp .ge 20, 3) := by decide +kernel
theorem dX3_findEmptyDrive_7 : decode cX3_findEmptyDrive 7 = .ok (.aload_n 0, 1) := by decide +kernel
theorem dX3_findEmptyDrive_8 : decode cX3_findEmptyDrive 8 = .ok (.iload_n 1, 1) := by decide +kernel
theorem dX3_findEmptyDrive_9 : decode cX3_findEmptyDrive 9 = .ok (.invokevirtual 41, 3) := by decide +kernel
theorem dX3_findEmptyDrive_12 : decode cX3_findEmptyDrive 12 = .ok (.iconst (-1), 1) := by decide +kernel
theorem dX3_findEmptyDrive_13 : decode cX3_findEmptyDrive 13 = .ok (.if_icmp .ne 5, 3) := by decide +kernel
theorem dX3_findEmptyDrive_16 : decode cX3_findEmptyDrive 16 = .ok (.iload_n 1, 1) := by decide +kernel
theorem dX3_findEmptyDrive_17 : decode cX3_findEmptyDrive 17 = .ok (.ireturn, 1) := by decide +kernel
theorem dX3_findEmptyDrive_18 : decode cX3_findEmptyDrive 18 = .ok (.iinc 1 1, 3) := by decide +kernel
theorem dX3_findEmptyDrive_21 : decode cX3_findEmptyDrive 21 = .ok (.goto (-19), 3) := by decide +kernel
theorem dX3_findEmptyDrive_24 : decode cX3_findEmptyDrive 24 = .ok (.iconst (-1), 1) := by decide +kernel
theorem dX3_findEmptyDrive_25 : decode cX3_findEmptyDrive 25 = .ok (.ireturn, 1) := by decide +kernel
theorem dX3_findOnShelf_0 : decode cX3_findOnShelf 0 = .ok (.iconst 0, 1) := by decide +kernel
theorem dX3_findOnShelf_1 : decode cX3_findOnShelf 1 = .ok (.istore_n 2, 1) := by decide +kernel
theorem dX3_findOnShelf_2 : decode cX3_findOnShelf 2 = .ok (.iload_n 2, 1) := by decide +kernel
theorem dX3_findOnShelf_3 : decode cX3_findOnShelf 3 = .ok (.bipush 12, 2) := by decide +kernel
theorem dX3_findOnShelf_5 : decode cX3_findOnShelf 5 = .ok (.if_icmp .ge 31, 3) := by decide +kernel
theorem dX3_findOnShelf_8 : decode cX3_findOnShelf 8 = .ok (.aload_n 0, 1) := by decide +kernel
theorem dX3_findOnShelf_9 : decode cX3_findOnShelf 9 = .ok (.getfield 28, 3) := by decide +kernel
theorem dX3_findOnShelf_12 : decode cX3_findOnShelf 12 = .ok (.iload_n 2, 1) := by decide +kernel
theorem dX3_findOnShelf_13 : decode cX3_findOnShelf 13 = .ok (.iaload, 1) := by decide +kernel
theorem dX3_findOnShelf_14 : decode cX3_findOnShelf 14 = .ok (.iconst (-1), 1) := by decide +kernel
theorem dX3_findOnShelf_15 : decode cX3_findOnShelf 15 = .ok (.if_icmp .ne 15, 3) := by decide +kernel
theorem dX3_findOnShelf_18 : decode cX3_findOnShelf 18 = .ok (.aload_n 0, 1) := by decide +kernel
theorem dX3_findOnShelf_19 : decode cX3_findOnShelf 19 = .ok (.getfield 15, 3) := by decide +kernel
theorem dX3_findOnShelf_22 : decode cX3_findOnShelf 22 = .ok (.iload_n 2, 1) := by decide +kernel
theorem dX3_findOnShelf_23 : decode cX3_findOnShelf 23 = .ok (.iaload, 1) := by decide +kernel
theorem dX3_findOnShelf_24 : decode cX3_findOnShelf 24 = .ok (.iload_n 1, 1) := by decide +kernel
theorem dX3_findOnShelf_25 : decode cX3_findOnShelf 25 = .ok (.if_icmp .ne 5, 3) := by decide +kernel
theorem dX3_findOnShelf_28 : decode cX3_findOnShelf 28 = .ok (.iload_n 2, 1) := by decide +kernel
theorem dX3_findOnShelf_29 : decode cX3_findOnShelf 29 = .ok (.ireturn, 1) := by decide +kernel
theorem dX3_findOnShelf_30 : decode cX3_findOnShelf 30 = .ok (.iinc 2 1, 3) := by decide +kernel
theorem dX3_findOnShelf_33 : decode cX3_findOnShelf 33 = .ok (.goto (-31), 3) := by decide +kernel
theorem dX3_findOnShelf_36 : decode cX3_findOnShelf 36 = .ok (.iconst (-1), 1) := by decide +kernel
theorem dX3_findOnShelf_37 : decode cX3_findOnShelf 37 = .ok (.ireturn, 1) := by decide +kernel
theorem dX3_findNextOnShelf_0 : decode cX3_findNextOnShelf 0 = .ok (.iconst (-1), 1) := by decide +kernel
theorem dX3_findNextOnShelf_1 : decode cX3_findNextOnShelf 1 = .ok (.istore_n 2, 1) := by decide +kernel
theorem dX3_findNextOnShelf_2 : decode cX3_findNextOnShelf 2 = .ok (.iconst 0, 1) := by decide +kernel
theorem dX3_findNextOnShelf_3 : decode cX3_findNextOnShelf 3 = .ok (.istore_n 3, 1) := by decide +kernel
theorem dX3_findNextOnShelf_4 : decode cX3_findNextOnShelf 4 = .ok (.iload_n 3, 1) := by decide +kernel
theorem dX3_findNextOnShelf_5 : decode cX3_findNextOnShelf 5 = .ok (.bipush 12, 2) := by decide +kernel
theorem dX3_findNextOnShelf_7 : decode cX3_findNextOnShelf 7 = .ok (.if_icmp .ge 33, 3) := by decide +kernel
theorem dX3_findNextOnShelf_10 : decode cX3_findNextOnShelf 10 = .ok (.aload_n 0, 1) := by decide +kernel
theorem dX3_findNextOnShelf_11 : decode cX3_findNextOnShelf 11 = .ok (.getfield 28, 3) := by decide +kernel
theorem dX3_findNextOnShelf_14 : decode cX3_findNextOnShelf 14 = .ok (.iload_n 3, 1) := by decide +kernel
theorem dX3_findNextOnShelf_15 : decode cX3_findNextOnShelf 15 = .ok (.iaload, 1) := by decide +kernel
theorem dX3_findNextOnShelf_16 : decode cX3_findNextOnShelf 16 = .ok (.iconst (-1), 1) := by decide +kernel
theorem dX3_findNextOnShelf_17 : decode cX3_findNextOnShelf 17 = .ok (.if_icmp .ne 17, 3) := by decide +kernel
theorem dX3_findNextOnShelf_20 : decode cX3_findNextOnShelf 20 = .ok (.iload_n 3, 1) := by decide +kernel
theorem dX3_findNextOnShelf_21 : decode cX3_findNextOnShelf 21 = .ok (.iload_n 1, 1) := by decide +kernel
theorem dX3_findNextOnShelf_22 : decode cX3_findNextOnShelf 22 = .ok (.if_icmp .le 5, 3) := by decide +kernel
theorem dX3_findNextOnShelf_25 : decode cX3_findNextOnShelf 25 = .ok (.iload_n 3, 1) := by decide +kernel
theorem dX3_findNextOnShelf_26 : decode cX3_findNextOnShelf 26 = .ok (.ireturn, 1) := by decide +kernel
theorem dX3_findNextOnShelf_27 : decode cX3_findNextOnShelf 27 = .ok (.iload_n 2, 1) := by decide +kernel
theorem dX3_findNextOnShelf_28 : decode cX3_findNextOnShelf 28 = .ok (.iconst (-1), 1) := by decide +kernel
theorem dX3_findNextOnShelf_29 : decode cX3_findNextOnShelf 29 = .ok (.if_icmp .ne 5, 3) := by decide +kernel
theorem dX3_findNextOnShelf_32 : decode cX3_findNextOnShelf 32 = .ok (.iload_n 3, 1) := by decide +kernel
theorem dX3_findNextOnShelf_33 : decode cX3_findNextOnShelf 33 = .ok (.istore_n 2, 1) := by decide +kernel
theorem dX3_findNextOnShelf_34 : decode cX3_findNextOnShelf 34 = .ok (.iinc 3 1, 3) := by decide +kernel
theorem dX3_findNextOnShelf_37 : decode cX3_findNextOnShelf 37 = .ok (.goto (-33), 3) := by decide +kernel
theorem dX3_findNextOnShelf_40 : decode cX3_findNextOnShelf 40 = .ok (.iload_n 2, 1) := by decide +kernel
theorem dX3_findNextOnShelf_41 : decode cX3_findNextOnShelf 41 = .ok (.ireturn, 1) := by decide +kernel
theorem dX4_init_0 : decode cX4_init 0 = .ok (.aload_n 0, 1) := by decide +kernel
theorem dX4_init_1 : decode cX4_init 1 = .ok (.invokespecial 3, 3) := by decide +kernel
theorem dX4_init_4 : decode cX4_init 4 = .ok (.aload_n 0, 1) := by decide +kernel
theorem dX4_init_5 : decode cX4_init 5 = .ok (.new 9, 3) := by decide +kernel
theorem dX4_init_8 : decode cX4_init 8 = .ok (.dup, 1) := by decide +kernel
theorem dX4_init_9 : decode cX4_init 9 = .ok (.invokespecial 11, 3) := by decide +kernel
theorem dX4_init_12 : decode cX4_init 12 = .ok (.putfield 12, 3) := by decide +kernel
theorem dX4_init_15 : decode cX4_init 15 = .ok (.aload_n 0, 1) := by decide +kernel
theorem dX4_init_16 : decode cX4_init 16 = .ok (.new 18, 3) := by decide +kernel
theorem dX4_init_19 : decode cX4_init 19 = .ok (.dup, 1) := by decide +kernel
theorem dX4_init_20 : decode cX4_init 20 = .ok (.invokespecial 20, 3) := by decide +kernel
theorem dX4_init_23 : decode cX4_init 23 = .ok (.putfield 21, 3) := by decide +kernel
theorem dX4_init_26 : decode cX4_init 26 = .ok (.aload_n 0, 1) := by decide +kernel
theorem dX4_init_27 : decode cX4_init 27 = .ok (.iconst 0, 1) := by decide +kernel
theorem dX4_init_28 : decode cX4_init 28 = .ok (.putfield 25, 3) := by decide +kernel
theorem dX4_init_31 : decode cX4_init 31 = .ok (.aload_n 0, 1) := by decide +kernel
theorem dX4_init_32 : decode cX4_init 32 = .ok (.iconst 0, 1) := by decide +kernel
theorem dX4_init_33 : decode cX4_init 33 = .ok (.putfield 29, 3) := by decide +kernel
theorem dX4_init_36 : decode cX4_init 36 = .ok (.aload_n 0, 1) := by decide +kernel
theorem dX4_init_37 : decode cX4_init 37 = .ok (.bipush 10, 2) := by decide +kernel
theorem dX4_init_39 : decode cX4_init 39 = .ok (.putfield 32, 3) := by decide +kernel
theorem dX4_init_42 : decode cX4_init 42 = .ok (.aload_n 0, 1) := by decide +kernel
theorem dX4_init_43 : decode cX4_init 43 = .ok (.iconst 0, 1) := by decide +kernel
theorem dX4_init_44 : decode cX4_init 44 = .ok (.putfield 35, 3) := by decide +kernel
theorem dX4_init_47 : decode cX4_init 47 = .ok (.aload_n 0, 1) := by decide +kernel
theorem dX4_init_48 : decode cX4_init 48 = .ok (.iconst 0, 1) := by decide +kernel
theorem dX4_init_49 : decode cX4_init 49 = .ok (.putfield 38, 3) := by decide +kernel
theorem dX4_init_52 : decode cX4_init 52 = .ok (.aload_n 0, 1) := by decide +kernel
theorem dX4_init_53 : decode cX4_init 53 = .ok (.iconst 0, 1) := by decide +kernel
theorem dX4_init_54 : decode cX4_init 54 = .ok (.putfield 41, 3) := by decide +kernel
theorem dX4_init_57 : decode cX4_init 57 = .ok (.aload_n 0, 1) := by decide +kernel
theorem dX4_init_58 : decode cX4_init 58 = .ok (.iconst 0, 1) := by decide +kernel
theorem dX4_init_59 : decode cX4_init 59 = .ok (.putfield 44, 3) := by decide +kernel
theorem dX4_init_62 : decode cX4_init 62 = .ok (.aload_n 0, 1) := by decide +kernel
theorem dX4_init_63 : decode cX4_init 63 = .ok (.iconst 0, 1) := by decide +kernel
theorem dX4_init_64 : decode cX4_init 64 = .ok (.putfield 47, 3) := by decide +kernel
theorem dX4_init_67 : decode cX4_init 67 = .ok (.aload_n 0, 1) := by decide +kernel
theorem dX4_init_68 : decode cX4_init 68 = .ok (.iconst 0, 1) := by decide +kernel
theorem dX4_init_69 : decode cX4_init 69 = .ok (.putfield 50, 3) := by decide +kernel
theorem dX4_init_72 : decode cX4_init 72 = .ok (.aload_n 0, 1) := by decide +kernel
theorem dX4_init_73 : decode cX4_init 73 = .ok (.iconst 0, 1) := by decide +kernel
theorem dX4_init_74 : decode cX4_init 74 = .ok (.putfield 53, 3) := by decide +kernel
theorem dX4_init_77 : decode cX4_init 77 = .ok (.return_, 1) := by decide +kernel
theorem dX4_copyFrom_0 : decode cX4_copyFrom 0 = .ok (.aload_n 0, 1) := by decide +kernel
theorem dX4_copyFrom_1 : decode cX4_copyFrom 1 = .ok (.getfield 12, 3) := by decide +kernel
theorem dX4_copyFrom_4 : decode cX4_copyFrom 4 = .ok (.aload_n 1, 1) := by decide +kernel
theorem dX4_copyFrom_5 : decode cX4_copyFrom 5 = .ok (.getfield 12, 3) := by decide +kernel
theorem dX4_copyFrom_8 : decode cX4_copyFrom 8 = .ok (.invokevirtual 56, 3) := by decide +kernel
theorem dX4_copyFrom_11 : decode cX4_copyFrom 11 = .ok (.aload_n 0, 1) := by decide +kernel
theorem dX4_copyFrom_12 : decode cX4_copyFrom 12 = .ok (.getfield 21, 3) := by decide +kernel
theorem dX4_copyFrom_15 : decode cX4_copyFrom 15 = .ok (.aload_n 1, 1) := by decide +kernel
theorem dX4_copyFrom_16 : decode cX4_copyFrom 16 = .ok (.getfield 21, 3) := by decide +kernel
theorem dX4_copyFrom_19 : decode cX4_copyFrom 19 = .ok (.invokevirtual 60, 3) := by decide +kernel
theorem dX4_copyFrom_22 : decode cX4_copyFrom 22 = .ok (.aload_n 0, 1) := by decide +kernel
theorem dX4_copyFrom_23 : decode cX4_copyFrom 23 = .ok (.aload_n 1, 1) := by decide +kernel
theorem dX4_copyFrom_24 : decode cX4_copyFrom 24 = .ok (.getfield 25, 3) := by decide +kernel
theorem dX4_copyFrom_27 : decode cX4_copyFrom 27 = .ok (.putfield 25, 3) := by decide +kernel
theorem dX4_copyFrom_30 : decode cX4_copyFrom 30 = .ok (.aload_n 0, 1) := by decide +kernel
theorem dX4_copyFrom_31 : decode cX4_copyFrom 31 = .ok (.aload_n 1, 1) := by decide +kernel
theorem dX4_copyFrom_32 : decode cX4_copyFrom 32 = .ok (.getfield 29, 3) := by decide +kernel
theorem dX4_copyFrom_35 : decode cX4_copyFrom 35 = .ok (.putfield 29, 3) := by decide +kernel
theorem dX4_copyFrom_38 : decode cX4_copyFrom 38 = .ok (.aload_n 0, 1) := by decide +kernel
theorem dX4_copyFrom_39 : decode cX4_copyFrom 39 = .ok (.aload_n 1, 1) := by decide +kernel
theorem dX4_copyFrom_40 : decode cX4_copyFrom 40 = .ok (.getfield 32, 3) := by decide +kernel
theorem dX4_copyFrom_43 : decode cX4_copyFrom 43 = .ok (.putfield 32, 3) := by decide +kernel
theorem dX4_copyFrom_46 : decode cX4_copyFrom 46 = .ok (.aload_n 0, 1) := by decide +kernel
theorem dX4_copyFrom_47 : decode cX4_copyFrom 47 = .ok (.aload_n 1, 1) := by decide +kernel
theorem dX4_copyFrom_48 : decode cX4_copyFrom 48 = .ok (.getfield 35, 3) := by decide +kernel
theorem dX4_copyFrom_51 : decode cX4_copyFrom 51 = .ok (.putfield 35, 3) := by decide +kernel
theorem dX4_copyFrom_54 : decode cX4_copyFrom 54 = .ok (.aload_n 0, 1) := by decide +kernel
theorem dX4_copyFrom_55 : decode cX4_copyFrom 55 = .ok (.aload_n 1, 1) := by decide +kernel
theorem dX4_copyFrom_56 : decode cX4_copyFrom 56 = .ok (.getfield 38, 3) := by decide +kernel
theorem dX4_copyFrom_59 : decode cX4_copyFrom 59 = .ok (.putfield 38, 3) := by decide +kernel
theorem dX4_copyFrom_62 : decode cX4_copyFrom 62 = .ok (.aload_n 0, 1) := by decide +kernel
theorem dX4_copyFrom_63 : decode cX4_copyFrom 63 = .ok (.aload_n 1, 1) := by decide +kernel
theorem dX4_copyFrom_64 : decode cX4_copyFrom 64 = .ok (.getfield 41, 3) := by decide +kernel
theorem dX4_copyFrom_67 : decode cX4_copyFrom 67 = .ok (.putfield 41, 3) := by decide +kernel
theorem dX4_copyFrom_70 : decode cX4_copyFrom 70 = .ok (.aload_n 0, 1) := by decide +kernel
theorem dX4_copyFrom_71 : decode cX4_copyFrom 71 = .ok (.aload_n 1, 1) := by decide +kernel
theorem dX4_copyFrom_72 : decode cX4_copyFrom 72 = .ok (.getfield 44, 3) := by decide +kernel
theorem dX4_copyFrom_75 : decode cX4_copyFrom 75 = .ok (.putfield 44, 3) := by decide +kernel
theorem dX4_copyFrom_78 : decode cX4_copyFrom 78 = .ok (.aload_n 0, 1) := by decide +kernel
theorem dX4_copyFrom_79 : decode cX4_copyFrom 79 = .ok (.aload_n 1, 1) := by decide +kernel
theorem dX4_copyFrom_80 : decode cX4_copyFrom 80 = .ok (.getfield 47, 3) := by decide +kernel
theorem dX4_copyFrom_83 : decode cX4_copyFrom 83 = .ok (.putfield 47, 3) := by decide +kernel
theorem dX4_copyFrom_86 : decode cX4_copyFrom 86 = .ok (.aload_n 0, 1) := by decide +kernel
theorem dX4_copyFrom_87 : decode cX4_copyFrom 87 = .ok (.aload_n 1, 1) := by decide +kernel
theorem dX4_copyFrom_88 : decode cX4_copyFrom 88 = .ok (.getfield 50, 3) := by decide +kernel
theorem dX4_copyFrom_91 : decode cX4_copyFrom 91 = .ok (.putfield 50, 3) := by decide +kernel
theorem dX4_copyFrom_94 : decode cX4_copyFrom 94 = .ok (.aload_n 0, 1) := by decide +kernel
theorem dX4_copyFrom_95 : decode cX4_copyFrom 95 = .ok (.aload_n 1, 1) := by decide +kernel
theorem dX4_copyFrom_96 : decode cX4_copyFrom 96 = .ok (.getfield 53, 3) := by decide +kernel
theorem dX4_copyFrom_99 : decode cX4_copyFrom 99 = .ok (.putfield 53, 3) := by decide +kernel
theorem dX4_copyFrom_102 : decode cX4_copyFrom 102 = .ok (.return_, 1) := by decide +kernel
theorem dX4_hasNextDay_0 : decode cX4_hasNextDay 0 = .ok (.aload_n 0, 1) := by decide +kernel
theorem dX4_hasNextDay_1 : decode cX4_hasNextDay 1 = .ok (.getfield 25, 3) := by decide +kernel
theorem dX4_hasNextDay_4 : decode cX4_hasNextDay 4 = .ok (.sipush 999, 3) := by decide +kernel
theorem dX4_hasNextDay_7 : decode cX4_hasNextDay 7 = .ok (.if_icmp .ge 7, 3) := by decide +kernel
theorem dX4_hasNextDay_10 : decode cX4_hasNextDay 10 = .ok (.iconst 1, 1) := by decide +kernel
theorem dX4_hasNextDay_11 : decode cX4_hasNextDay 11 = .ok (.goto 4, 3) := by decide +kernel
theorem dX4_hasNextDay_14 : decode cX4_hasNextDay 14 = .ok (.iconst 0, 1) := by decide +kernel
theorem dX4_hasNextDay_15 : decode cX4_hasNextDay 15 = .ok (.ireturn, 1) := by decide +kernel
theorem dX4_takesJob_0 : decode cX4_takesJob 0 = .ok (.aload_n 0, 1) := by decide +kernel
theorem dX4_takesJob_1 : decode cX4_takesJob 1 = .ok (.getfield 21, 3) := by decide +kernel
theorem dX4_takesJob_4 : decode cX4_takesJob 4 = .ok (.invokevirtual 63, 3) := by decide +kernel
theorem dX4_takesJob_7 : decode cX4_takesJob 7 = .ok (.ifCond .eq 5, 3) := by decide +kernel
theorem dX4_takesJob_10 : decode cX4_takesJob 10 = .ok (.iconst 0, 1) := by decide +kernel
theorem dX4_takesJob_11 : decode cX4_takesJob 11 = .ok (.ireturn, 1) := by decide +kernel
theorem dX4_takesJob_12 : decode cX4_takesJob 12 = .ok (.iload_n 1, 1) := by decide +kernel
theorem dX4_takesJob_13 : decode cX4_takesJob 13 = .ok (.iconst 2, 1) := by decide +kernel
theorem dX4_takesJob_14 : decode cX4_takesJob 14 = .ok (.if_icmp .ne 29, 3) := by decide +kernel
theorem dX4_takesJob_17 : decode cX4_takesJob 17 = .ok (.aload_n 0, 1) := by decide +kernel
theorem dX4_takesJob_18 : decode cX4_takesJob 18 = .ok (.getfield 12, 3) := by decide +kernel
theorem dX4_takesJob_21 : decode cX4_takesJob 21 = .ok (.iload_n 2, 1) := by decide +kernel
theorem dX4_takesJob_22 : decode cX4_takesJob 22 = .ok (.aload_n 0, 1) := by decide +kernel
theorem dX4_takesJob_23 : decode cX4_takesJob 23 = .ok (.getfield 25, 3) := by decide +kernel
theorem dX4_takesJob_26 : decode cX4_takesJob 26 = .ok (.invokevirtual 67, 3) := by decide +kernel
theorem dX4_takesJob_29 : decode cX4_takesJob 29 = .ok (.ifCond .ne 18, 3) := by decide +kernel
theorem dX4_takesJob_32 : decode cX4_takesJob 32 = .ok (.aload_n 0, 1) := by decide +kernel
theorem dX4_takesJob_33 : decode cX4_takesJob 33 = .ok (.getfield 21, 3) := by decide +kernel
theorem dX4_takesJob_36 : decode cX4_takesJob 36 = .ok (.iload_n 2, 1) := by decide +kernel
theorem dX4_takesJob_37 : decode cX4_takesJob 37 = .ok (.invokevirtual 71, 3) := by decide +kernel
theorem dX4_takesJob_40 : decode cX4_takesJob 40 = .ok (.ifCond .ne 7, 3) := by decide +kernel
theorem dX4_takesJob_43 : decode cX4_takesJob 43 = .ok (.iconst 1, 1) := by decide +kernel
theorem dX4_takesJob_44 : decode cX4_takesJob 44 = .ok (.goto 4, 3) := by decide +kernel
theorem dX4_takesJob_47 : decode cX4_takesJob 47 = .ok (.iconst 0, 1) := by decide +kernel
theorem dX4_takesJob_48 : decode cX4_takesJob 48 = .ok (.ireturn, 1) := by decide +kernel
theorem dX4_endJob_0 : decode cX4_endJob 0 = .ok (.aload_n 0, 1) := by decide +kernel
theorem dX4_endJob_1 : decode cX4_endJob 1 = .ok (.getfield 21, 3) := by decide +kernel
theorem dX4_endJob_4 : decode cX4_endJob 4 = .ok (.getfield 75, 3) := by decide +kernel
theorem dX4_endJob_7 : decode cX4_endJob 7 = .ok (.iload_n 1, 1) := by decide +kernel
theorem dX4_endJob_8 : decode cX4_endJob 8 = .ok (.iaload, 1) := by decide +kernel
theorem dX4_endJob_9 : decode cX4_endJob 9 = .ok (.istore_n 3, 1) := by decide +kernel
theorem dX4_endJob_10 : decode cX4_endJob 10 = .ok (.iload_n 3, 1) := by decide +kernel
theorem dX4_endJob_11 : decode cX4_endJob 11 = .ok (.invokestatic 79, 3) := by decide +kernel
theorem dX4_endJob_14 : decode cX4_endJob 14 = .ok (.ifCond .eq 13, 3) := by decide +kernel
theorem dX4_endJob_17 : decode cX4_endJob 17 = .ok (.aload_n 0, 1) := by decide +kernel
theorem dX4_endJob_18 : decode cX4_endJob 18 = .ok (.getfield 12, 3) := by decide +kernel
theorem dX4_endJob_21 : decode cX4_endJob 21 = .ok (.getfield 82, 3) := by decide +kernel
theorem dX4_endJob_24 : decode cX4_endJob 24 = .ok (.iload_n 3, 1) := by decide +kernel
theorem dX4_endJob_25 : decode cX4_endJob 25 = .ok (.iconst (-1), 1) := by decide +kernel
theorem dX4_endJob_26 : decode cX4_endJob 26 = .ok (.iastore, 1) := by decide +kernel
theorem dX4_endJob_27 : decode cX4_endJob 27 = .ok (.aload_n 0, 1) := by decide +kernel
theorem dX4_endJob_28 : decode cX4_endJob 28 = .ok (.getfield 21, 3) := by decide +kernel
theorem dX4_endJob_31 : decode cX4_endJob 31 = .ok (.getfield 75, 3) := by decide +kernel
theorem dX4_endJob_34 : decode cX4_endJob 34 = .ok (.iload_n 1, 1) := by decide +kernel
theorem dX4_endJob_35 : decode cX4_endJob 35 = .ok (.iconst (-1), 1) := by decide +kernel
theorem dX4_endJob_36 : decode cX4_endJob 36 = .ok (.iastore, 1) := by decide +kernel
theorem dX4_endJob_37 : decode cX4_endJob 37 = .ok (.aload_n 0, 1) := by decide +kernel
theorem dX4_endJob_38 : decode cX4_endJob 38 = .ok (.getfield 21, 3) := by decide +kernel
theorem dX4_endJob_41 : decode cX4_endJob 41 = .ok (.getfield 85, 3) := by decide +kernel
theorem dX4_endJob_44 : decode cX4_endJob 44 = .ok (.iload_n 1, 1) := by decide +kernel
theorem dX4_endJob_45 : decode cX4_endJob 45 = .ok (.iload_n 2, 1) := by decide +kernel
theorem dX4_endJob_46 : decode cX4_endJob 46 = .ok (.iastore, 1) := by decide +kernel
theorem dX4_endJob_47 : decode cX4_endJob 47 = .ok (.return_, 1) := by decide +kernel
theorem dX4_runMinutes_0 : decode cX4_runMinutes 0 = .ok (.iconst 0, 1) := by decide +kernel
theorem dX4_runMinutes_1 : decode cX4_runMinutes 1 = .ok (.istore_n 2, 1) := by decide +kernel
theorem dX4_runMinutes_2 : decode cX4_runMinutes 2 = .ok (.iconst 0, 1) := by decide +kernel
theorem dX4_runMinutes_3 : decode cX4_runMinutes 3 = .ok (.istore_n 3, 1) := by decide +kernel
theorem dX4_runMinutes_4 : decode cX4_runMinutes 4 = .ok (.iload_n 3, 1) := by decide +kernel
theorem dX4_runMinutes_5 : decode cX4_runMinutes 5 = .ok (.iload_n 1, 1) := by decide +kernel
theorem dX4_runMinutes_6 : decode cX4_runMinutes 6 = .ok (.if_icmp .ge 16, 3) := by decide +kernel
theorem dX4_runMinutes_9 : decode cX4_runMinutes 9 = .ok (.iload_n 2, 1) := by decide +kernel
theorem dX4_runMinutes_10 : decode cX4_runMinutes 10 = .ok (.aload_n 0, 1) := by decide +kernel
theorem dX4_runMinutes_11 : decode cX4_runMinutes 11 = .ok (.invokevirtual 88, 3) := by decide +kernel
theorem dX4_runMinutes_14 : decode cX4_runMinutes 14 = .ok (.iadd, 1) := by decide +kernel
theorem dX4_runMinutes_15 : decode cX4_runMinutes 15 = .ok (.istore_n 2, 1) := by decide +kernel
theorem dX4_runMinutes_16 : decode cX4_runMinutes 16 = .ok (.iinc 3 1, 3) := by decide +kernel
theorem dX4_runMinutes_19 : decode cX4_runMinutes 19 = .ok (.goto (-15), 3) := by decide +kernel
theorem dX4_runMinutes_22 : decode cX4_runMinutes 22 = .ok (.iload_n 2, 1) := by decide +kernel
theorem dX4_runMinutes_23 : decode cX4_runMinutes 23 = .ok (.ireturn, 1) := by decide +kernel
theorem dX4_runMinute_0 : decode cX4_runMinute 0 = .ok (.aload_n 0, 1) := by decide +kernel
theorem dX4_runMinute_1 : decode cX4_runMinute 1 = .ok (.dup, 1) := by decide +kernel
theorem dX4_runMinute_2 : decode cX4_runMinute 2 = .ok (.getfield 35, 3) := by decide +kernel
theorem dX4_runMinute_5 : decode cX4_runMinute 5 = .ok (.iconst 1, 1) := by decide +kernel
theorem dX4_runMinute_6 : decode cX4_runMinute 6 = .ok (.iadd, 1) := by decide +kernel
theorem dX4_runMinute_7 : decode cX4_runMinute 7 = .ok (.putfield 35, 3) := by decide +kernel
theorem dX4_runMinute_10 : decode cX4_runMinute 10 = .ok (.iconst 0, 1) := by decide +kernel
theorem dX4_runMinute_11 : decode cX4_runMinute 11 = .ok (.istore_n 1, 1) := by decide +kernel
theorem dX4_runMinute_12 : decode cX4_runMinute 12 = .ok (.iconst 0, 1) := by decide +kernel
theorem dX4_runMinute_13 : decode cX4_runMinute 13 = .ok (.istore_n 2, 1) := by decide +kernel
theorem dX4_runMinute_14 : decode cX4_runMinute 14 = .ok (.iload_n 2, 1) := by decide +kernel
theorem dX4_runMinute_15 : decode cX4_runMinute 15 = .ok (.aload_n 0, 1) := by decide +kernel
theorem dX4_runMinute_16 : decode cX4_runMinute 16 = .ok (.getfield 21, 3) := by decide +kernel
theorem dX4_runMinute_19 : decode cX4_runMinute 19 = .ok (.getfield 92, 3) := by decide +kernel
theorem dX4_runMinute_22 : decode cX4_runMinute 22 = .ok (.if_icmp .ge 57, 3) := by decide +kernel
theorem dX4_runMinute_25 : decode cX4_runMinute 25 = .ok (.aload_n 0, 1) := by decide +kernel
theorem dX4_runMinute_26 : decode cX4_runMinute 26 = .ok (.getfield 21, 3) := by decide +kernel
theorem dX4_runMinute_29 : decode cX4_runMinute 29 = .ok (.getfield 85, 3) := by decide +kernel
theorem dX4_runMinute_32 : decode cX4_runMinute 32 = .ok (.iload_n 2, 1) := by decide +kernel
theorem dX4_runMinute_33 : decode cX4_runMinute 33 = .ok (.iaload, 1) := by decide +kernel
theorem dX4_runMinute_34 : decode cX4_runMinute 34 = .ok (.iconst 1, 1) := by decide +kernel
theorem dX4_runMinute_35 : decode cX4_runMinute 35 = .ok (.if_icmp .ne 38, 3) := by decide +kernel
theorem dX4_runMinute_38 : decode cX4_runMinute 38 = .ok (.aload_n 0, 1) := by decide +kernel
theorem dX4_runMinute_39 : decode cX4_runMinute 39 = .ok (.iload_n 2, 1) := by decide +kernel
theorem dX4_runMinute_40 : decode cX4_runMinute 40 = .ok (.invokevirtual 95, 3) := by decide +kernel
theorem dX4_runMinute_43 : decode cX4_runMinute 43 = .ok (.aload_n 0, 1) := by decide +kernel
theorem dX4_runMinute_44 : decode cX4_runMinute 44 = .ok (.getfield 21, 3) := by decide +kernel
theorem dX4_runMinute_47 : decode cX4_runMinute 47 = .ok (.getfield 99, 3) := by decide +kernel
theorem dX4_runMinute_50 : decode cX4_runMinute 50 = .ok (.iload_n 2, 1) := by decide +kernel
theorem dX4_runMinute_51 : decode cX4_runMinute 51 = .ok (.iaload, 1) := by decide +kernel
theorem dX4_runMinute_52 : decode cX4_runMinute 52 = .ok (.aload_n 0, 1) := by decide +kernel
theorem dX4_runMinute_53 : decode cX4_runMinute 53 = .ok (.getfield 21, 3) := by decide +kernel
theorem dX4_runMinute_56 : decode cX4_runMinute 56 = .ok (.getfield 102, 3) := by decide +kernel
theorem dX4_runMinute_59 : decode cX4_runMinute 59 = .ok (.iload_n 2, 1) := by decide +kernel
theorem dX4_runMinute_60 : decode cX4_runMinute 60 = .ok (.iaload, 1) := by decide +kernel
theorem dX4_runMinute_61 : decode cX4_runMinute 61 = .ok (.if_icmp .lt 12, 3) := by decide +kernel
theorem dX4_runMinute_64 : decode cX4_runMinute 64 = .ok (.aload_n 0, 1) := by decide +kernel
theorem dX4_runMinute_65 : decode cX4_runMinute 65 = .ok (.iload_n 2, 1) := by decide +kernel
theorem dX4_runMinute_66 : decode cX4_runMinute 66 = .ok (.iconst 2, 1) := by decide +kernel
theorem dX4_runMinute_67 : decode cX4_runMinute 67 = .ok (.invokevirtual 104, 3) := by decide +kernel
theorem dX4_runMinute_70 : decode cX4_runMinute 70 = .ok (.iinc 1 1, 3) := by decide +kernel
theorem dX4_runMinute_73 : decode cX4_runMinute 73 = .ok (.iinc 2 1, 3) := by decide +kernel
theorem dX4_runMinute_76 : decode cX4_runMinute 76 = .ok (.goto (-62), 3) := by decide +kernel
theorem dX4_runMinute_79 : decode cX4_runMinute 79 = .ok (.aload_n 0, 1) := by decide +kernel
theorem dX4_runMinute_80 : decode cX4_runMinute 80 = .ok (.getfield 12, 3) := by decide +kernel
theorem dX4_runMinute_83 : decode cX4_runMinute 83 = .ok (.invokevirtual 108, 3) := by decide +kernel
theorem dX4_runMinute_86 : decode cX4_runMinute 86 = .ok (.istore_n 2, 1) := by decide +kernel
theorem dX4_runMinute_87 : decode cX4_runMinute 87 = .ok (.iload_n 2, 1) := by decide +kernel
theorem dX4_runMinute_88 : decode cX4_runMinute 88 = .ok (.iconst (-1), 1) := by decide +kernel
theorem dX4_runMinute_89 : decode cX4_runMinute 89 = .ok (.if_icmp .ne 7, 3) := by decide +kernel
theorem dX4_runMinute_92 : decode cX4_runMinute 92 = .ok (.iconst (-1), 1) := by decide +kernel
theorem dX4_runMinute_93 : decode cX4_runMinute 93 = .ok (.goto 7, 3) := by decide +kernel
theorem dX4_runMinute_96 : decode cX4_runMinute 96 = .ok (.aload_n 0, 1) := by decide +kernel
theorem dX4_runMinute_97 : decode cX4_runMinute 97 = .ok (.invokevirtual 111, 3) := by decide +kernel
theorem dX4_runMinute_100 : decode cX4_runMinute 100 = .ok (.istore_n 3, 1) := by decide +kernel
theorem dX4_runMinute_101 : decode cX4_runMinute 101 = .ok (.iload_n 3, 1) := by decide +kernel
theorem dX4_runMinute_102 : decode cX4_runMinute 102 = .ok (.iconst (-1), 1) := by decide +kernel
theorem dX4_runMinute_103 : decode cX4_runMinute 103 = .ok (.if_icmp .eq 9, 3) := by decide +kernel
theorem dX4_runMinute_106 : decode cX4_runMinute 106 = .ok (.aload_n 0, 1) := by decide +kernel
theorem dX4_runMinute_107 : decode cX4_runMinute 107 = .ok (.iload_n 3, 1) := by decide +kernel
theorem dX4_runMinute_108 : decode cX4_runMinute 108 = .ok (.iload_n 2, 1) := by decide +kernel
theorem dX4_runMinute_109 : decode cX4_runMinute 109 = .ok (.invokevirtual 114, 3) := by decide +kernel
theorem dX4_runMinute_112 : decode cX4_runMinute 112 = .ok (.iload_n 1, 1) := by decide +kernel
theorem dX4_runMinute_113 : decode cX4_runMinute 113 = .ok (.ireturn, 1) := by decide +kernel
theorem dX4_moveBlock_0 : decode cX4_moveBlock 0 = .ok (.aload_n 0, 1) := by decide +kernel
theorem dX4_moveBlock_1 : decode cX4_moveBlock 1 = .ok (.getfield 21, 3) := by decide +kernel
theorem dX4_moveBlock_4 : decode cX4_moveBlock 4 = .ok (.getfield 75, 3) := by decide +kernel
theorem dX4_moveBlock_7 : decode cX4_moveBlock 7 = .ok (.iload_n 1, 1) := by decide +kernel
theorem dX4_moveBlock_8 : decode cX4_moveBlock 8 = .ok (.iaload, 1) := by decide +kernel
theorem dX4_moveBlock_9 : decode cX4_moveBlock 9 = .ok (.istore_n 2, 1) := by decide +kernel
theorem dX4_moveBlock_10 : decode cX4_moveBlock 10 = .ok (.aload_n 0, 1) := by decide +kernel
theorem dX4_moveBlock_11 : decode cX4_moveBlock 11 = .ok (.getfield 21, 3) := by decide +kernel
theorem dX4_moveBlock_14 : decode cX4_moveBlock 14 = .ok (.getfield 99, 3) := by decide +kernel
theorem dX4_moveBlock_17 : decode cX4_moveBlock 17 = .ok (.iload_n 1, 1) := by decide +kernel
theorem dX4_moveBlock_18 : decode cX4_moveBlock 18 = .ok (.dup2, 1) := by decide +kernel
theorem dX4_moveBlock_19 : decode cX4_moveBlock 19 = .ok (.iaload, 1) := by decide +kernel
theorem dX4_moveBlock_20 : decode cX4_moveBlock 20 = .ok (.iconst 1, 1) := by decide +kernel
theorem dX4_moveBlock_21 : decode cX4_moveBlock 21 = .ok (.iadd, 1) := by decide +kernel
theorem dX4_moveBlock_22 : decode cX4_moveBlock 22 = .ok (.iastore, 1) := by decide +kernel
theorem dX4_moveBlock_23 : decode cX4_moveBlock 23 = .ok (.aload_n 0, 1) := by decide +kernel
theorem dX4_moveBlock_24 : decode cX4_moveBlock 24 = .ok (.getfield 21, 3) := by decide +kernel
theorem dX4_moveBlock_27 : decode cX4_moveBlock 27 = .ok (.getfield 117, 3) := by decide +kernel
theorem dX4_moveBlock_30 : decode cX4_moveBlock 30 = .ok (.iload_n 1, 1) := by decide +kernel
theorem dX4_moveBlock_31 : decode cX4_moveBlock 31 = .ok (.iaload, 1) := by decide +kernel
theorem dX4_moveBlock_32 : decode cX4_moveBlock 32 = .ok (.ifCond .ne 16, 3) := by decide +kernel
theorem dX4_moveBlock_35 : decode cX4_moveBlock 35 = .ok (.aload_n 0, 1) := by decide +kernel
theorem dX4_moveBlock_36 : decode cX4_moveBlock 36 = .ok (.dup, 1) := by decide +kernel
theorem dX4_moveBlock_37 : decode cX4_moveBlock 37 = .ok (.getfield 47, 3) := by decide +kernel
theorem dX4_moveBlock_40 : decode cX4_moveBlock 40 = .ok (.iconst 1, 1) := by decide +kernel
theorem dX4_moveBlock_41 : decode cX4_moveBlock 41 = .ok (.iadd, 1) := by decide +kernel
theorem dX4_moveBlock_42 : decode cX4_moveBlock 42 = .ok (.putfield 47, 3) := by decide +kernel
theorem dX4_moveBlock_45 : decode cX4_moveBlock 45 = .ok (.goto 60, 3) := by decide +kernel
theorem dX4_moveBlock_48 : decode cX4_moveBlock 48 = .ok (.iload_n 2, 1) := by decide +kernel
theorem dX4_moveBlock_49 : decode cX4_moveBlock 49 = .ok (.invokestatic 79, 3) := by decide +kernel
theorem dX4_moveBlock_52 : decode cX4_moveBlock 52 = .ok (.ifCond .eq 43, 3) := by decide +kernel
theorem dX4_moveBlock_55 : decode cX4_moveBlock 55 = .ok (.aload_n 0, 1) := by decide +kernel
theorem dX4_moveBlock_56 : decode cX4_moveBlock 56 = .ok (.getfield 12, 3) := by decide +kernel
theorem dX4_moveBlock_59 : decode cX4_moveBlock 59 = .ok (.getfield 120, 3) := by decide +kernel
theorem dX4_moveBlock_62 : decode cX4_moveBlock 62 = .ok (.iload_n 2, 1) := by decide +kernel
theorem dX4_moveBlock_63 : decode cX4_moveBlock 63 = .ok (.iaload, 1) := by decide +kernel
theorem dX4_moveBlock_64 : decode cX4_moveBlock 64 = .ok (.bipush 99, 2) := by decide +kernel
theorem dX4_moveBlock_66 : decode cX4_moveBlock 66 = .ok (.if_icmp .ge 29, 3) := by decide +kernel
theorem dX4_moveBlock_69 : decode cX4_moveBlock 69 = .ok (.aload_n 0, 1) := by decide +kernel
theorem dX4_moveBlock_70 : decode cX4_moveBlock 70 = .ok (.getfield 12, 3) := by decide +kernel
theorem dX4_moveBlock_73 : decode cX4_moveBlock 73 = .ok (.getfield 120, 3) := by decide +kernel
theorem dX4_moveBlock_76 : decode cX4_moveBlock 76 = .ok (.iload_n 2, 1) := by decide +kernel
theorem dX4_moveBlock_77 : decode cX4_moveBlock 77 = .ok (.dup2, 1) := by decide +kernel
theorem dX4_moveBlock_78 : decode cX4_moveBlock 78 = .ok (.iaload, 1) := by decide +kernel
theorem dX4_moveBlock_79 : decode cX4_moveBlock 79 = .ok (.iconst 1, 1) := by decide +kernel
theorem dX4_moveBlock_80 : decode cX4_moveBlock 80 = .ok (.iadd, 1) := by decide +kernel
theorem dX4_moveBlock_81 : decode cX4_moveBlock 81 = .ok (.iastore, 1) := by decide +kernel
theorem dX4_moveBlock_82 : decode cX4_moveBlock 82 = .ok (.aload_n 0, 1) := by decide +kernel
theorem dX4_moveBlock_83 : decode cX4_moveBlock 83 = .ok (.dup, 1) := by decide +kernel
theorem dX4_moveBlock_84 : decode cX4_moveBlock 84 = .ok (.getfield 50, 3) := by decide +kernel
theorem dX4_moveBlock_87 : decode cX4_moveBlock 87 = .ok (.iconst 1, 1) := by decide +kernel
theorem dX4_moveBlock_88 : decode cX4_moveBlock 88 = .ok (.iadd, 1) := by decide +kernel
theorem dX4_moveBlock_89 : decode cX4_moveBlock 89 = .ok (.putfield 50, 3) := by decide +kernel
theorem dX4_moveBlock_92 : decode cX4_moveBlock 92 = .ok (.goto 13, 3) := by decide +kernel
theorem dX4_moveBlock_95 : decode cX4_moveBlock 95 = .ok (.aload_n 0, 1) := by decide +kernel
theorem dX4_moveBlock_96 : decode cX4_moveBlock 96 = .ok (.dup, 1) := by decide +kernel
theorem dX4_moveBlock_97 : decode cX4_moveBlock 97 = .ok (.getfield 53, 3) := by decide +kernel
theorem dX4_moveBlock_100 : decode cX4_moveBlock 100 = .ok (.iconst 1, 1) := by decide +kernel
theorem dX4_moveBlock_101 : decode cX4_moveBlock 101 = .ok (.iadd, 1) := by decide +kernel
theorem dX4_moveBlock_102 : decode cX4_moveBlock 102 = .ok (.putfield 53, 3) := by decide +kernel
theorem dX4_moveBlock_105 : decode cX4_moveBlock 105 = .ok (.return_, 1) := by decide +kernel
theorem dX4_lacksReel_0 : decode cX4_lacksReel 0 = .ok (.aload_n 0, 1) := by decide +kernel
theorem dX4_lacksReel_1 : decode cX4_lacksReel 1 = .ok (.getfield 12, 3) := by decide +kernel
theorem dX4_lacksReel_4 : decode cX4_lacksReel 4 = .ok (.aload_n 0, 1) := by decide +kernel
theorem dX4_lacksReel_5 : decode cX4_lacksReel 5 = .ok (.getfield 21, 3) := by decide +kernel
theorem dX4_lacksReel_8 : decode cX4_lacksReel 8 = .ok (.iload_n 1, 1) := by decide +kernel
theorem dX4_lacksReel_9 : decode cX4_lacksReel 9 = .ok (.invokevirtual 121, 3) := by decide +kernel
theorem dX4_lacksReel_12 : decode cX4_lacksReel 12 = .ok (.invokevirtual 125, 3) := by decide +kernel
theorem dX4_lacksReel_15 : decode cX4_lacksReel 15 = .ok (.iconst (-1), 1) := by decide +kernel
theorem dX4_lacksReel_16 : decode cX4_lacksReel 16 = .ok (.if_icmp .ne 7, 3) := by decide +kernel
theorem dX4_lacksReel_19 : decode cX4_lacksReel 19 = .ok (.iconst 1, 1) := by decide +kernel
theorem dX4_lacksReel_20 : decode cX4_lacksReel 20 = .ok (.goto 4, 3) := by decide +kernel
theorem dX4_lacksReel_23 : decode cX4_lacksReel 23 = .ok (.iconst 0, 1) := by decide +kernel
theorem dX4_lacksReel_24 : decode cX4_lacksReel 24 = .ok (.ireturn, 1) := by decide +kernel
theorem dX4_findNextJob_0 : decode cX4_findNextJob 0 = .ok (.iconst (-1), 1) := by decide +kernel
theorem dX4_findNextJob_1 : decode cX4_findNextJob 1 = .ok (.istore_n 1, 1) := by decide +kernel
theorem dX4_findNextJob_2 : decode cX4_findNextJob 2 = .ok (.iconst (-1), 1) := by decide +kernel
theorem dX4_findNextJob_3 : decode cX4_findNextJob 3 = .ok (.istore_n 2, 1) := by decide +kernel
theorem dX4_findNextJob_4 : decode cX4_findNextJob 4 = .ok (.iconst 0, 1) := by decide +kernel
theorem dX4_findNextJob_5 : decode cX4_findNextJob 5 = .ok (.istore_n 3, 1) := by decide +kernel
theorem dX4_findNextJob_6 : decode cX4_findNextJob 6 = .ok (.iload_n 3, 1) := by decide +kernel
theorem dX4_findNextJob_7 : decode cX4_findNextJob 7 = .ok (.aload_n 0, 1) := by decide +kernel
theorem dX4_findNextJob_8 : decode cX4_findNextJob 8 = .ok (.getfield 21, 3) := by decide +kernel
theorem dX4_findNextJob_11 : decode cX4_findNextJob 11 = .ok (.getfield 92, 3) := by decide +kernel
theorem dX4_findNextJob_14 : decode cX4_findNextJob 14 = .ok (.if_icmp .ge 54, 3) := by decide +kernel
theorem dX4_findNextJob_17 : decode cX4_findNextJob 17 = .ok (.aload_n 0, 1) := by decide +kernel
theorem dX4_findNextJob_18 : decode cX4_findNextJob 18 = .ok (.getfield 21, 3) := by decide +kernel
theorem dX4_findNextJob_21 : decode cX4_findNextJob 21 = .ok (.getfield 85, 3) := by decide +kernel
theorem dX4_findNextJob_24 : decode cX4_findNextJob 24 = .ok (.iload_n 3, 1) := by decide +kernel
theorem dX4_findNextJob_25 : decode cX4_findNextJob 25 = .ok (.iaload, 1) := by decide +kernel
theorem dX4_findNextJob_26 : decode cX4_findNextJob 26 = .ok (.ifCond .ne 36, 3) := by decide +kernel
theorem dX4_findNextJob_29 : decode cX4_findNextJob 29 = .ok (.aload_n 0, 1) := by decide +kernel
theorem dX4_findNextJob_30 : decode cX4_findNextJob 30 = .ok (.getfield 21, 3) := by decide +kernel
theorem dX4_findNextJob_33 : decode cX4_findNextJob 33 = .ok (.getfield 128, 3) := by decide +kernel
theorem dX4_findNextJob_36 : decode cX4_findNextJob 36 = .ok (.iload_n 3, 1) := by decide +kernel
theorem dX4_findNextJob_37 : decode cX4_findNextJob 37 = .ok (.iaload, 1) := by decide +kernel
theorem dX4_findNextJob_38 : decode cX4_findNextJob 38 = .ok (.iload_n 2, 1) := by decide +kernel
theorem dX4_findNextJob_39 : decode cX4_findNextJob 39 = .ok (.if_icmp .le 23, 3) := by decide +kernel
theorem dX4_findNextJob_42 : decode cX4_findNextJob 42 = .ok (.aload_n 0, 1) := by decide +kernel
theorem dX4_findNextJob_43 : decode cX4_findNextJob 43 = .ok (.iload_n 3, 1) := by decide +kernel
theorem dX4_findNextJob_44 : decode cX4_findNextJob 44 = .ok (.invokevirtual 131, 3) := by decide +kernel
theorem dX4_findNextJob_47 : decode cX4_findNextJob 47 = .ok (.ifCond .ne 15, 3) := by decide +kernel
theorem dX4_findNextJob_50 : decode cX4_findNextJob 50 = .ok (.iload_n 3, 1) := by decide +kernel
theorem dX4_findNextJob_51 : decode cX4_findNextJob 51 = .ok (.istore_n 1, 1) := by decide +kernel
theorem dX4_findNextJob_52 : decode cX4_findNextJob 52 = .ok (.aload_n 0, 1) := by decide +kernel
theorem dX4_findNextJob_53 : decode cX4_findNextJob 53 = .ok (.getfield 21, 3) := by decide +kernel
theorem dX4_findNextJob_56 : decode cX4_findNextJob 56 = .ok (.getfield 128, 3) := by decide +kernel
theorem dX4_findNextJob_59 : decode cX4_findNextJob 59 = .ok (.iload_n 3, 1) := by decide +kernel
theorem dX4_findNextJob_60 : decode cX4_findNextJob 60 = .ok (.iaload, 1) := by decide +kernel
theorem dX4_findNextJob_61 : decode cX4_findNextJob 61 = .ok (.istore_n 2, 1) := by decide +kernel
theorem dX4_findNextJob_62 : decode cX4_findNextJob 62 = .ok (.iinc 3 1, 3) := by decide +kernel
theorem dX4_findNextJob_65 : decode cX4_findNextJob 65 = .ok (.goto (-59), 3) := by decide +kernel
theorem dX4_findNextJob_68 : decode cX4_findNextJob 68 = .ok (.iload_n 1, 1) := by decide +kernel
theorem dX4_findNextJob_69 : decode cX4_findNextJob 69 = .ok (.ireturn, 1) := by decide +kernel
theorem dX4_isSlip_0 : decode cX4_isSlip 0 = .ok (.aload_n 0, 1) := by decide +kernel
theorem dX4_isSlip_1 : decode cX4_isSlip 1 = .ok (.getfield 29, 3) := by decide +kernel
theorem dX4_isSlip_4 : decode cX4_isSlip 4 = .ok (.ifCond .eq 16, 3) := by decide +kernel
theorem dX4_isSlip_7 : decode cX4_isSlip 7 = .ok (.iload_n 1, 1) := by decide +kernel
theorem dX4_isSlip_8 : decode cX4_isSlip 8 = .ok (.aload_n 0, 1) := by decide +kernel
theorem dX4_isSlip_9 : decode cX4_isSlip 9 = .ok (.getfield 29, 3) := by decide +kernel
theorem dX4_isSlip_12 : decode cX4_isSlip 12 = .ok (.irem, 1) := by decide +kernel
theorem dX4_isSlip_13 : decode cX4_isSlip 13 = .ok (.ifCond .ne 7, 3) := by decide +kernel
theorem dX4_isSlip_16 : decode cX4_isSlip 16 = .ok (.iconst 1, 1) := by decide +kernel
theorem dX4_isSlip_17 : decode cX4_isSlip 17 = .ok (.goto 4, 3) := by decide +kernel
theorem dX4_isSlip_20 : decode cX4_isSlip 20 = .ok (.iconst 0, 1) := by decide +kernel
theorem dX4_isSlip_21 : decode cX4_isSlip 21 = .ok (.ireturn, 1) := by decide +kernel
theorem dX4_chooseReel_0 : decode cX4_chooseReel 0 = .ok (.aload_n 0, 1) := by decide +kernel
theorem dX4_chooseReel_1 : decode cX4_chooseReel 1 = .ok (.getfield 12, 3) := by decide +kernel
theorem dX4_chooseReel_4 : decode cX4_chooseReel 4 = .ok (.aload_n 0, 1) := by decide +kernel
theorem dX4_chooseReel_5 : decode cX4_chooseReel 5 = .ok (.getfield 21, 3) := by decide +kernel
theorem dX4_chooseReel_8 : decode cX4_chooseReel 8 = .ok (.iload_n 1, 1) := by decide +kernel
theorem dX4_chooseReel_9 : decode cX4_chooseReel 9 = .ok (.invokevirtual 121, 3) := by decide +kernel
theorem dX4_chooseReel_12 : decode cX4_chooseReel 12 = .ok (.invokevirtual 125, 3) := by decide +kernel
theorem dX4_chooseReel_15 : decode cX4_chooseReel 15 = .ok (.istore_n 3, 1) := by decide +kernel
theorem dX4_chooseReel_16 : decode cX4_chooseReel 16 = .ok (.iload_n 2, 1) := by decide +kernel
theorem dX4_chooseReel_17 : decode cX4_chooseReel 17 = .ok (.ifCond .eq 19, 3) := by decide +kernel
theorem dX4_chooseReel_20 : decode cX4_chooseReel 20 = .ok (.iload_n 3, 1) := by decide +kernel
theorem dX4_chooseReel_21 : decode cX4_chooseReel 21 = .ok (.iconst (-1), 1) := by decide +kernel
theorem dX4_chooseReel_22 : decode cX4_chooseReel 22 = .ok (.if_icmp .eq 14, 3) := by decide +kernel
theorem dX4_chooseReel_25 : decode cX4_chooseReel 25 = .ok (.aload_n 0, 1) := by decide +kernel
theorem dX4_chooseReel_26 : decode cX4_chooseReel 26 = .ok (.getfield 12, 3) := by decide +kernel
theorem dX4_chooseReel_29 : decode cX4_chooseReel 29 = .ok (.iload_n 3, 1) := by decide +kernel
theorem dX4_chooseReel_30 : decode cX4_chooseReel 30 = .ok (.invokevirtual 134, 3) := by decide +kernel
theorem dX4_chooseReel_33 : decode cX4_chooseReel 33 = .ok (.goto 4, 3) := by decide +kernel
theorem dX4_chooseReel_36 : decode cX4_chooseReel 36 = .ok (.iload_n 3, 1) := by decide +kernel
theorem dX4_chooseReel_37 : decode cX4_chooseReel 37 = .ok (.ireturn, 1) := by decide +kernel
theorem dX4_serve_0 : decode cX4_serve 0 = .ok (.aload_n 0, 1) := by decide +kernel
theorem dX4_serve_1 : decode cX4_serve 1 = .ok (.dup, 1) := by decide +kernel
theorem dX4_serve_2 : decode cX4_serve 2 = .ok (.getfield 38, 3) := by decide +kernel
theorem dX4_serve_5 : decode cX4_serve 5 = .ok (.iconst 1, 1) := by decide +kernel
theorem dX4_serve_6 : decode cX4_serve 6 = .ok (.iadd, 1) := by decide +kernel
theorem dX4_serve_7 : decode cX4_serve 7 = .ok (.putfield 38, 3) := by decide +kernel
theorem dX4_serve_10 : decode cX4_serve 10 = .ok (.aload_n 0, 1) := by decide +kernel
theorem dX4_serve_11 : decode cX4_serve 11 = .ok (.aload_n 0, 1) := by decide +kernel
theorem dX4_serve_12 : decode cX4_serve 12 = .ok (.getfield 38, 3) := by decide +kernel
theorem dX4_serve_15 : decode cX4_serve 15 = .ok (.invokevirtual 137, 3) := by decide +kernel
theorem dX4_serve_18 : decode cX4_serve 18 = .ok (.istore_n 3, 1) := by decide +kernel
theorem dX4_serve_19 : decode cX4_serve 19 = .ok (.aload_n 0, 1) := by decide +kernel
theorem dX4_serve_20 : decode cX4_serve 20 = .ok (.iload_n 1, 1) := by decide +kernel
theorem dX4_serve_21 : decode cX4_serve 21 = .ok (.iload_n 3, 1) := by decide +kernel
theorem dX4_serve_22 : decode cX4_serve 22 = .ok (.invokevirtual 140, 3) := by decide +kernel
theorem dX4_serve_25 : decode cX4_serve 25 = .ok (.istore 4, 2) := by decide +kernel
theorem dX4_serve_27 : decode cX4_serve 27 = .ok (.iload 4, 2) := by decide +kernel
theorem dX4_serve_29 : decode cX4_serve 29 = .ok (.invokestatic 79, 3) := by decide +kernel
theorem dX4_serve_32 : decode cX4_serve 32 = .ok (.ifCond .ne 4, 3) := by decide +kernel
theorem dX4_serve_35 : decode cX4_serve 35 = .ok (.return_, 1) := by decide +kernel
theorem dX4_serve_36 : decode cX4_serve 36 = .ok (.iload_n 3, 1) := by decide +kernel
theorem dX4_serve_37 : decode cX4_serve 37 = .ok (.ifCond .eq 16, 3) := by decide +kernel
theorem dX4_serve_40 : decode cX4_serve 40 = .ok (.aload_n 0, 1) := by decide +kernel
theorem dX4_serve_41 : decode cX4_serve 41 = .ok (.dup, 1) := by decide +kernel
theorem dX4_serve_42 : decode cX4_serve 42 = .ok (.getfield 41, 3) := by decide +kernel
theorem dX4_serve_45 : decode cX4_serve 45 = .ok (.iconst 1, 1) := by decide +kernel
theorem dX4_serve_46 : decode cX4_serve 46 = .ok (.iadd, 1) := by decide +kernel
theorem dX4_serve_47 : decode cX4_serve 47 = .ok (.putfield 41, 3) := by decide +kernel
theorem dX4_serve_50 : decode cX4_serve 50 = .ok (.goto 30, 3) := by decide +kernel
theorem dX4_serve_53 : decode cX4_serve 53 = .ok (.aload_n 0, 1) := by decide +kernel
theorem dX4_serve_54 : decode cX4_serve 54 = .ok (.getfield 12, 3) := by decide +kernel
theorem dX4_serve_57 : decode cX4_serve 57 = .ok (.getfield 144, 3) := by decide +kernel
theorem dX4_serve_60 : decode cX4_serve 60 = .ok (.iload 4, 2) := by decide +kernel
theorem dX4_serve_62 : decode cX4_serve 62 = .ok (.aload_n 0, 1) := by decide +kernel
theorem dX4_serve_63 : decode cX4_serve 63 = .ok (.getfield 21, 3) := by decide +kernel
theorem dX4_serve_66 : decode cX4_serve 66 = .ok (.getfield 117, 3) := by decide +kernel
theorem dX4_serve_69 : decode cX4_serve 69 = .ok (.iload_n 1, 1) := by decide +kernel
theorem dX4_serve_70 : decode cX4_serve 70 = .ok (.iaload, 1) := by decide +kernel
theorem dX4_serve_71 : decode cX4_serve 71 = .ok (.ifCond .eq 7, 3) := by decide +kernel
theorem dX4_serve_74 : decode cX4_serve 74 = .ok (.iconst 1, 1) := by decide +kernel
theorem dX4_serve_75 : decode cX4_serve 75 = .ok (.goto 4, 3) := by decide +kernel
theorem dX4_serve_78 : decode cX4_serve 78 = .ok (.iconst 0, 1) := by decide +kernel
theorem dX4_serve_79 : decode cX4_serve 79 = .ok (.bastore, 1) := by decide +kernel
theorem dX4_serve_80 : decode cX4_serve 80 = .ok (.aload_n 0, 1) := by decide +kernel
theorem dX4_serve_81 : decode cX4_serve 81 = .ok (.iload_n 1, 1) := by decide +kernel
theorem dX4_serve_82 : decode cX4_serve 82 = .ok (.iload 4, 2) := by decide +kernel
theorem dX4_serve_84 : decode cX4_serve 84 = .ok (.invokevirtual 148, 3) := by decide +kernel
theorem dX4_serve_87 : decode cX4_serve 87 = .ok (.ifCond .ne 14, 3) := by decide +kernel
theorem dX4_serve_90 : decode cX4_serve 90 = .ok (.aload_n 0, 1) := by decide +kernel
theorem dX4_serve_91 : decode cX4_serve 91 = .ok (.iload_n 1, 1) := by decide +kernel
theorem dX4_serve_92 : decode cX4_serve 92 = .ok (.iload 4, 2) := by decide +kernel
theorem dX4_serve_94 : decode cX4_serve 94 = .ok (.iload_n 2, 1) := by decide +kernel
theorem dX4_serve_95 : decode cX4_serve 95 = .ok (.invokevirtual 152, 3) := by decide +kernel
theorem dX4_serve_98 : decode cX4_serve 98 = .ok (.goto 10, 3) := by decide +kernel
theorem dX4_serve_101 : decode cX4_serve 101 = .ok (.aload_n 0, 1) := by decide +kernel
theorem dX4_serve_102 : decode cX4_serve 102 = .ok (.iload_n 1, 1) := by decide +kernel
theorem dX4_serve_103 : decode cX4_serve 103 = .ok (.iload 4, 2) := by decide +kernel
theorem dX4_serve_105 : decode cX4_serve 105 = .ok (.invokevirtual 156, 3) := by decide +kernel
theorem dX4_serve_108 : decode cX4_serve 108 = .ok (.return_, 1) := by decide +kernel
theorem dX4_check_0 : decode cX4_check 0 = .ok (.aload_n 0, 1) := by decide +kernel
theorem dX4_check_1 : decode cX4_check 1 = .ok (.getfield 21, 3) := by decide +kernel
theorem dX4_check_4 : decode cX4_check 4 = .ok (.getfield 117, 3) := by decide +kernel
theorem dX4_check_7 : decode cX4_check 7 = .ok (.iload_n 1, 1) := by decide +kernel
theorem dX4_check_8 : decode cX4_check 8 = .ok (.iaload, 1) := by decide +kernel
theorem dX4_check_9 : decode cX4_check 9 = .ok (.istore_n 3, 1) := by decide +kernel
theorem dX4_check_10 : decode cX4_check 10 = .ok (.iload_n 3, 1) := by decide +kernel
theorem dX4_check_11 : decode cX4_check 11 = .ok (.iconst 2, 1) := by decide +kernel
theorem dX4_check_12 : decode cX4_check 12 = .ok (.if_icmp .eq 26, 3) := by decide +kernel
theorem dX4_check_15 : decode cX4_check 15 = .ok (.aload_n 0, 1) := by decide +kernel
theorem dX4_check_16 : decode cX4_check 16 = .ok (.getfield 12, 3) := by decide +kernel
theorem dX4_check_19 : decode cX4_check 19 = .ok (.getfield 159, 3) := by decide +kernel
theorem dX4_check_22 : decode cX4_check 22 = .ok (.iload_n 2, 1) := by decide +kernel
theorem dX4_check_23 : decode cX4_check 23 = .ok (.iaload, 1) := by decide +kernel
theorem dX4_check_24 : decode cX4_check 24 = .ok (.aload_n 0, 1) := by decide +kernel
theorem dX4_check_25 : decode cX4_check 25 = .ok (.getfield 21, 3) := by decide +kernel
theorem dX4_check_28 : decode cX4_check 28 = .ok (.getfield 162, 3) := by decide +kernel
theorem dX4_check_31 : decode cX4_check 31 = .ok (.iload_n 1, 1) := by decide +kernel
theorem dX4_check_32 : decode cX4_check 32 = .ok (.iaload, 1) := by decide +kernel
theorem dX4_check_33 : decode cX4_check 33 = .ok (.if_icmp .eq 5, 3) := by decide +kernel
theorem dX4_check_36 : decode cX4_check 36 = .ok (.iconst 1, 1) := by decide +kernel
theorem dX4_check_37 : decode cX4_check 37 = .ok (.ireturn, 1) := by decide +kernel
theorem dX4_check_38 : decode cX4_check 38 = .ok (.iload_n 3, 1) := by decide +kernel
theorem dX4_check_39 : decode cX4_check 39 = .ok (.iconst 2, 1) := by decide +kernel
theorem dX4_check_40 : decode cX4_check 40 = .ok (.if_icmp .ne 20, 3) := by decide +kernel
theorem dX4_check_43 : decode cX4_check 43 = .ok (.aload_n 0, 1) := by decide +kernel
theorem dX4_check_44 : decode cX4_check 44 = .ok (.getfield 12, 3) := by decide +kernel
theorem dX4_check_47 : decode cX4_check 47 = .ok (.iload_n 2, 1) := by decide +kernel
theorem dX4_check_48 : decode cX4_check 48 = .ok (.aload_n 0, 1) := by decide +kernel
theorem dX4_check_49 : decode cX4_check 49 = .ok (.getfield 25, 3) := by decide +kernel
theorem dX4_check_52 : decode cX4_check 52 = .ok (.invokevirtual 165, 3) := by decide +kernel
theorem dX4_check_55 : decode cX4_check 55 = .ok (.ifCond .ne 5, 3) := by decide +kernel
theorem dX4_check_58 : decode cX4_check 58 = .ok (.iconst 2, 1) := by decide +kernel
theorem dX4_check_59 : decode cX4_check 59 = .ok (.ireturn, 1) := by decide +kernel
theorem dX4_check_60 : decode cX4_check 60 = .ok (.iload_n 3, 1) := by decide +kernel
theorem dX4_check_61 : decode cX4_check 61 = .ok (.ifCond .ne 17, 3) := by decide +kernel
theorem dX4_check_64 : decode cX4_check 64 = .ok (.aload_n 0, 1) := by decide +kernel
theorem dX4_check_65 : decode cX4_check 65 = .ok (.getfield 12, 3) := by decide +kernel
theorem dX4_check_68 : decode cX4_check 68 = .ok (.getfield 144, 3) := by decide +kernel
theorem dX4_check_71 : decode cX4_check 71 = .ok (.iload_n 2, 1) := by decide +kernel
theorem dX4_check_72 : decode cX4_check 72 = .ok (.baload, 1) := by decide +kernel
theorem dX4_check_73 : decode cX4_check 73 = .ok (.ifCond .eq 5, 3) := by decide +kernel
theorem dX4_check_76 : decode cX4_check 76 = .ok (.iconst 3, 1) := by decide +kernel
theorem dX4_check_77 : decode cX4_check 77 = .ok (.ireturn, 1) := by decide +kernel
theorem dX4_check_78 : decode cX4_check 78 = .ok (.iload_n 3, 1) := by decide +kernel
theorem dX4_check_79 : decode cX4_check 79 = .ok (.ifCond .eq 17, 3) := by decide +kernel
theorem dX4_check_82 : decode cX4_check 82 = .ok (.aload_n 0, 1) := by decide +kernel
theorem dX4_check_83 : decode cX4_check 83 = .ok (.getfield 12, 3) := by decide +kernel
theorem dX4_check_86 : decode cX4_check 86 = .ok (.getfield 144, 3) := by decide +kernel
theorem dX4_check_89 : decode cX4_check 89 = .ok (.iload_n 2, 1) := by decide +kernel
theorem dX4_check_90 : decode cX4_check 90 = .ok (.baload, 1) := by decide +kernel
theorem dX4_check_91 : decode cX4_check 91 = .ok (.ifCond .ne 5, 3) := by decide +kernel
theorem dX4_check_94 : decode cX4_check 94 = .ok (.iconst 4, 1) := by decide +kernel
theorem dX4_check_95 : decode cX4_check 95 = .ok (.ireturn, 1) := by decide +kernel
theorem dX4_check_96 : decode cX4_check 96 = .ok (.iconst 0, 1) := by decide +kernel
theorem dX4_check_97 : decode cX4_check 97 = .ok (.ireturn, 1) := by decide +kernel
theorem dX4_mount_0 : decode cX4_mount 0 = .ok (.aload_n 0, 1) := by decide +kernel
theorem dX4_mount_1 : decode cX4_mount 1 = .ok (.getfield 12, 3) := by decide +kernel
theorem dX4_mount_4 : decode cX4_mount 4 = .ok (.getfield 82, 3) := by decide +kernel
theorem dX4_mount_7 : decode cX4_mount 7 = .ok (.iload_n 2, 1) := by decide +kernel
theorem dX4_mount_8 : decode cX4_mount 8 = .ok (.iload_n 3, 1) := by decide +kernel
theorem dX4_mount_9 : decode cX4_mount 9 = .ok (.iastore, 1) := by decide +kernel
theorem dX4_mount_10 : decode cX4_mount 10 = .ok (.aload_n 0, 1) := by decide +kernel
theorem dX4_mount_11 : decode cX4_mount 11 = .ok (.getfield 21, 3) := by decide +kernel
theorem dX4_mount_14 : decode cX4_mount 14 = .ok (.getfield 75, 3) := by decide +kernel
theorem dX4_mount_17 : decode cX4_mount 17 = .ok (.iload_n 1, 1) := by decide +kernel
theorem dX4_mount_18 : decode cX4_mount 18 = .ok (.iload_n 2, 1) := by decide +kernel
theorem dX4_mount_19 : decode cX4_mount 19 = .ok (.iastore, 1) := by decide +kernel
theorem dX4_mount_20 : decode cX4_mount 20 = .ok (.aload_n 0, 1) := by decide +kernel
theorem dX4_mount_21 : decode cX4_mount 21 = .ok (.getfield 21, 3) := by decide +kernel
theorem dX4_mount_24 : decode cX4_mount 24 = .ok (.getfield 85, 3) := by decide +kernel
theorem dX4_mount_27 : decode cX4_mount 27 = .ok (.iload_n 1, 1) := by decide +kernel
theorem dX4_mount_28 : decode cX4_mount 28 = .ok (.iconst 1, 1) := by decide +kernel
theorem dX4_mount_29 : decode cX4_mount 29 = .ok (.iastore, 1) := by decide +kernel
theorem dX4_mount_30 : decode cX4_mount 30 = .ok (.aload_n 0, 1) := by decide +kernel
theorem dX4_mount_31 : decode cX4_mount 31 = .ok (.getfield 21, 3) := by decide +kernel
theorem dX4_mount_34 : decode cX4_mount 34 = .ok (.getfield 117, 3) := by decide +kernel
theorem dX4_mount_37 : decode cX4_mount 37 = .ok (.iload_n 1, 1) := by decide +kernel
theorem dX4_mount_38 : decode cX4_mount 38 = .ok (.iaload, 1) := by decide +kernel
theorem dX4_mount_39 : decode cX4_mount 39 = .ok (.iconst 2, 1) := by decide +kernel
theorem dX4_mount_40 : decode cX4_mount 40 = .ok (.if_icmp .ne 67, 3) := by decide +kernel
theorem dX4_mount_43 : decode cX4_mount 43 = .ok (.aload_n 0, 1) := by decide +kernel
theorem dX4_mount_44 : decode cX4_mount 44 = .ok (.getfield 12, 3) := by decide +kernel
theorem dX4_mount_47 : decode cX4_mount 47 = .ok (.getfield 159, 3) := by decide +kernel
theorem dX4_mount_50 : decode cX4_mount 50 = .ok (.iload_n 2, 1) := by decide +kernel
theorem dX4_mount_51 : decode cX4_mount 51 = .ok (.aload_n 0, 1) := by decide +kernel
theorem dX4_mount_52 : decode cX4_mount 52 = .ok (.getfield 21, 3) := by decide +kernel
theorem dX4_mount_55 : decode cX4_mount 55 = .ok (.getfield 162, 3) := by decide +kernel
theorem dX4_mount_58 : decode cX4_mount 58 = .ok (.iload_n 1, 1) := by decide +kernel
theorem dX4_mount_59 : decode cX4_mount 59 = .ok (.iaload, 1) := by decide +kernel
theorem dX4_mount_60 : decode cX4_mount 60 = .ok (.iastore, 1) := by decide +kernel
theorem dX4_mount_61 : decode cX4_mount 61 = .ok (.aload_n 0, 1) := by decide +kernel
theorem dX4_mount_62 : decode cX4_mount 62 = .ok (.getfield 12, 3) := by decide +kernel
theorem dX4_mount_65 : decode cX4_mount 65 = .ok (.getfield 168, 3) := by decide +kernel
theorem dX4_mount_68 : decode cX4_mount 68 = .ok (.iload_n 2, 1) := by decide +kernel
theorem dX4_mount_69 : decode cX4_mount 69 = .ok (.aload_n 0, 1) := by decide +kernel
theorem dX4_mount_70 : decode cX4_mount 70 = .ok (.getfield 21, 3) := by decide +kernel
theorem dX4_mount_73 : decode cX4_mount 73 = .ok (.getfield 162, 3) := by decide +kernel
theorem dX4_mount_76 : decode cX4_mount 76 = .ok (.iload_n 1, 1) := by decide +kernel
theorem dX4_mount_77 : decode cX4_mount 77 = .ok (.iaload, 1) := by decide +kernel
theorem dX4_mount_78 : decode cX4_mount 78 = .ok (.iastore, 1) := by decide +kernel
theorem dX4_mount_79 : decode cX4_mount 79 = .ok (.aload_n 0, 1) := by decide +kernel
theorem dX4_mount_80 : decode cX4_mount 80 = .ok (.getfield 12, 3) := by decide +kernel
theorem dX4_mount_83 : decode cX4_mount 83 = .ok (.getfield 171, 3) := by decide +kernel
theorem dX4_mount_86 : decode cX4_mount 86 = .ok (.iload_n 2, 1) := by decide +kernel
theorem dX4_mount_87 : decode cX4_mount 87 = .ok (.aload_n 0, 1) := by decide +kernel
theorem dX4_mount_88 : decode cX4_mount 88 = .ok (.getfield 25, 3) := by decide +kernel
theorem dX4_mount_91 : decode cX4_mount 91 = .ok (.aload_n 0, 1) := by decide +kernel
theorem dX4_mount_92 : decode cX4_mount 92 = .ok (.getfield 32, 3) := by decide +kernel
theorem dX4_mount_95 : decode cX4_mount 95 = .ok (.iadd, 1) := by decide +kernel
theorem dX4_mount_96 : decode cX4_mount 96 = .ok (.iastore, 1) := by decide +kernel
theorem dX4_mount_97 : decode cX4_mount 97 = .ok (.aload_n 0, 1) := by decide +kernel
theorem dX4_mount_98 : decode cX4_mount 98 = .ok (.getfield 12, 3) := by decide +kernel
theorem dX4_mount_101 : decode cX4_mount 101 = .ok (.getfield 120, 3) := by decide +kernel
theorem dX4_mount_104 : decode cX4_mount 104 = .ok (.iload_n 2, 1) := by decide +kernel
theorem dX4_mount_105 : decode cX4_mount 105 = .ok (.iconst 0, 1) := by decide +kernel
theorem dX4_mount_106 : decode cX4_mount 106 = .ok (.iastore, 1) := by decide +kernel
theorem dX4_mount_107 : decode cX4_mount 107 = .ok (.return_, 1) := by decide +kernel
theorem dX4_sendBack_0 : decode cX4_sendBack 0 = .ok (.aload_n 0, 1) := by decide +kernel
theorem dX4_sendBack_1 : decode cX4_sendBack 1 = .ok (.dup, 1) := by decide +kernel
theorem dX4_sendBack_2 : decode cX4_sendBack 2 = .ok (.getfield 44, 3) := by decide +kernel
theorem dX4_sendBack_5 : decode cX4_sendBack 5 = .ok (.iconst 1, 1) := by decide +kernel
theorem dX4_sendBack_6 : decode cX4_sendBack 6 = .ok (.iadd, 1) := by decide +kernel
theorem dX4_sendBack_7 : decode cX4_sendBack 7 = .ok (.putfield 44, 3) := by decide +kernel
theorem dX4_sendBack_10 : decode cX4_sendBack 10 = .ok (.aload_n 0, 1) := by decide +kernel
theorem dX4_sendBack_11 : decode cX4_sendBack 11 = .ok (.getfield 21, 3) := by decide +kernel
theorem dX4_sendBack_14 : decode cX4_sendBack 14 = .ok (.getfield 174, 3) := by decide +kernel
theorem dX4_sendBack_17 : decode cX4_sendBack 17 = .ok (.iload_n 1, 1) := by decide +kernel
theorem dX4_sendBack_18 : decode cX4_sendBack 18 = .ok (.dup2, 1) := by decide +kernel
theorem dX4_sendBack_19 : decode cX4_sendBack 19 = .ok (.iaload, 1) := by decide +kernel
theorem dX4_sendBack_20 : decode cX4_sendBack 20 = .ok (.iconst 1, 1) := by decide +kernel
theorem dX4_sendBack_21 : decode cX4_sendBack 21 = .ok (.iadd, 1) := by decide +kernel
theorem dX4_sendBack_22 : decode cX4_sendBack 22 = .ok (.iastore, 1) := by decide +kernel
theorem dX4_sendBack_23 : decode cX4_sendBack 23 = .ok (.aload_n 0, 1) := by decide +kernel
theorem dX4_sendBack_24 : decode cX4_sendBack 24 = .ok (.getfield 12, 3) := by decide +kernel
theorem dX4_sendBack_27 : decode cX4_sendBack 27 = .ok (.getfield 168, 3) := by decide +kernel
theorem dX4_sendBack_30 : decode cX4_sendBack 30 = .ok (.iload_n 2, 1) := by decide +kernel
theorem dX4_sendBack_31 : decode cX4_sendBack 31 = .ok (.aload_n 0, 1) := by decide +kernel
theorem dX4_sendBack_32 : decode cX4_sendBack 32 = .ok (.getfield 12, 3) := by decide +kernel
theorem dX4_sendBack_35 : decode cX4_sendBack 35 = .ok (.iload_n 2, 1) := by decide +kernel
theorem dX4_sendBack_36 : decode cX4_sendBack 36 = .ok (.aload_n 0, 1) := by decide +kernel
theorem dX4_sendBack_37 : decode cX4_sendBack 37 = .ok (.getfield 25, 3) := by decide +kernel
theorem dX4_sendBack_40 : decode cX4_sendBack 40 = .ok (.invokevirtual 165, 3) := by decide +kernel
theorem dX4_sendBack_43 : decode cX4_sendBack 43 = .ok (.ifCond .eq 7, 3) := by decide +kernel
theorem dX4_sendBack_46 : decode cX4_sendBack 46 = .ok (.iconst 0, 1) := by decide +kernel
theorem dX4_sendBack_47 : decode cX4_sendBack 47 = .ok (.goto 12, 3) := by decide +kernel
theorem dX4_sendBack_50 : decode cX4_sendBack 50 = .ok (.aload_n 0, 1) := by decide +kernel
theorem dX4_sendBack_51 : decode cX4_sendBack 51 = .ok (.getfield 12, 3) := by decide +kernel
theorem dX4_sendBack_54 : decode cX4_sendBack 54 = .ok (.getfield 159, 3) := by decide +kernel
theorem dX4_sendBack_57 : decode cX4_sendBack 57 = .ok (.iload_n 2, 1) := by decide +kernel
theorem dX4_sendBack_58 : decode cX4_sendBack 58 = .ok (.iaload, 1) := by decide +kernel
theorem dX4_sendBack_59 : decode cX4_sendBack 59 = .ok (.iastore, 1) := by decide +kernel
theorem dX4_sendBack_60 : decode cX4_sendBack 60 = .ok (.return_, 1) := by decide +kernel
theorem dX5_init_0 : decode cX5_init 0 = .ok (.aload_n 0, 1) := by decide +kernel
theorem dX5_init_1 : decode cX5_init 1 = .ok (.invokespecial 1, 3) := by decide +kernel
theorem dX5_init_4 : decode cX5_init 4 = .ok (.aload_n 0, 1) := by decide +kernel
theorem dX5_init_5 : decode cX5_init 5 = .ok (.new 7, 3) := by decide +kernel
theorem dX5_init_8 : decode cX5_init 8 = .ok (.dup, 1) := by decide +kernel
theorem dX5_init_9 : decode cX5_init 9 = .ok (.invokespecial 9, 3) := by decide +kernel
theorem dX5_init_12 : decode cX5_init 12 = .ok (.putfield 10, 3) := by decide +kernel
theorem dX5_init_15 : decode cX5_init 15 = .ok (.aload_n 0, 1) := by decide +kernel
theorem dX5_init_16 : decode cX5_init 16 = .ok (.new 7, 3) := by decide +kernel
theorem dX5_init_19 : decode cX5_init 19 = .ok (.dup, 1) := by decide +kernel
theorem dX5_init_20 : decode cX5_init 20 = .ok (.invokespecial 9, 3) := by decide +kernel
theorem dX5_init_23 : decode cX5_init 23 = .ok (.putfield 16, 3) := by decide +kernel
theorem dX5_init_26 : decode cX5_init 26 = .ok (.aload_n 0, 1) := by decide +kernel
theorem dX5_init_27 : decode cX5_init 27 = .ok (.new 19, 3) := by decide +kernel
theorem dX5_init_30 : decode cX5_init 30 = .ok (.dup, 1) := by decide +kernel
theorem dX5_init_31 : decode cX5_init 31 = .ok (.invokespecial 21, 3) := by decide +kernel
theorem dX5_init_34 : decode cX5_init 34 = .ok (.putfield 22, 3) := by decide +kernel
theorem dX5_init_37 : decode cX5_init 37 = .ok (.aload_n 0, 1) := by decide +kernel
theorem dX5_init_38 : decode cX5_init 38 = .ok (.new 26, 3) := by decide +kernel
theorem dX5_init_41 : decode cX5_init 41 = .ok (.dup, 1) := by decide +kernel
theorem dX5_init_42 : decode cX5_init 42 = .ok (.invokespecial 28, 3) := by decide +kernel
theorem dX5_init_45 : decode cX5_init 45 = .ok (.putfield 29, 3) := by decide +kernel
theorem dX5_init_48 : decode cX5_init 48 = .ok (.return_, 1) := by decide +kernel
theorem dX5_submit_0 : decode cX5_submit 0 = .ok (.iload_n 1, 1) := by decide +kernel
theorem dX5_submit_1 : decode cX5_submit 1 = .ok (.iconst 0, 1) := by decide +kernel
theorem dX5_submit_2 : decode cX5_submit 2 = .ok (.iconst 2, 1) := by decide +kernel
theorem dX5_submit_3 : decode cX5_submit 3 = .ok (.invokestatic 33, 3) := by decide +kernel
theorem dX5_submit_6 : decode cX5_submit 6 = .ok (.ifCond .eq 34, 3) := by decide +kernel
theorem dX5_submit_9 : decode cX5_submit 9 = .ok (.iload_n 2, 1) := by decide +kernel
theorem dX5_submit_10 : decode cX5_submit 10 = .ok (.iconst 1, 1) := by decide +kernel
theorem dX5_submit_11 : decode cX5_submit 11 = .ok (.bipush 99, 2) := by decide +kernel
theorem dX5_submit_13 : decode cX5_submit 13 = .ok (.invokestatic 33, 3) := by decide +kernel
theorem dX5_submit_16 : decode cX5_submit 16 = .ok (.ifCond .eq 24, 3) := by decide +kernel
theorem dX5_submit_19 : decode cX5_submit 19 = .ok (.iload_n 3, 1) := by decide +kernel
theorem dX5_submit_20 : decode cX5_submit 20 = .ok (.iconst 1, 1) := by decide +kernel
theorem dX5_submit_21 : decode cX5_submit 21 = .ok (.bipush 20, 2) := by decide +kernel
theorem dX5_submit_23 : decode cX5_submit 23 = .ok (.invokestatic 33, 3) := by decide +kernel
theorem dX5_submit_26 : decode cX5_submit 26 = .ok (.ifCond .eq 14, 3) := by decide +kernel
theorem dX5_submit_29 : decode cX5_submit 29 = .ok (.iload 4, 2) := by decide +kernel
theorem dX5_submit_31 : decode cX5_submit 31 = .ok (.iconst 0, 1) := by decide +kernel
theorem dX5_submit_32 : decode cX5_submit 32 = .ok (.bipush 9, 2) := by decide +kernel
theorem dX5_submit_34 : decode cX5_submit 34 = .ok (.invokestatic 33, 3) := by decide +kernel
theorem dX5_submit_37 : decode cX5_submit 37 = .ok (.ifCond .ne 13, 3) := by decide +kernel
theorem dX5_submit_40 : decode cX5_submit 40 = .ok (.new 37, 3) := by decide +kernel
theorem dX5_submit_43 : decode cX5_submit 43 = .ok (.dup, 1) := by decide +kernel
theorem dX5_submit_44 : decode cX5_submit 44 = .ok (.ldc 39, 2) := by decide +kernel
theorem dX5_submit_46 : decode cX5_submit 46 = .ok (.invokespecial 41, 3) := by decide +kernel
theorem dX5_submit_49 : decode cX5_submit 49 = .ok (.athrow, 1) := by decide +kernel
theorem dX5_submit_50 : decode cX5_submit 50 = .ok (.aload_n 0, 1) := by decide +kernel
theorem dX5_submit_51 : decode cX5_submit 51 = .ok (.getfield 10, 3) := by decide +kernel
theorem dX5_submit_54 : decode cX5_submit 54 = .ok (.iload_n 1, 1) := by decide +kernel
theorem dX5_submit_55 : decode cX5_submit 55 = .ok (.iload_n 2, 1) := by decide +kernel
theorem dX5_submit_56 : decode cX5_submit 56 = .ok (.invokevirtual 44, 3) := by decide +kernel
theorem dX5_submit_59 : decode cX5_submit 59 = .ok (.ifCond .ne 13, 3) := by decide +kernel
theorem dX5_submit_62 : decode cX5_submit 62 = .ok (.new 48, 3) := by decide +kernel
theorem dX5_submit_65 : decode cX5_submit 65 = .ok (.dup, 1) := by decide +kernel
theorem dX5_submit_66 : decode cX5_submit 66 = .ok (.ldc 50, 2) := by decide +kernel
theorem dX5_submit_68 : decode cX5_submit 68 = .ok (.invokespecial 52, 3) := by decide +kernel
theorem dX5_submit_71 : decode cX5_submit 71 = .ok (.athrow, 1) := by decide +kernel
theorem dX5_submit_72 : decode cX5_submit 72 = .ok (.aload_n 0, 1) := by decide +kernel
theorem dX5_submit_73 : decode cX5_submit 73 = .ok (.getfield 22, 3) := by decide +kernel
theorem dX5_submit_76 : decode cX5_submit 76 = .ok (.aload_n 0, 1) := by decide +kernel
theorem dX5_submit_77 : decode cX5_submit 77 = .ok (.getfield 10, 3) := by decide +kernel
theorem dX5_submit_80 : decode cX5_submit 80 = .ok (.invokevirtual 53, 3) := by decide +kernel
theorem dX5_submit_83 : decode cX5_submit 83 = .ok (.aload_n 0, 1) := by decide +kernel
theorem dX5_submit_84 : decode cX5_submit 84 = .ok (.getfield 10, 3) := by decide +kernel
theorem dX5_submit_87 : decode cX5_submit 87 = .ok (.getfield 57, 3) := by decide +kernel
theorem dX5_submit_90 : decode cX5_submit 90 = .ok (.iload_n 1, 1) := by decide +kernel
theorem dX5_submit_91 : decode cX5_submit 91 = .ok (.iload_n 2, 1) := by decide +kernel
theorem dX5_submit_92 : decode cX5_submit 92 = .ok (.iload_n 3, 1) := by decide +kernel
theorem dX5_submit_93 : decode cX5_submit 93 = .ok (.iload 4, 2) := by decide +kernel
theorem dX5_submit_95 : decode cX5_submit 95 = .ok (.invokevirtual 61, 3) := by decide +kernel
theorem dX5_submit_98 : decode cX5_submit 98 = .ok (.ireturn, 1) := by decide +kernel
theorem dX5_cancel_0 : decode cX5_cancel 0 = .ok (.aload_n 0, 1) := by decide +kernel
theorem dX5_cancel_1 : decode cX5_cancel 1 = .ok (.getfield 10, 3) := by decide +kernel
theorem dX5_cancel_4 : decode cX5_cancel 4 = .ok (.getfield 57, 3) := by decide +kernel
theorem dX5_cancel_7 : decode cX5_cancel 7 = .ok (.iload_n 1, 1) := by decide +kernel
theorem dX5_cancel_8 : decode cX5_cancel 8 = .ok (.invokevirtual 67, 3) := by decide +kernel
theorem dX5_cancel_11 : decode cX5_cancel 11 = .ok (.ifCond .ne 13, 3) := by decide +kernel
theorem dX5_cancel_14 : decode cX5_cancel 14 = .ok (.new 71, 3) := by decide +kernel
theorem dX5_cancel_17 : decode cX5_cancel 17 = .ok (.dup, 1) := by decide +kernel
theorem dX5_cancel_18 : decode cX5_cancel 18 = .ok (.ldc 73, 2) := by decide +kernel
theorem dX5_cancel_20 : decode cX5_cancel 20 = .ok (.invokespecial 75, 3) := by decide +kernel
theorem dX5_cancel_23 : decode cX5_cancel 23 = .ok (.athrow, 1) := by decide +kernel
theorem dX5_cancel_24 : decode cX5_cancel 24 = .ok (.aload_n 0, 1) := by decide +kernel
theorem dX5_cancel_25 : decode cX5_cancel 25 = .ok (.getfield 10, 3) := by decide +kernel
theorem dX5_cancel_28 : decode cX5_cancel 28 = .ok (.getfield 57, 3) := by decide +kernel
theorem dX5_cancel_31 : decode cX5_cancel 31 = .ok (.getfield 76, 3) := by decide +kernel
theorem dX5_cancel_34 : decode cX5_cancel 34 = .ok (.iload_n 1, 1) := by decide +kernel
theorem dX5_cancel_35 : decode cX5_cancel 35 = .ok (.iaload, 1) := by decide +kernel
theorem dX5_cancel_36 : decode cX5_cancel 36 = .ok (.ifCond .eq 29, 3) := by decide +kernel
theorem dX5_cancel_39 : decode cX5_cancel 39 = .ok (.aload_n 0, 1) := by decide +kernel
theorem dX5_cancel_40 : decode cX5_cancel 40 = .ok (.getfield 10, 3) := by decide +kernel
theorem dX5_cancel_43 : decode cX5_cancel 43 = .ok (.getfield 57, 3) := by decide +kernel
theorem dX5_cancel_46 : decode cX5_cancel 46 = .ok (.getfield 76, 3) := by decide +kernel
theorem dX5_cancel_49 : decode cX5_cancel 49 = .ok (.iload_n 1, 1) := by decide +kernel
theorem dX5_cancel_50 : decode cX5_cancel 50 = .ok (.iaload, 1) := by decide +kernel
theorem dX5_cancel_51 : decode cX5_cancel 51 = .ok (.iconst 1, 1) := by decide +kernel
theorem dX5_cancel_52 : decode cX5_cancel 52 = .ok (.if_icmp .eq 13, 3) := by decide +kernel
theorem dX5_cancel_55 : decode cX5_cancel 55 = .ok (.new 48, 3) := by decide +kernel
theorem dX5_cancel_58 : decode cX5_cancel 58 = .ok (.dup, 1) := by decide +kernel
theorem dX5_cancel_59 : decode cX5_cancel 59 = .ok (.ldc 80, 2) := by decide +kernel
theorem dX5_cancel_61 : decode cX5_cancel 61 = .ok (.invokespecial 52, 3) := by decide +kernel
theorem dX5_cancel_64 : decode cX5_cancel 64 = .ok (.athrow, 1) := by decide +kernel
theorem dX5_cancel_65 : decode cX5_cancel 65 = .ok (.aload_n 0, 1) := by decide +kernel
theorem dX5_cancel_66 : decode cX5_cancel 66 = .ok (.getfield 22, 3) := by decide +kernel
theorem dX5_cancel_69 : decode cX5_cancel 69 = .ok (.aload_n 0, 1) := by decide +kernel
theorem dX5_cancel_70 : decode cX5_cancel 70 = .ok (.getfield 10, 3) := by decide +kernel
theorem dX5_cancel_73 : decode cX5_cancel 73 = .ok (.invokevirtual 53, 3) := by decide +kernel
theorem dX5_cancel_76 : decode cX5_cancel 76 = .ok (.aload_n 0, 1) := by decide +kernel
theorem dX5_cancel_77 : decode cX5_cancel 77 = .ok (.getfield 10, 3) := by decide +kernel
theorem dX5_cancel_80 : decode cX5_cancel 80 = .ok (.iload_n 1, 1) := by decide +kernel
theorem dX5_cancel_81 : decode cX5_cancel 81 = .ok (.iconst 3, 1) := by decide +kernel
theorem dX5_cancel_82 : decode cX5_cancel 82 = .ok (.invokevirtual 82, 3) := by decide +kernel
theorem dX5_cancel_85 : decode cX5_cancel 85 = .ok (.aload_n 0, 1) := by decide +kernel
theorem dX5_cancel_86 : decode cX5_cancel 86 = .ok (.getfield 10, 3) := by decide +kernel
theorem dX5_cancel_89 : decode cX5_cancel 89 = .ok (.getfield 57, 3) := by decide +kernel
theorem dX5_cancel_92 : decode cX5_cancel 92 = .ok (.getfield 86, 3) := by decide +kernel
theorem dX5_cancel_95 : decode cX5_cancel 95 = .ok (.iload_n 1, 1) := by decide +kernel
theorem dX5_cancel_96 : decode cX5_cancel 96 = .ok (.iaload, 1) := by decide +kernel
theorem dX5_cancel_97 : decode cX5_cancel 97 = .ok (.ireturn, 1) := by decide +kernel
theorem dX5_setSticker_0 : decode cX5_setSticker 0 = .ok (.iload_n 1, 1) := by decide +kernel
theorem dX5_setSticker_1 : decode cX5_setSticker 1 = .ok (.invokestatic 89, 3) := by decide +kernel
theorem dX5_setSticker_4 : decode cX5_setSticker 4 = .ok (.ifCond .ne 13, 3) := by decide +kernel
theorem dX5_setSticker_7 : decode cX5_setSticker 7 = .ok (.new 71, 3) := by decide +kernel
theorem dX5_setSticker_10 : decode cX5_setSticker 10 = .ok (.dup, 1) := by decide +kernel
theorem dX5_setSticker_11 : decode cX5_setSticker 11 = .ok (.ldc 92, 2) := by decide +kernel
theorem dX5_setSticker_13 : decode cX5_setSticker 13 = .ok (.invokespecial 75, 3) := by decide +kernel
theorem dX5_setSticker_16 : decode cX5_setSticker 16 = .ok (.athrow, 1) := by decide +kernel
theorem dX5_setSticker_17 : decode cX5_setSticker 17 = .ok (.iload_n 2, 1) := by decide +kernel
theorem dX5_setSticker_18 : decode cX5_setSticker 18 = .ok (.iconst 0, 1) := by decide +kernel
theorem dX5_setSticker_19 : decode cX5_setSticker 19 = .ok (.bipush 99, 2) := by decide +kernel
theorem dX5_setSticker_21 : decode cX5_setSticker 21 = .ok (.invokestatic 33, 3) := by decide +kernel
theorem dX5_setSticker_24 : decode cX5_setSticker 24 = .ok (.ifCond .ne 13, 3) := by decide +kernel
theorem dX5_setSticker_27 : decode cX5_setSticker 27 = .ok (.new 37, 3) := by decide +kernel
theorem dX5_setSticker_30 : decode cX5_setSticker 30 = .ok (.dup, 1) := by decide +kernel
theorem dX5_setSticker_31 : decode cX5_setSticker 31 = .ok (.ldc 94, 2) := by decide +kernel
theorem dX5_setSticker_33 : decode cX5_setSticker 33 = .ok (.invokespecial 41, 3) := by decide +kernel
theorem dX5_setSticker_36 : decode cX5_setSticker 36 = .ok (.athrow, 1) := by decide +kernel
theorem dX5_setSticker_37 : decode cX5_setSticker 37 = .ok (.aload_n 0, 1) := by decide +kernel
theorem dX5_setSticker_38 : decode cX5_setSticker 38 = .ok (.getfield 22, 3) := by decide +kernel
theorem dX5_setSticker_41 : decode cX5_setSticker 41 = .ok (.aload_n 0, 1) := by decide +kernel
theorem dX5_setSticker_42 : decode cX5_setSticker 42 = .ok (.getfield 10, 3) := by decide +kernel
theorem dX5_setSticker_45 : decode cX5_setSticker 45 = .ok (.invokevirtual 53, 3) := by decide +kernel
theorem dX5_setSticker_48 : decode cX5_setSticker 48 = .ok (.aload_n 0, 1) := by decide +kernel
theorem dX5_setSticker_49 : decode cX5_setSticker 49 = .ok (.getfield 10, 3) := by decide +kernel
theorem dX5_setSticker_52 : decode cX5_setSticker 52 = .ok (.getfield 96, 3) := by decide +kernel
theorem dX5_setSticker_55 : decode cX5_setSticker 55 = .ok (.getfield 100, 3) := by decide +kernel
theorem dX5_setSticker_58 : decode cX5_setSticker 58 = .ok (.iload_n 1, 1) := by decide +kernel
theorem dX5_setSticker_59 : decode cX5_setSticker 59 = .ok (.iaload, 1) := by decide +kernel
theorem dX5_setSticker_60 : decode cX5_setSticker 60 = .ok (.istore_n 3, 1) := by decide +kernel
theorem dX5_setSticker_61 : decode cX5_setSticker 61 = .ok (.aload_n 0, 1) := by decide +kernel
theorem dX5_setSticker_62 : decode cX5_setSticker 62 = .ok (.getfield 10, 3) := by decide +kernel
theorem dX5_setSticker_65 : decode cX5_setSticker 65 = .ok (.getfield 96, 3) := by decide +kernel
theorem dX5_setSticker_68 : decode cX5_setSticker 68 = .ok (.getfield 100, 3) := by decide +kernel
theorem dX5_setSticker_71 : decode cX5_setSticker 71 = .ok (.iload_n 1, 1) := by decide +kernel
theorem dX5_setSticker_72 : decode cX5_setSticker 72 = .ok (.iload_n 2, 1) := by decide +kernel
theorem dX5_setSticker_73 : decode cX5_setSticker 73 = .ok (.iastore, 1) := by decide +kernel
theorem dX5_setSticker_74 : decode cX5_setSticker 74 = .ok (.iload_n 3, 1) := by decide +kernel
theorem dX5_setSticker_75 : decode cX5_setSticker 75 = .ok (.ireturn, 1) := by decide +kernel
theorem dX5_setRing_0 : decode cX5_setRing 0 = .ok (.iload_n 1, 1) := by decide +kernel
theorem dX5_setRing_1 : decode cX5_setRing 1 = .ok (.invokestatic 89, 3) := by decide +kernel
theorem dX5_setRing_4 : decode cX5_setRing 4 = .ok (.ifCond .ne 13, 3) := by decide +kernel
theorem dX5_setRing_7 : decode cX5_setRing 7 = .ok (.new 71, 3) := by decide +kernel
theorem dX5_setRing_10 : decode cX5_setRing 10 = .ok (.dup, 1) := by decide +kernel
theorem dX5_setRing_11 : decode cX5_setRing 11 = .ok (.ldc 92, 2) := by decide +kernel
theorem dX5_setRing_13 : decode cX5_setRing 13 = .ok (.invokespecial 75, 3) := by decide +kernel
theorem dX5_setRing_16 : decode cX5_setRing 16 = .ok (.athrow, 1) := by decide +kernel
theorem dX5_setRing_17 : decode cX5_setRing 17 = .ok (.aload_n 0, 1) := by decide +kernel
theorem dX5_setRing_18 : decode cX5_setRing 18 = .ok (.getfield 10, 3) := by decide +kernel
theorem dX5_setRing_21 : decode cX5_setRing 21 = .ok (.getfield 96, 3) := by decide +kernel
theorem dX5_setRing_24 : decode cX5_setRing 24 = .ok (.getfield 105, 3) := by decide +kernel
theorem dX5_setRing_27 : decode cX5_setRing 27 = .ok (.iload_n 1, 1) := by decide +kernel
theorem dX5_setRing_28 : decode cX5_setRing 28 = .ok (.iaload, 1) := by decide +kernel
theorem dX5_setRing_29 : decode cX5_setRing 29 = .ok (.iconst (-1), 1) := by decide +kernel
theorem dX5_setRing_30 : decode cX5_setRing 30 = .ok (.if_icmp .eq 13, 3) := by decide +kernel
theorem dX5_setRing_33 : decode cX5_setRing 33 = .ok (.new 48, 3) := by decide +kernel
theorem dX5_setRing_36 : decode cX5_setRing 36 = .ok (.dup, 1) := by decide +kernel
theorem dX5_setRing_37 : decode cX5_setRing 37 = .ok (.ldc 108, 2) := by decide +kernel
theorem dX5_setRing_39 : decode cX5_setRing 39 = .ok (.invokespecial 52, 3) := by decide +kernel
theorem dX5_setRing_42 : decode cX5_setRing 42 = .ok (.athrow, 1) := by decide +kernel
theorem dX5_setRing_43 : decode cX5_setRing 43 = .ok (.aload_n 0, 1) := by decide +kernel
theorem dX5_setRing_44 : decode cX5_setRing 44 = .ok (.getfield 22, 3) := by decide +kernel
theorem dX5_setRing_47 : decode cX5_setRing 47 = .ok (.aload_n 0, 1) := by decide +kernel
theorem dX5_setRing_48 : decode cX5_setRing 48 = .ok (.getfield 10, 3) := by decide +kernel
theorem dX5_setRing_51 : decode cX5_setRing 51 = .ok (.invokevirtual 53, 3) := by decide +kernel
theorem dX5_setRing_54 : decode cX5_setRing 54 = .ok (.aload_n 0, 1) := by decide +kernel
theorem dX5_setRing_55 : decode cX5_setRing 55 = .ok (.getfield 10, 3) := by decide +kernel
theorem dX5_setRing_58 : decode cX5_setRing 58 = .ok (.getfield 96, 3) := by decide +kernel
theorem dX5_setRing_61 : decode cX5_setRing 61 = .ok (.getfield 110, 3) := by decide +kernel
theorem dX5_setRing_64 : decode cX5_setRing 64 = .ok (.iload_n 1, 1) := by decide +kernel
theorem dX5_setRing_65 : decode cX5_setRing 65 = .ok (.baload, 1) := by decide +kernel
theorem dX5_setRing_66 : decode cX5_setRing 66 = .ok (.istore_n 3, 1) := by decide +kernel
theorem dX5_setRing_67 : decode cX5_setRing 67 = .ok (.aload_n 0, 1) := by decide +kernel
theorem dX5_setRing_68 : decode cX5_setRing 68 = .ok (.getfield 10, 3) := by decide +kernel
theorem dX5_setRing_71 : decode cX5_setRing 71 = .ok (.getfield 96, 3) := by decide +kernel
theorem dX5_setRing_74 : decode cX5_setRing 74 = .ok (.getfield 110, 3) := by decide +kernel
theorem dX5_setRing_77 : decode cX5_setRing 77 = .ok (.iload_n 1, 1) := by decide +kernel
theorem dX5_setRing_78 : decode cX5_setRing 78 = .ok (.iload_n 2, 1) := by decide +kernel
theorem dX5_setRing_79 : decode cX5_setRing 79 = .ok (.bastore, 1) := by decide +kernel
theorem dX5_setRing_80 : decode cX5_setRing 80 = .ok (.iload_n 3, 1) := by decide +kernel
theorem dX5_setRing_81 : decode cX5_setRing 81 = .ok (.ireturn, 1) := by decide +kernel
theorem dX5_pass_0 : decode cX5_pass 0 = .ok (.iload_n 1, 1) := by decide +kernel
theorem dX5_pass_1 : decode cX5_pass 1 = .ok (.iconst 1, 1) := by decide +kernel
theorem dX5_pass_2 : decode cX5_pass 2 = .ok (.bipush 99, 2) := by decide +kernel
theorem dX5_pass_4 : decode cX5_pass 4 = .ok (.invokestatic 33, 3) := by decide +kernel
theorem dX5_pass_7 : decode cX5_pass 7 = .ok (.ifCond .ne 13, 3) := by decide +kernel
theorem dX5_pass_10 : decode cX5_pass 10 = .ok (.new 37, 3) := by decide +kernel
theorem dX5_pass_13 : decode cX5_pass 13 = .ok (.dup, 1) := by decide +kernel
theorem dX5_pass_14 : decode cX5_pass 14 = .ok (.ldc 114, 2) := by decide +kernel
theorem dX5_pass_16 : decode cX5_pass 16 = .ok (.invokespecial 41, 3) := by decide +kernel
theorem dX5_pass_19 : decode cX5_pass 19 = .ok (.athrow, 1) := by decide +kernel
theorem dX5_pass_20 : decode cX5_pass 20 = .ok (.aload_n 0, 1) := by decide +kernel
theorem dX5_pass_21 : decode cX5_pass 21 = .ok (.getfield 22, 3) := by decide +kernel
theorem dX5_pass_24 : decode cX5_pass 24 = .ok (.aload_n 0, 1) := by decide +kernel
theorem dX5_pass_25 : decode cX5_pass 25 = .ok (.getfield 10, 3) := by decide +kernel
theorem dX5_pass_28 : decode cX5_pass 28 = .ok (.invokevirtual 53, 3) := by decide +kernel
theorem dX5_pass_31 : decode cX5_pass 31 = .ok (.aload_n 0, 1) := by decide +kernel
theorem dX5_pass_32 : decode cX5_pass 32 = .ok (.getfield 10, 3) := by decide +kernel
theorem dX5_pass_35 : decode cX5_pass 35 = .ok (.iload_n 1, 1) := by decide +kernel
theorem dX5_pass_36 : decode cX5_pass 36 = .ok (.invokevirtual 116, 3) := by decide +kernel
theorem dX5_pass_39 : decode cX5_pass 39 = .ok (.ireturn, 1) := by decide +kernel
theorem dX5_nextDay_0 : decode cX5_nextDay 0 = .ok (.aload_n 0, 1) := by decide +kernel
theorem dX5_nextDay_1 : decode cX5_nextDay 1 = .ok (.getfield 10, 3) := by decide +kernel
theorem dX5_nextDay_4 : decode cX5_nextDay 4 = .ok (.invokevirtual 120, 3) := by decide +kernel
theorem dX5_nextDay_7 : decode cX5_nextDay 7 = .ok (.ifCond .ne 13, 3) := by decide +kernel
theorem dX5_nextDay_10 : decode cX5_nextDay 10 = .ok (.new 48, 3) := by decide +kernel
theorem dX5_nextDay_13 : decode cX5_nextDay 13 = .ok (.dup, 1) := by decide +kernel
theorem dX5_nextDay_14 : decode cX5_nextDay 14 = .ok (.ldc 124, 2) := by decide +kernel
theorem dX5_nextDay_16 : decode cX5_nextDay 16 = .ok (.invokespecial 52, 3) := by decide +kernel
theorem dX5_nextDay_19 : decode cX5_nextDay 19 = .ok (.athrow, 1) := by decide +kernel
theorem dX5_nextDay_20 : decode cX5_nextDay 20 = .ok (.aload_n 0, 1) := by decide +kernel
theorem dX5_nextDay_21 : decode cX5_nextDay 21 = .ok (.getfield 22, 3) := by decide +kernel
theorem dX5_nextDay_24 : decode cX5_nextDay 24 = .ok (.aload_n 0, 1) := by decide +kernel
theorem dX5_nextDay_25 : decode cX5_nextDay 25 = .ok (.getfield 10, 3) := by decide +kernel
theorem dX5_nextDay_28 : decode cX5_nextDay 28 = .ok (.invokevirtual 53, 3) := by decide +kernel
theorem dX5_nextDay_31 : decode cX5_nextDay 31 = .ok (.aload_n 0, 1) := by decide +kernel
theorem dX5_nextDay_32 : decode cX5_nextDay 32 = .ok (.getfield 10, 3) := by decide +kernel
theorem dX5_nextDay_35 : decode cX5_nextDay 35 = .ok (.dup, 1) := by decide +kernel
theorem dX5_nextDay_36 : decode cX5_nextDay 36 = .ok (.getfield 126, 3) := by decide +kernel
theorem dX5_nextDay_39 : decode cX5_nextDay 39 = .ok (.iconst 1, 1) := by decide +kernel
theorem dX5_nextDay_40 : decode cX5_nextDay 40 = .ok (.iadd, 1) := by decide +kernel
theorem dX5_nextDay_41 : decode cX5_nextDay 41 = .ok (.putfield 126, 3) := by decide +kernel
theorem dX5_nextDay_44 : decode cX5_nextDay 44 = .ok (.aload_n 0, 1) := by decide +kernel
theorem dX5_nextDay_45 : decode cX5_nextDay 45 = .ok (.getfield 10, 3) := by decide +kernel
theorem dX5_nextDay_48 : decode cX5_nextDay 48 = .ok (.getfield 126, 3) := by decide +kernel
theorem dX5_nextDay_51 : decode cX5_nextDay 51 = .ok (.ireturn, 1) := by decide +kernel
theorem dX5_set_0 : decode cX5_set 0 = .ok (.iload_n 1, 1) := by decide +kernel
theorem dX5_set_1 : decode cX5_set 1 = .ok (.ifCond .eq 18, 3) := by decide +kernel
theorem dX5_set_4 : decode cX5_set 4 = .ok (.iload_n 1, 1) := by decide +kernel
theorem dX5_set_5 : decode cX5_set 5 = .ok (.iconst 1, 1) := by decide +kernel
theorem dX5_set_6 : decode cX5_set 6 = .ok (.if_icmp .eq 13, 3) := by decide +kernel
theorem dX5_set_9 : decode cX5_set 9 = .ok (.new 71, 3) := by decide +kernel
theorem dX5_set_12 : decode cX5_set 12 = .ok (.dup, 1) := by decide +kernel
theorem dX5_set_13 : decode cX5_set 13 = .ok (.ldc 130, 2) := by decide +kernel
theorem dX5_set_15 : decode cX5_set 15 = .ok (.invokespecial 75, 3) := by decide +kernel
theorem dX5_set_18 : decode cX5_set 18 = .ok (.athrow, 1) := by decide +kernel
theorem dX5_set_19 : decode cX5_set 19 = .ok (.iload_n 2, 1) := by decide +kernel
theorem dX5_set_20 : decode cX5_set 20 = .ok (.iconst 0, 1) := by decide +kernel
theorem dX5_set_21 : decode cX5_set 21 = .ok (.iload_n 1, 1) := by decide +kernel
theorem dX5_set_22 : decode cX5_set 22 = .ok (.ifCond .ne 8, 3) := by decide +kernel
theorem dX5_set_25 : decode cX5_set 25 = .ok (.bipush 9, 2) := by decide +kernel
theorem dX5_set_27 : decode cX5_set 27 = .ok (.goto 5, 3) := by decide +kernel
theorem dX5_set_30 : decode cX5_set 30 = .ok (.bipush 99, 2) := by decide +kernel
theorem dX5_set_32 : decode cX5_set 32 = .ok (.invokestatic 33, 3) := by decide +kernel
theorem dX5_set_35 : decode cX5_set 35 = .ok (.ifCond .ne 13, 3) := by decide +kernel
theorem dX5_set_38 : decode cX5_set 38 = .ok (.new 37, 3) := by decide +kernel
theorem dX5_set_41 : decode cX5_set 41 = .ok (.dup, 1) := by decide +kernel
theorem dX5_set_42 : decode cX5_set 42 = .ok (.ldc 132, 2) := by decide +kernel
theorem dX5_set_44 : decode cX5_set 44 = .ok (.invokespecial 41, 3) := by decide +kernel
theorem dX5_set_47 : decode cX5_set 47 = .ok (.athrow, 1) := by decide +kernel
theorem dX5_set_48 : decode cX5_set 48 = .ok (.aload_n 0, 1) := by decide +kernel
theorem dX5_set_49 : decode cX5_set 49 = .ok (.getfield 22, 3) := by decide +kernel
theorem dX5_set_52 : decode cX5_set 52 = .ok (.aload_n 0, 1) := by decide +kernel
theorem dX5_set_53 : decode cX5_set 53 = .ok (.getfield 10, 3) := by decide +kernel
theorem dX5_set_56 : decode cX5_set 56 = .ok (.invokevirtual 53, 3) := by decide +kernel
theorem dX5_set_59 : decode cX5_set 59 = .ok (.iload_n 1, 1) := by decide +kernel
theorem dX5_set_60 : decode cX5_set 60 = .ok (.ifCond .ne 22, 3) := by decide +kernel
theorem dX5_set_63 : decode cX5_set 63 = .ok (.aload_n 0, 1) := by decide +kernel
theorem dX5_set_64 : decode cX5_set 64 = .ok (.getfield 10, 3) := by decide +kernel
theorem dX5_set_67 : decode cX5_set 67 = .ok (.getfield 134, 3) := by decide +kernel
theorem dX5_set_70 : decode cX5_set 70 = .ok (.istore_n 3, 1) := by decide +kernel
theorem dX5_set_71 : decode cX5_set 71 = .ok (.aload_n 0, 1) := by decide +kernel
theorem dX5_set_72 : decode cX5_set 72 = .ok (.getfield 10, 3) := by decide +kernel
theorem dX5_set_75 : decode cX5_set 75 = .ok (.iload_n 2, 1) := by decide +kernel
theorem dX5_set_76 : decode cX5_set 76 = .ok (.putfield 134, 3) := by decide +kernel
theorem dX5_set_79 : decode cX5_set 79 = .ok (.goto 19, 3) := by decide +kernel
theorem dX5_set_82 : decode cX5_set 82 = .ok (.aload_n 0, 1) := by decide +kernel
theorem dX5_set_83 : decode cX5_set 83 = .ok (.getfield 10, 3) := by decide +kernel
theorem dX5_set_86 : decode cX5_set 86 = .ok (.getfield 137, 3) := by decide +kernel
theorem dX5_set_89 : decode cX5_set 89 = .ok (.istore_n 3, 1) := by decide +kernel
theorem dX5_set_90 : decode cX5_set 90 = .ok (.aload_n 0, 1) := by decide +kernel
theorem dX5_set_91 : decode cX5_set 91 = .ok (.getfield 10, 3) := by decide +kernel
theorem dX5_set_94 : decode cX5_set 94 = .ok (.iload_n 2, 1) := by decide +kernel
theorem dX5_set_95 : decode cX5_set 95 = .ok (.putfield 137, 3) := by decide +kernel
theorem dX5_set_98 : decode cX5_set 98 = .ok (.iload_n 3, 1) := by decide +kernel
theorem dX5_set_99 : decode cX5_set 99 = .ok (.ireturn, 1) := by decide +kernel
theorem dX5_appendText_0 : decode cX5_appendText 0 = .ok (.iload_n 1, 1) := by decide +kernel
theorem dX5_appendText_1 : decode cX5_appendText 1 = .ok (.bipush 32, 2) := by decide +kernel
theorem dX5_appendText_3 : decode cX5_appendText 3 = .ok (.bipush 126, 2) := by decide +kernel
theorem dX5_appendText_5 : decode cX5_appendText 5 = .ok (.invokestatic 33, 3) := by decide +kernel
theorem dX5_appendText_8 : decode cX5_appendText 8 = .ok (.ifCond .ne 13, 3) := by decide +kernel
theorem dX5_appendText_11 : decode cX5_appendText 11 = .ok (.new 37, 3) := by decide +kernel
theorem dX5_appendText_14 : decode cX5_appendText 14 = .ok (.dup, 1) := by decide +kernel
theorem dX5_appendText_15 : decode cX5_appendText 15 = .ok (.ldc 140, 2) := by decide +kernel
theorem dX5_appendText_17 : decode cX5_appendText 17 = .ok (.invokespecial 41, 3) := by decide +kernel
theorem dX5_appendText_20 : decode cX5_appendText 20 = .ok (.athrow, 1) := by decide +kernel
theorem dX5_appendText_21 : decode cX5_appendText 21 = .ok (.aload_n 0, 1) := by decide +kernel
theorem dX5_appendText_22 : decode cX5_appendText 22 = .ok (.getfield 29, 3) := by decide +kernel
theorem dX5_appendText_25 : decode cX5_appendText 25 = .ok (.getfield 142, 3) := by decide +kernel
theorem dX5_appendText_28 : decode cX5_appendText 28 = .ok (.bipush 80, 2) := by decide +kernel
theorem dX5_appendText_30 : decode cX5_appendText 30 = .ok (.if_icmp .lt 13, 3) := by decide +kernel
theorem dX5_appendText_33 : decode cX5_appendText 33 = .ok (.new 48, 3) := by decide +kernel
theorem dX5_appendText_36 : decode cX5_appendText 36 = .ok (.dup, 1) := by decide +kernel
theorem dX5_appendText_37 : decode cX5_appendText 37 = .ok (.ldc 145, 2) := by decide +kernel
theorem dX5_appendText_39 : decode cX5_appendText 39 = .ok (.invokespecial 52, 3) := by decide +kernel
theorem dX5_appendText_42 : decode cX5_appendText 42 = .ok (.athrow, 1) := by decide +kernel
theorem dX5_appendText_43 : decode cX5_appendText 43 = .ok (.aload_n 0, 1) := by decide +kernel
theorem dX5_appendText_44 : decode cX5_appendText 44 = .ok (.getfield 29, 3) := by decide +kernel
theorem dX5_appendText_47 : decode cX5_appendText 47 = .ok (.iload_n 1, 1) := by decide +kernel
theorem dX5_appendText_48 : decode cX5_appendText 48 = .ok (.invokevirtual 147, 3) := by decide +kernel
theorem dX5_appendText_51 : decode cX5_appendText 51 = .ok (.aload_n 0, 1) := by decide +kernel
theorem dX5_appendText_52 : decode cX5_appendText 52 = .ok (.getfield 29, 3) := by decide +kernel
theorem dX5_appendText_55 : decode cX5_appendText 55 = .ok (.getfield 142, 3) := by decide +kernel
theorem dX5_appendText_58 : decode cX5_appendText 58 = .ok (.ireturn, 1) := by decide +kernel
theorem dX5_clearText_0 : decode cX5_clearText 0 = .ok (.aload_n 0, 1) := by decide +kernel
theorem dX5_clearText_1 : decode cX5_clearText 1 = .ok (.getfield 29, 3) := by decide +kernel
theorem dX5_clearText_4 : decode cX5_clearText 4 = .ok (.getfield 142, 3) := by decide +kernel
theorem dX5_clearText_7 : decode cX5_clearText 7 = .ok (.istore_n 1, 1) := by decide +kernel
theorem dX5_clearText_8 : decode cX5_clearText 8 = .ok (.aload_n 0, 1) := by decide +kernel
theorem dX5_clearText_9 : decode cX5_clearText 9 = .ok (.getfield 29, 3) := by decide +kernel
theorem dX5_clearText_12 : decode cX5_clearText 12 = .ok (.iconst 0, 1) := by decide +kernel
theorem dX5_clearText_13 : decode cX5_clearText 13 = .ok (.putfield 142, 3) := by decide +kernel
theorem dX5_clearText_16 : decode cX5_clearText 16 = .ok (.iload_n 1, 1) := by decide +kernel
theorem dX5_clearText_17 : decode cX5_clearText 17 = .ok (.ireturn, 1) := by decide +kernel
theorem dX5_errorPosition_0 : decode cX5_errorPosition 0 = .ok (.aload_n 0, 1) := by decide +kernel
theorem dX5_errorPosition_1 : decode cX5_errorPosition 1 = .ok (.getfield 29, 3) := by decide +kernel
theorem dX5_errorPosition_4 : decode cX5_errorPosition 4 = .ok (.invokevirtual 151, 3) := by decide +kernel
theorem dX5_errorPosition_7 : decode cX5_errorPosition 7 = .ok (.ireturn, 1) := by decide +kernel
theorem dX5_runText_0 : decode cX5_runText 0 = .ok (.aload_n 0, 1) := by decide +kernel
theorem dX5_runText_1 : decode cX5_runText 1 = .ok (.getfield 29, 3) := by decide +kernel
theorem dX5_runText_4 : decode cX5_runText 4 = .ok (.invokevirtual 151, 3) := by decide +kernel
theorem dX5_runText_7 : decode cX5_runText 7 = .ok (.iconst (-1), 1) := by decide +kernel
theorem dX5_runText_8 : decode cX5_runText 8 = .ok (.if_icmp .eq 13, 3) := by decide +kernel
theorem dX5_runText_11 : decode cX5_runText 11 = .ok (.new 48, 3) := by decide +kernel
theorem dX5_runText_14 : decode cX5_runText 14 = .ok (.dup, 1) := by decide +kernel
theorem dX5_runText_15 : decode cX5_runText 15 = .ok (.ldc 155, 2) := by decide +kernel
theorem dX5_runText_17 : decode cX5_runText 17 = .ok (.invokespecial 52, 3) := by decide +kernel
theorem dX5_runText_20 : decode cX5_runText 20 = .ok (.athrow, 1) := by decide +kernel
theorem dX5_runText_21 : decode cX5_runText 21 = .ok (.aload_n 0, 1) := by decide +kernel
theorem dX5_runText_22 : decode cX5_runText 22 = .ok (.getfield 22, 3) := by decide +kernel
theorem dX5_runText_25 : decode cX5_runText 25 = .ok (.aload_n 0, 1) := by decide +kernel
theorem dX5_runText_26 : decode cX5_runText 26 = .ok (.getfield 10, 3) := by decide +kernel
theorem dX5_runText_29 : decode cX5_runText 29 = .ok (.invokevirtual 53, 3) := by decide +kernel
theorem dX5_runText_32 : decode cX5_runText 32 = .ok (.aload_n 0, 1) := by decide +kernel
theorem dX5_runText_33 : decode cX5_runText 33 = .ok (.getfield 29, 3) := by decide +kernel
theorem dX5_runText_36 : decode cX5_runText 36 = .ok (.invokevirtual 157, 3) := by decide +kernel
theorem dX5_runText_39 : decode cX5_runText 39 = .ok (.iconst 0, 1) := by decide +kernel
theorem dX5_runText_40 : decode cX5_runText 40 = .ok (.istore_n 1, 1) := by decide +kernel
theorem dX5_runText_41 : decode cX5_runText 41 = .ok (.iload_n 1, 1) := by decide +kernel
theorem dX5_runText_42 : decode cX5_runText 42 = .ok (.bipush 80, 2) := by decide +kernel
theorem dX5_runText_44 : decode cX5_runText 44 = .ok (.if_icmp .ge 36, 3) := by decide +kernel
theorem dX5_runText_47 : decode cX5_runText 47 = .ok (.aload_n 0, 1) := by decide +kernel
theorem dX5_runText_48 : decode cX5_runText 48 = .ok (.getfield 29, 3) := by decide +kernel
theorem dX5_runText_51 : decode cX5_runText 51 = .ok (.invokevirtual 160, 3) := by decide +kernel
theorem dX5_runText_54 : decode cX5_runText 54 = .ok (.ifCond .eq 26, 3) := by decide +kernel
theorem dX5_runText_57 : decode cX5_runText 57 = .ok (.aload_n 0, 1) := by decide +kernel
theorem dX5_runText_58 : decode cX5_runText 58 = .ok (.invokevirtual 163, 3) := by decide +kernel
theorem dX5_runText_61 : decode cX5_runText 61 = .ok (.ifCond .eq 19, 3) := by decide +kernel
theorem dX5_runText_64 : decode cX5_runText 64 = .ok (.iinc 1 1, 3) := by decide +kernel
theorem dX5_runText_67 : decode cX5_runText 67 = .ok (.aload_n 0, 1) := by decide +kernel
theorem dX5_runText_68 : decode cX5_runText 68 = .ok (.getfield 29, 3) := by decide +kernel
theorem dX5_runText_71 : decode cX5_runText 71 = .ok (.bipush 59, 2) := by decide +kernel
theorem dX5_runText_73 : decode cX5_runText 73 = .ok (.invokevirtual 166, 3) := by decide +kernel
theorem dX5_runText_76 : decode cX5_runText 76 = .ok (.pop, 1) := by decide +kernel
theorem dX5_runText_77 : decode cX5_runText 77 = .ok (.goto (-36), 3) := by decide +kernel
theorem dX5_runText_80 : decode cX5_runText 80 = .ok (.iload_n 1, 1) := by decide +kernel
theorem dX5_runText_81 : decode cX5_runText 81 = .ok (.ireturn, 1) := by decide +kernel
theorem dX5_execute_0 : decode cX5_execute 0 = .ok (.aload_n 0, 1) := by decide +kernel
theorem dX5_execute_1 : decode cX5_execute 1 = .ok (.getfield 29, 3) := by decide +kernel
theorem dX5_execute_4 : decode cX5_execute 4 = .ok (.getfield 170, 3) := by decide +kernel
theorem dX5_execute_7 : decode cX5_execute 7 = .ok (.lookupswitch 69 #[(100, 42), (116, 25)], 25) := by decide +kernel
theorem dX5_execute_32 : decode cX5_execute 32 = .ok (.aload_n 0, 1) := by decide +kernel
theorem dX5_execute_33 : decode cX5_execute 33 = .ok (.getfield 10, 3) := by decide +kernel
theorem dX5_execute_36 : decode cX5_execute 36 = .ok (.aload_n 0, 1) := by decide +kernel
theorem dX5_execute_37 : decode cX5_execute 37 = .ok (.getfield 29, 3) := by decide +kernel
theorem dX5_execute_40 : decode cX5_execute 40 = .ok (.getfield 173, 3) := by decide +kernel
theorem dX5_execute_43 : decode cX5_execute 43 = .ok (.invokevirtual 116, 3) := by decide +kernel
theorem dX5_execute_46 : decode cX5_execute 46 = .ok (.pop, 1) := by decide +kernel
theorem dX5_execute_47 : decode cX5_execute 47 = .ok (.iconst 1, 1) := by decide +kernel
theorem dX5_execute_48 : decode cX5_execute 48 = .ok (.ireturn, 1) := by decide +kernel
theorem dX5_execute_49 : decode cX5_execute 49 = .ok (.aload_n 0, 1) := by decide +kernel
theorem dX5_execute_50 : decode cX5_execute 50 = .ok (.getfield 10, 3) := by decide +kernel
theorem dX5_execute_53 : decode cX5_execute 53 = .ok (.invokevirtual 120, 3) := by decide +kernel
theorem dX5_execute_56 : decode cX5_execute 56 = .ok (.ifCond .ne 5, 3) := by decide +kernel
theorem dX5_execute_59 : decode cX5_execute 59 = .ok (.iconst 0, 1) := by decide +kernel
theorem dX5_execute_60 : decode cX5_execute 60 = .ok (.ireturn, 1) := by decide +kernel
theorem dX5_execute_61 : decode cX5_execute 61 = .ok (.aload_n 0, 1) := by decide +kernel
theorem dX5_execute_62 : decode cX5_execute 62 = .ok (.getfield 10, 3) := by decide +kernel
theorem dX5_execute_65 : decode cX5_execute 65 = .ok (.dup, 1) := by decide +kernel
theorem dX5_execute_66 : decode cX5_execute 66 = .ok (.getfield 126, 3) := by decide +kernel
theorem dX5_execute_69 : decode cX5_execute 69 = .ok (.iconst 1, 1) := by decide +kernel
theorem dX5_execute_70 : decode cX5_execute 70 = .ok (.iadd, 1) := by decide +kernel
theorem dX5_execute_71 : decode cX5_execute 71 = .ok (.putfield 126, 3) := by decide +kernel
theorem dX5_execute_74 : decode cX5_execute 74 = .ok (.iconst 1, 1) := by decide +kernel
theorem dX5_execute_75 : decode cX5_execute 75 = .ok (.ireturn, 1) := by decide +kernel
theorem dX5_execute_76 : decode cX5_execute 76 = .ok (.aload_n 0, 1) := by decide +kernel
theorem dX5_execute_77 : decode cX5_execute 77 = .ok (.getfield 10, 3) := by decide +kernel
theorem dX5_execute_80 : decode cX5_execute 80 = .ok (.aload_n 0, 1) := by decide +kernel
theorem dX5_execute_81 : decode cX5_execute 81 = .ok (.getfield 29, 3) := by decide +kernel
theorem dX5_execute_84 : decode cX5_execute 84 = .ok (.getfield 176, 3) := by decide +kernel
theorem dX5_execute_87 : decode cX5_execute 87 = .ok (.aload_n 0, 1) := by decide +kernel
theorem dX5_execute_88 : decode cX5_execute 88 = .ok (.getfield 29, 3) := by decide +kernel
theorem dX5_execute_91 : decode cX5_execute 91 = .ok (.getfield 179, 3) := by decide +kernel
theorem dX5_execute_94 : decode cX5_execute 94 = .ok (.invokevirtual 44, 3) := by decide +kernel
theorem dX5_execute_97 : decode cX5_execute 97 = .ok (.ifCond .ne 5, 3) := by decide +kernel
theorem dX5_execute_100 : decode cX5_execute 100 = .ok (.iconst 0, 1) := by decide +kernel
theorem dX5_execute_101 : decode cX5_execute 101 = .ok (.ireturn, 1) := by decide +kernel
theorem dX5_execute_102 : decode cX5_execute 102 = .ok (.aload_n 0, 1) := by decide +kernel
theorem dX5_execute_103 : decode cX5_execute 103 = .ok (.getfield 10, 3) := by decide +kernel
theorem dX5_execute_106 : decode cX5_execute 106 = .ok (.getfield 57, 3) := by decide +kernel
theorem dX5_execute_109 : decode cX5_execute 109 = .ok (.aload_n 0, 1) := by decide +kernel
theorem dX5_execute_110 : decode cX5_execute 110 = .ok (.getfield 29, 3) := by decide +kernel
theorem dX5_execute_113 : decode cX5_execute 113 = .ok (.getfield 176, 3) := by decide +kernel
theorem dX5_execute_116 : decode cX5_execute 116 = .ok (.aload_n 0, 1) := by decide +kernel
theorem dX5_execute_117 : decode cX5_execute 117 = .ok (.getfield 29, 3) := by decide +kernel
theorem dX5_execute_120 : decode cX5_execute 120 = .ok (.getfield 179, 3) := by decide +kernel
theorem dX5_execute_123 : decode cX5_execute 123 = .ok (.aload_n 0, 1) := by decide +kernel
theorem dX5_execute_124 : decode cX5_execute 124 = .ok (.getfield 29, 3) := by decide +kernel
theorem dX5_execute_127 : decode cX5_execute 127 = .ok (.getfield 173, 3) := by decide +kernel
theorem dX5_execute_130 : decode cX5_execute 130 = .ok (.aload_n 0, 1) := by decide +kernel
theorem dX5_execute_131 : decode cX5_execute 131 = .ok (.getfield 29, 3) := by decide +kernel
theorem dX5_execute_134 : decode cX5_execute 134 = .ok (.getfield 182, 3) := by decide +kernel
theorem dX5_execute_137 : decode cX5_execute 137 = .ok (.invokevirtual 61, 3) := by decide +kernel
theorem dX5_execute_140 : decode cX5_execute 140 = .ok (.pop, 1) := by decide +kernel
theorem dX5_execute_141 : decode cX5_execute 141 = .ok (.iconst 1, 1) := by decide +kernel
theorem dX5_execute_142 : decode cX5_execute 142 = .ok (.ireturn, 1) := by decide +kernel
theorem dX5_undo_0 : decode cX5_undo 0 = .ok (.aload_n 0, 1) := by decide +kernel
theorem dX5_undo_1 : decode cX5_undo 1 = .ok (.getfield 22, 3) := by decide +kernel
theorem dX5_undo_4 : decode cX5_undo 4 = .ok (.getfield 185, 3) := by decide +kernel
theorem dX5_undo_7 : decode cX5_undo 7 = .ok (.ifCond .gt 13, 3) := by decide +kernel
theorem dX5_undo_10 : decode cX5_undo 10 = .ok (.new 48, 3) := by decide +kernel
theorem dX5_undo_13 : decode cX5_undo 13 = .ok (.dup, 1) := by decide +kernel
theorem dX5_undo_14 : decode cX5_undo 14 = .ok (.ldc 188, 2) := by decide +kernel
theorem dX5_undo_16 : decode cX5_undo 16 = .ok (.invokespecial 52, 3) := by decide +kernel
theorem dX5_undo_19 : decode cX5_undo 19 = .ok (.athrow, 1) := by decide +kernel
theorem dX5_undo_20 : decode cX5_undo 20 = .ok (.aload_n 0, 1) := by decide +kernel
theorem dX5_undo_21 : decode cX5_undo 21 = .ok (.getfield 22, 3) := by decide +kernel
theorem dX5_undo_24 : decode cX5_undo 24 = .ok (.aload_n 0, 1) := by decide +kernel
theorem dX5_undo_25 : decode cX5_undo 25 = .ok (.getfield 10, 3) := by decide +kernel
theorem dX5_undo_28 : decode cX5_undo 28 = .ok (.invokevirtual 190, 3) := by decide +kernel
theorem dX5_undo_31 : decode cX5_undo 31 = .ok (.aload_n 0, 1) := by decide +kernel
theorem dX5_undo_32 : decode cX5_undo 32 = .ok (.getfield 22, 3) := by decide +kernel
theorem dX5_undo_35 : decode cX5_undo 35 = .ok (.getfield 185, 3) := by decide +kernel
theorem dX5_undo_38 : decode cX5_undo 38 = .ok (.ireturn, 1) := by decide +kernel
theorem dX5_reel_0 : decode cX5_reel 0 = .ok (.iload_n 1, 1) := by decide +kernel
theorem dX5_reel_1 : decode cX5_reel 1 = .ok (.invokestatic 89, 3) := by decide +kernel
theorem dX5_reel_4 : decode cX5_reel 4 = .ok (.ifCond .ne 13, 3) := by decide +kernel
theorem dX5_reel_7 : decode cX5_reel 7 = .ok (.new 71, 3) := by decide +kernel
theorem dX5_reel_10 : decode cX5_reel 10 = .ok (.dup, 1) := by decide +kernel
theorem dX5_reel_11 : decode cX5_reel 11 = .ok (.ldc 92, 2) := by decide +kernel
theorem dX5_reel_13 : decode cX5_reel 13 = .ok (.invokespecial 75, 3) := by decide +kernel
theorem dX5_reel_16 : decode cX5_reel 16 = .ok (.athrow, 1) := by decide +kernel
theorem dX5_reel_17 : decode cX5_reel 17 = .ok (.iload_n 2, 1) := by decide +kernel
theorem dX5_reel_18 : decode cX5_reel 18 = .ok (.tableswitch 155 0 6 #[42, 55, 68, 89, 102, 115, 128], 42) := by decide +kernel
theorem dX5_reel_60 : decode cX5_reel 60 = .ok (.aload_n 0, 1) := by decide +kernel
theorem dX5_reel_61 : decode cX5_reel 61 = .ok (.getfield 10, 3) := by decide +kernel
theorem dX5_reel_64 : decode cX5_reel 64 = .ok (.getfield 96, 3) := by decide +kernel
theorem dX5_reel_67 : decode cX5_reel 67 = .ok (.getfield 193, 3) := by decide +kernel
theorem dX5_reel_70 : decode cX5_reel 70 = .ok (.iload_n 1, 1) := by decide +kernel
theorem dX5_reel_71 : decode cX5_reel 71 = .ok (.iaload, 1) := by decide +kernel
theorem dX5_reel_72 : decode cX5_reel 72 = .ok (.ireturn, 1) := by decide +kernel
theorem dX5_reel_73 : decode cX5_reel 73 = .ok (.aload_n 0, 1) := by decide +kernel
theorem dX5_reel_74 : decode cX5_reel 74 = .ok (.getfield 10, 3) := by decide +kernel
theorem dX5_reel_77 : decode cX5_reel 77 = .ok (.getfield 96, 3) := by decide +kernel
theorem dX5_reel_80 : decode cX5_reel 80 = .ok (.getfield 100, 3) := by decide +kernel
theorem dX5_reel_83 : decode cX5_reel 83 = .ok (.iload_n 1, 1) := by decide +kernel
theorem dX5_reel_84 : decode cX5_reel 84 = .ok (.iaload, 1) := by decide +kernel
theorem dX5_reel_85 : decode cX5_reel 85 = .ok (.ireturn, 1) := by decide +kernel
theorem dX5_reel_86 : decode cX5_reel 86 = .ok (.aload_n 0, 1) := by decide +kernel
theorem dX5_reel_87 : decode cX5_reel 87 = .ok (.getfield 10, 3) := by decide +kernel
theorem dX5_reel_90 : decode cX5_reel 90 = .ok (.getfield 96, 3) := by decide +kernel
theorem dX5_reel_93 : decode cX5_reel 93 = .ok (.getfield 110, 3) := by decide +kernel
theorem dX5_reel_96 : decode cX5_reel 96 = .ok (.iload_n 1, 1) := by decide +kernel
theorem dX5_reel_97 : decode cX5_reel 97 = .ok (.baload, 1) := by decide +kernel
theorem dX5_reel_98 : decode cX5_reel 98 = .ok (.ifCond .eq 7, 3) := by decide +kernel
theorem dX5_reel_101 : decode cX5_reel 101 = .ok (.iconst 1, 1) := by decide +kernel
theorem dX5_reel_102 : decode cX5_reel 102 = .ok (.goto 4, 3) := by decide +kernel
theorem dX5_reel_105 : decode cX5_reel 105 = .ok (.iconst 0, 1) := by decide +kernel
theorem dX5_reel_106 : decode cX5_reel 106 = .ok (.ireturn, 1) := by decide +kernel
theorem dX5_reel_107 : decode cX5_reel 107 = .ok (.aload_n 0, 1) := by decide +kernel
theorem dX5_reel_108 : decode cX5_reel 108 = .ok (.getfield 10, 3) := by decide +kernel
theorem dX5_reel_111 : decode cX5_reel 111 = .ok (.getfield 96, 3) := by decide +kernel
theorem dX5_reel_114 : decode cX5_reel 114 = .ok (.getfield 196, 3) := by decide +kernel
theorem dX5_reel_117 : decode cX5_reel 117 = .ok (.iload_n 1, 1) := by decide +kernel
theorem dX5_reel_118 : decode cX5_reel 118 = .ok (.iaload, 1) := by decide +kernel
theorem dX5_reel_119 : decode cX5_reel 119 = .ok (.ireturn, 1) := by decide +kernel
theorem dX5_reel_120 : decode cX5_reel 120 = .ok (.aload_n 0, 1) := by decide +kernel
theorem dX5_reel_121 : decode cX5_reel 121 = .ok (.getfield 10, 3) := by decide +kernel
theorem dX5_reel_124 : decode cX5_reel 124 = .ok (.getfield 96, 3) := by decide +kernel
theorem dX5_reel_127 : decode cX5_reel 127 = .ok (.getfield 199, 3) := by decide +kernel
theorem dX5_reel_130 : decode cX5_reel 130 = .ok (.iload_n 1, 1) := by decide +kernel
theorem dX5_reel_131 : decode cX5_reel 131 = .ok (.iaload, 1) := by decide +kernel
theorem dX5_reel_132 : decode cX5_reel 132 = .ok (.ireturn, 1) := by decide +kernel
theorem dX5_reel_133 : decode cX5_reel 133 = .ok (.aload_n 0, 1) := by decide +kernel
theorem dX5_reel_134 : decode cX5_reel 134 = .ok (.getfield 10, 3) := by decide +kernel
theorem dX5_reel_137 : decode cX5_reel 137 = .ok (.getfield 96, 3) := by decide +kernel
theorem dX5_reel_140 : decode cX5_reel 140 = .ok (.getfield 105, 3) := by decide +kernel
theorem dX5_reel_143 : decode cX5_reel 143 = .ok (.iload_n 1, 1) := by decide +kernel
theorem dX5_reel_144 : decode cX5_reel 144 = .ok (.iaload, 1) := by decide +kernel
theorem dX5_reel_145 : decode cX5_reel 145 = .ok (.ireturn, 1) := by decide +kernel
theorem dX5_reel_146 : decode cX5_reel 146 = .ok (.aload_n 0, 1) := by decide +kernel
theorem dX5_reel_147 : decode cX5_reel 147 = .ok (.getfield 10, 3) := by decide +kernel
theorem dX5_reel_150 : decode cX5_reel 150 = .ok (.getfield 96, 3) := by decide +kernel
theorem dX5_reel_153 : decode cX5_reel 153 = .ok (.iload_n 1, 1) := by decide +kernel
theorem dX5_reel_154 : decode cX5_reel 154 = .ok (.aload_n 0, 1) := by decide +kernel
theorem dX5_reel_155 : decode cX5_reel 155 = .ok (.getfield 10, 3) := by decide +kernel
theorem dX5_reel_158 : decode cX5_reel 158 = .ok (.getfield 126, 3) := by decide +kernel
theorem dX5_reel_161 : decode cX5_reel 161 = .ok (.invokevirtual 200, 3) := by decide +kernel
theorem dX5_reel_164 : decode cX5_reel 164 = .ok (.ifCond .eq 7, 3) := by decide +kernel
theorem dX5_reel_167 : decode cX5_reel 167 = .ok (.iconst 1, 1) := by decide +kernel
theorem dX5_reel_168 : decode cX5_reel 168 = .ok (.goto 4, 3) := by decide +kernel
theorem dX5_reel_171 : decode cX5_reel 171 = .ok (.iconst 0, 1) := by decide +kernel
theorem dX5_reel_172 : decode cX5_reel 172 = .ok (.ireturn, 1) := by decide +kernel
theorem dX5_reel_173 : decode cX5_reel 173 = .ok (.new 37, 3) := by decide +kernel
theorem dX5_reel_176 : decode cX5_reel 176 = .ok (.dup, 1) := by decide +kernel
theorem dX5_reel_177 : decode cX5_reel 177 = .ok (.ldc 203, 2) := by decide +kernel
theorem dX5_reel_179 : decode cX5_reel 179 = .ok (.invokespecial 41, 3) := by decide +kernel
theorem dX5_reel_182 : decode cX5_reel 182 = .ok (.athrow, 1) := by decide +kernel
theorem dX5_reelOn_0 : decode cX5_reelOn 0 = .ok (.iload_n 1, 1) := by decide +kernel
theorem dX5_reelOn_1 : decode cX5_reelOn 1 = .ok (.iconst 0, 1) := by decide +kernel
theorem dX5_reelOn_2 : decode cX5_reelOn 2 = .ok (.iconst 2, 1) := by decide +kernel
theorem dX5_reelOn_3 : decode cX5_reelOn 3 = .ok (.invokestatic 33, 3) := by decide +kernel
theorem dX5_reelOn_6 : decode cX5_reelOn 6 = .ok (.ifCond .ne 13, 3) := by decide +kernel
theorem dX5_reelOn_9 : decode cX5_reelOn 9 = .ok (.new 71, 3) := by decide +kernel
theorem dX5_reelOn_12 : decode cX5_reelOn 12 = .ok (.dup, 1) := by decide +kernel
theorem dX5_reelOn_13 : decode cX5_reelOn 13 = .ok (.ldc 205, 2) := by decide +kernel
theorem dX5_reelOn_15 : decode cX5_reelOn 15 = .ok (.invokespecial 75, 3) := by decide +kernel
theorem dX5_reelOn_18 : decode cX5_reelOn 18 = .ok (.athrow, 1) := by decide +kernel
theorem dX5_reelOn_19 : decode cX5_reelOn 19 = .ok (.aload_n 0, 1) := by decide +kernel
theorem dX5_reelOn_20 : decode cX5_reelOn 20 = .ok (.getfield 10, 3) := by decide +kernel
theorem dX5_reelOn_23 : decode cX5_reelOn 23 = .ok (.getfield 96, 3) := by decide +kernel
theorem dX5_reelOn_26 : decode cX5_reelOn 26 = .ok (.iload_n 1, 1) := by decide +kernel
theorem dX5_reelOn_27 : decode cX5_reelOn 27 = .ok (.invokevirtual 207, 3) := by decide +kernel
theorem dX5_reelOn_30 : decode cX5_reelOn 30 = .ok (.ireturn, 1) := by decide +kernel
theorem dX5_scratchReels_0 : decode cX5_scratchReels 0 = .ok (.iconst 0, 1) := by decide +kernel
theorem dX5_scratchReels_1 : decode cX5_scratchReels 1 = .ok (.istore_n 1, 1) := by decide +kernel
theorem dX5_scratchReels_2 : decode cX5_scratchReels 2 = .ok (.iconst 0, 1) := by decide +kernel
theorem dX5_scratchReels_3 : decode cX5_scratchReels 3 = .ok (.istore_n 2, 1) := by decide +kernel
theorem dX5_scratchReels_4 : decode cX5_scratchReels 4 = .ok (.iload_n 2, 1) := by decide +kernel
theorem dX5_scratchReels_5 : decode cX5_scratchReels 5 = .ok (.bipush 12, 2) := by decide +kernel
theorem dX5_scratchReels_7 : decode cX5_scratchReels 7 = .ok (.if_icmp .ge 33, 3) := by decide +kernel
theorem dX5_scratchReels_10 : decode cX5_scratchReels 10 = .ok (.aload_n 0, 1) := by decide +kernel
theorem dX5_scratchReels_11 : decode cX5_scratchReels 11 = .ok (.getfield 10, 3) := by decide +kernel
theorem dX5_scratchReels_14 : decode cX5_scratchReels 14 = .ok (.getfield 96, 3) := by decide +kernel
theorem dX5_scratchReels_17 : decode cX5_scratchReels 17 = .ok (.iload_n 2, 1) := by decide +kernel
theorem dX5_scratchReels_18 : decode cX5_scratchReels 18 = .ok (.aload_n 0, 1) := by decide +kernel
theorem dX5_scratchReels_19 : decode cX5_scratchReels 19 = .ok (.getfield 10, 3) := by decide +kernel
theorem dX5_scratchReels_22 : decode cX5_scratchReels 22 = .ok (.getfield 126, 3) := by decide +kernel
theorem dX5_scratchReels_25 : decode cX5_scratchReels 25 = .ok (.invokevirtual 200, 3) := by decide +kernel
theorem dX5_scratchReels_28 : decode cX5_scratchReels 28 = .ok (.ifCond .eq 6, 3) := by decide +kernel
theorem dX5_scratchReels_31 : decode cX5_scratchReels 31 = .ok (.iinc 1 1, 3) := by decide +kernel
theorem dX5_scratchReels_34 : decode cX5_scratchReels 34 = .ok (.iinc 2 1, 3) := by decide +kernel
theorem dX5_scratchReels_37 : decode cX5_scratchReels 37 = .ok (.goto (-33), 3) := by decide +kernel
theorem dX5_scratchReels_40 : decode cX5_scratchReels 40 = .ok (.iload_n 1, 1) := by decide +kernel
theorem dX5_scratchReels_41 : decode cX5_scratchReels 41 = .ok (.ireturn, 1) := by decide +kernel
theorem dX5_jobs_0 : decode cX5_jobs 0 = .ok (.aload_n 0, 1) := by decide +kernel
theorem dX5_jobs_1 : decode cX5_jobs 1 = .ok (.getfield 10, 3) := by decide +kernel
theorem dX5_jobs_4 : decode cX5_jobs 4 = .ok (.getfield 57, 3) := by decide +kernel
theorem dX5_jobs_7 : decode cX5_jobs 7 = .ok (.getfield 210, 3) := by decide +kernel
theorem dX5_jobs_10 : decode cX5_jobs 10 = .ok (.ireturn, 1) := by decide +kernel
theorem dX5_job_0 : decode cX5_job 0 = .ok (.aload_n 0, 1) := by decide +kernel
theorem dX5_job_1 : decode cX5_job 1 = .ok (.getfield 10, 3) := by decide +kernel
theorem dX5_job_4 : decode cX5_job 4 = .ok (.getfield 57, 3) := by decide +kernel
theorem dX5_job_7 : decode cX5_job 7 = .ok (.iload_n 1, 1) := by decide +kernel
theorem dX5_job_8 : decode cX5_job 8 = .ok (.invokevirtual 67, 3) := by decide +kernel
theorem dX5_job_11 : decode cX5_job 11 = .ok (.ifCond .ne 13, 3) := by decide +kernel
theorem dX5_job_14 : decode cX5_job 14 = .ok (.new 71, 3) := by decide +kernel
theorem dX5_job_17 : decode cX5_job 17 = .ok (.dup, 1) := by decide +kernel
theorem dX5_job_18 : decode cX5_job 18 = .ok (.ldc 73, 2) := by decide +kernel
theorem dX5_job_20 : decode cX5_job 20 = .ok (.invokespecial 75, 3) := by decide +kernel
theorem dX5_job_23 : decode cX5_job 23 = .ok (.athrow, 1) := by decide +kernel
theorem dX5_job_24 : decode cX5_job 24 = .ok (.iload_n 2, 1) := by decide +kernel
theorem dX5_job_25 : decode cX5_job 25 = .ok (.tableswitch 151 0 7 #[47, 60, 73, 86, 99, 112, 125, 138], 47) := by decide +kernel
theorem dX5_job_72 : decode cX5_job 72 = .ok (.aload_n 0, 1) := by decide +kernel
theorem dX5_job_73 : decode cX5_job 73 = .ok (.getfield 10, 3) := by decide +kernel
theorem dX5_job_76 : decode cX5_job 76 = .ok (.getfield 57, 3) := by decide +kernel
theorem dX5_job_79 : decode cX5_job 79 = .ok (.getfield 213, 3) := by decide +kernel
theorem dX5_job_82 : decode cX5_job 82 = .ok (.iload_n 1, 1) := by decide +kernel
theorem dX5_job_83 : decode cX5_job 83 = .ok (.iaload, 1) := by decide +kernel
theorem dX5_job_84 : decode cX5_job 84 = .ok (.ireturn, 1) := by decide +kernel
theorem dX5_job_85 : decode cX5_job 85 = .ok (.aload_n 0, 1) := by decide +kernel
theorem dX5_job_86 : decode cX5_job 86 = .ok (.getfield 10, 3) := by decide +kernel
theorem dX5_job_89 : decode cX5_job 89 = .ok (.getfield 57, 3) := by decide +kernel
theorem dX5_job_92 : decode cX5_job 92 = .ok (.getfield 216, 3) := by decide +kernel
theorem dX5_job_95 : decode cX5_job 95 = .ok (.iload_n 1, 1) := by decide +kernel
theorem dX5_job_96 : decode cX5_job 96 = .ok (.iaload, 1) := by decide +kernel
theorem dX5_job_97 : decode cX5_job 97 = .ok (.ireturn, 1) := by decide +kernel
theorem dX5_job_98 : decode cX5_job 98 = .ok (.aload_n 0, 1) := by decide +kernel
theorem dX5_job_99 : decode cX5_job 99 = .ok (.getfield 10, 3) := by decide +kernel
theorem dX5_job_102 : decode cX5_job 102 = .ok (.getfield 57, 3) := by decide +kernel
theorem dX5_job_105 : decode cX5_job 105 = .ok (.getfield 219, 3) := by decide +kernel
theorem dX5_job_108 : decode cX5_job 108 = .ok (.iload_n 1, 1) := by decide +kernel
theorem dX5_job_109 : decode cX5_job 109 = .ok (.iaload, 1) := by decide +kernel
theorem dX5_job_110 : decode cX5_job 110 = .ok (.ireturn, 1) := by decide +kernel
theorem dX5_job_111 : decode cX5_job 111 = .ok (.aload_n 0, 1) := by decide +kernel
theorem dX5_job_112 : decode cX5_job 112 = .ok (.getfield 10, 3) := by decide +kernel
theorem dX5_job_115 : decode cX5_job 115 = .ok (.getfield 57, 3) := by decide +kernel
theorem dX5_job_118 : decode cX5_job 118 = .ok (.getfield 221, 3) := by decide +kernel
theorem dX5_job_121 : decode cX5_job 121 = .ok (.iload_n 1, 1) := by decide +kernel
theorem dX5_job_122 : decode cX5_job 122 = .ok (.iaload, 1) := by decide +kernel
theorem dX5_job_123 : decode cX5_job 123 = .ok (.ireturn, 1) := by decide +kernel
theorem dX5_job_124 : decode cX5_job 124 = .ok (.aload_n 0, 1) := by decide +kernel
theorem dX5_job_125 : decode cX5_job 125 = .ok (.getfield 10, 3) := by decide +kernel
theorem dX5_job_128 : decode cX5_job 128 = .ok (.getfield 57, 3) := by decide +kernel
theorem dX5_job_131 : decode cX5_job 131 = .ok (.getfield 76, 3) := by decide +kernel
theorem dX5_job_134 : decode cX5_job 134 = .ok (.iload_n 1, 1) := by decide +kernel
theorem dX5_job_135 : decode cX5_job 135 = .ok (.iaload, 1) := by decide +kernel
theorem dX5_job_136 : decode cX5_job 136 = .ok (.ireturn, 1) := by decide +kernel
theorem dX5_job_137 : decode cX5_job 137 = .ok (.aload_n 0, 1) := by decide +kernel
theorem dX5_job_138 : decode cX5_job 138 = .ok (.getfield 10, 3) := by decide +kernel
theorem dX5_job_141 : decode cX5_job 141 = .ok (.getfield 57, 3) := by decide +kernel
theorem dX5_job_144 : decode cX5_job 144 = .ok (.getfield 86, 3) := by decide +kernel
theorem dX5_job_147 : decode cX5_job 147 = .ok (.iload_n 1, 1) := by decide +kernel
theorem dX5_job_148 : decode cX5_job 148 = .ok (.iaload, 1) := by decide +kernel
theorem dX5_job_149 : decode cX5_job 149 = .ok (.ireturn, 1) := by decide +kernel
theorem dX5_job_150 : decode cX5_job 150 = .ok (.aload_n 0, 1) := by decide +kernel
theorem dX5_job_151 : decode cX5_job 151 = .ok (.getfield 10, 3) := by decide +kernel
theorem dX5_job_154 : decode cX5_job 154 = .ok (.getfield 57, 3) := by decide +kernel
theorem dX5_job_157 : decode cX5_job 157 = .ok (.getfield 224, 3) := by decide +kernel
theorem dX5_job_160 : decode cX5_job 160 = .ok (.iload_n 1, 1) := by decide +kernel
theorem dX5_job_161 : decode cX5_job 161 = .ok (.iaload, 1) := by decide +kernel
theorem dX5_job_162 : decode cX5_job 162 = .ok (.ireturn, 1) := by decide +kernel
theorem dX5_job_163 : decode cX5_job 163 = .ok (.aload_n 0, 1) := by decide +kernel
theorem dX5_job_164 : decode cX5_job 164 = .ok (.getfield 10, 3) := by decide +kernel
theorem dX5_job_167 : decode cX5_job 167 = .ok (.getfield 57, 3) := by decide +kernel
theorem dX5_job_170 : decode cX5_job 170 = .ok (.getfield 227, 3) := by decide +kernel
theorem dX5_job_173 : decode cX5_job 173 = .ok (.iload_n 1, 1) := by decide +kernel
theorem dX5_job_174 : decode cX5_job 174 = .ok (.iaload, 1) := by decide +kernel
theorem dX5_job_175 : decode cX5_job 175 = .ok (.ireturn, 1) := by decide +kernel
theorem dX5_job_176 : decode cX5_job 176 = .ok (.new 37, 3) := by decide +kernel
theorem dX5_job_179 : decode cX5_job 179 = .ok (.dup, 1) := by decide +kernel
theorem dX5_job_180 : decode cX5_job 180 = .ok (.ldc 230, 2) := by decide +kernel
theorem dX5_job_182 : decode cX5_job 182 = .ok (.invokespecial 41, 3) := by decide +kernel
theorem dX5_job_185 : decode cX5_job 185 = .ok (.athrow, 1) := by decide +kernel
theorem dX5_isStuck_0 : decode cX5_isStuck 0 = .ok (.aload_n 0, 1) := by decide +kernel
theorem dX5_isStuck_1 : decode cX5_isStuck 1 = .ok (.getfield 10, 3) := by decide +kernel
theorem dX5_isStuck_4 : decode cX5_isStuck 4 = .ok (.getfield 57, 3) := by decide +kernel
theorem dX5_isStuck_7 : decode cX5_isStuck 7 = .ok (.iload_n 1, 1) := by decide +kernel
theorem dX5_isStuck_8 : decode cX5_isStuck 8 = .ok (.invokevirtual 67, 3) := by decide +kernel
theorem dX5_isStuck_11 : decode cX5_isStuck 11 = .ok (.ifCond .ne 13, 3) := by decide +kernel
theorem dX5_isStuck_14 : decode cX5_isStuck 14 = .ok (.new 71, 3) := by decide +kernel
theorem dX5_isStuck_17 : decode cX5_isStuck 17 = .ok (.dup, 1) := by decide +kernel
theorem dX5_isStuck_18 : decode cX5_isStuck 18 = .ok (.ldc 73, 2) := by decide +kernel
theorem dX5_isStuck_20 : decode cX5_isStuck 20 = .ok (.invokespecial 75, 3) := by decide +kernel
theorem dX5_isStuck_23 : decode cX5_isStuck 23 = .ok (.athrow, 1) := by decide +kernel
theorem dX5_isStuck_24 : decode cX5_isStuck 24 = .ok (.aload_n 0, 1) := by decide +kernel
theorem dX5_isStuck_25 : decode cX5_isStuck 25 = .ok (.getfield 10, 3) := by decide +kernel
theorem dX5_isStuck_28 : decode cX5_isStuck 28 = .ok (.getfield 57, 3) := by decide +kernel
theorem dX5_isStuck_31 : decode cX5_isStuck 31 = .ok (.getfield 76, 3) := by decide +kernel
theorem dX5_isStuck_34 : decode cX5_isStuck 34 = .ok (.iload_n 1, 1) := by decide +kernel
theorem dX5_isStuck_35 : decode cX5_isStuck 35 = .ok (.iaload, 1) := by decide +kernel
theorem dX5_isStuck_36 : decode cX5_isStuck 36 = .ok (.ifCond .ne 18, 3) := by decide +kernel
theorem dX5_isStuck_39 : decode cX5_isStuck 39 = .ok (.aload_n 0, 1) := by decide +kernel
theorem dX5_isStuck_40 : decode cX5_isStuck 40 = .ok (.getfield 10, 3) := by decide +kernel
theorem dX5_isStuck_43 : decode cX5_isStuck 43 = .ok (.iload_n 1, 1) := by decide +kernel
theorem dX5_isStuck_44 : decode cX5_isStuck 44 = .ok (.invokevirtual 232, 3) := by decide +kernel
theorem dX5_isStuck_47 : decode cX5_isStuck 47 = .ok (.ifCond .eq 7, 3) := by decide +kernel
theorem dX5_isStuck_50 : decode cX5_isStuck 50 = .ok (.iconst 1, 1) := by decide +kernel
theorem dX5_isStuck_51 : decode cX5_isStuck 51 = .ok (.goto 4, 3) := by decide +kernel
theorem dX5_isStuck_54 : decode cX5_isStuck 54 = .ok (.iconst 0, 1) := by decide +kernel
theorem dX5_isStuck_55 : decode cX5_isStuck 55 = .ok (.ireturn, 1) := by decide +kernel
theorem dX5_verdict_0 : decode cX5_verdict 0 = .ok (.aload_n 0, 1) := by decide +kernel
theorem dX5_verdict_1 : decode cX5_verdict 1 = .ok (.getfield 10, 3) := by decide +kernel
theorem dX5_verdict_4 : decode cX5_verdict 4 = .ok (.getfield 57, 3) := by decide +kernel
theorem dX5_verdict_7 : decode cX5_verdict 7 = .ok (.iload_n 1, 1) := by decide +kernel
theorem dX5_verdict_8 : decode cX5_verdict 8 = .ok (.invokevirtual 67, 3) := by decide +kernel
theorem dX5_verdict_11 : decode cX5_verdict 11 = .ok (.ifCond .eq 10, 3) := by decide +kernel
theorem dX5_verdict_14 : decode cX5_verdict 14 = .ok (.iload_n 2, 1) := by decide +kernel
theorem dX5_verdict_15 : decode cX5_verdict 15 = .ok (.invokestatic 89, 3) := by decide +kernel
theorem dX5_verdict_18 : decode cX5_verdict 18 = .ok (.ifCond .ne 13, 3) := by decide +kernel
theorem dX5_verdict_21 : decode cX5_verdict 21 = .ok (.new 71, 3) := by decide +kernel
theorem dX5_verdict_24 : decode cX5_verdict 24 = .ok (.dup, 1) := by decide +kernel
theorem dX5_verdict_25 : decode cX5_verdict 25 = .ok (.ldc 235, 2) := by decide +kernel
theorem dX5_verdict_27 : decode cX5_verdict 27 = .ok (.invokespecial 75, 3) := by decide +kernel
theorem dX5_verdict_30 : decode cX5_verdict 30 = .ok (.athrow, 1) := by decide +kernel
theorem dX5_verdict_31 : decode cX5_verdict 31 = .ok (.aload_n 0, 1) := by decide +kernel
theorem dX5_verdict_32 : decode cX5_verdict 32 = .ok (.getfield 10, 3) := by decide +kernel
theorem dX5_verdict_35 : decode cX5_verdict 35 = .ok (.iload_n 1, 1) := by decide +kernel
theorem dX5_verdict_36 : decode cX5_verdict 36 = .ok (.iload_n 2, 1) := by decide +kernel
theorem dX5_verdict_37 : decode cX5_verdict 37 = .ok (.invokevirtual 237, 3) := by decide +kernel
theorem dX5_verdict_40 : decode cX5_verdict 40 = .ok (.ireturn, 1) := by decide +kernel
theorem dX5_nextJob_0 : decode cX5_nextJob 0 = .ok (.aload_n 0, 1) := by decide +kernel
theorem dX5_nextJob_1 : decode cX5_nextJob 1 = .ok (.getfield 10, 3) := by decide +kernel
theorem dX5_nextJob_4 : decode cX5_nextJob 4 = .ok (.invokevirtual 241, 3) := by decide +kernel
theorem dX5_nextJob_7 : decode cX5_nextJob 7 = .ok (.ireturn, 1) := by decide +kernel
theorem dX5_nextReel_0 : decode cX5_nextReel 0 = .ok (.aload_n 0, 1) := by decide +kernel
theorem dX5_nextReel_1 : decode cX5_nextReel 1 = .ok (.getfield 10, 3) := by decide +kernel
theorem dX5_nextReel_4 : decode cX5_nextReel 4 = .ok (.invokevirtual 241, 3) := by decide +kernel
theorem dX5_nextReel_7 : decode cX5_nextReel 7 = .ok (.istore_n 1, 1) := by decide +kernel
theorem dX5_nextReel_8 : decode cX5_nextReel 8 = .ok (.iload_n 1, 1) := by decide +kernel
theorem dX5_nextReel_9 : decode cX5_nextReel 9 = .ok (.iconst (-1), 1) := by decide +kernel
theorem dX5_nextReel_10 : decode cX5_nextReel 10 = .ok (.if_icmp .ne 7, 3) := by decide +kernel
theorem dX5_nextReel_13 : decode cX5_nextReel 13 = .ok (.iconst (-1), 1) := by decide +kernel
theorem dX5_nextReel_14 : decode cX5_nextReel 14 = .ok (.goto 27, 3) := by decide +kernel
theorem dX5_nextReel_17 : decode cX5_nextReel 17 = .ok (.aload_n 0, 1) := by decide +kernel
theorem dX5_nextReel_18 : decode cX5_nextReel 18 = .ok (.getfield 10, 3) := by decide +kernel
theorem dX5_nextReel_21 : decode cX5_nextReel 21 = .ok (.iload_n 1, 1) := by decide +kernel
theorem dX5_nextReel_22 : decode cX5_nextReel 22 = .ok (.aload_n 0, 1) := by decide +kernel
theorem dX5_nextReel_23 : decode cX5_nextReel 23 = .ok (.getfield 10, 3) := by decide +kernel
theorem dX5_nextReel_26 : decode cX5_nextReel 26 = .ok (.aload_n 0, 1) := by decide +kernel
theorem dX5_nextReel_27 : decode cX5_nextReel 27 = .ok (.getfield 10, 3) := by decide +kernel
theorem dX5_nextReel_30 : decode cX5_nextReel 30 = .ok (.getfield 244, 3) := by decide +kernel
theorem dX5_nextReel_33 : decode cX5_nextReel 33 = .ok (.iconst 1, 1) := by decide +kernel
theorem dX5_nextReel_34 : decode cX5_nextReel 34 = .ok (.iadd, 1) := by decide +kernel
theorem dX5_nextReel_35 : decode cX5_nextReel 35 = .ok (.invokevirtual 247, 3) := by decide +kernel
theorem dX5_nextReel_38 : decode cX5_nextReel 38 = .ok (.invokevirtual 250, 3) := by decide +kernel
theorem dX5_nextReel_41 : decode cX5_nextReel 41 = .ok (.ireturn, 1) := by decide +kernel
theorem dX5_minutesToDone_0 : decode cX5_minutesToDone 0 = .ok (.aload_n 0, 1) := by decide +kernel
theorem dX5_minutesToDone_1 : decode cX5_minutesToDone 1 = .ok (.getfield 10, 3) := by decide +kernel
theorem dX5_minutesToDone_4 : decode cX5_minutesToDone 4 = .ok (.getfield 57, 3) := by decide +kernel
theorem dX5_minutesToDone_7 : decode cX5_minutesToDone 7 = .ok (.iload_n 1, 1) := by decide +kernel
theorem dX5_minutesToDone_8 : decode cX5_minutesToDone 8 = .ok (.invokevirtual 67, 3) := by decide +kernel
theorem dX5_minutesToDone_11 : decode cX5_minutesToDone 11 = .ok (.ifCond .ne 13, 3) := by decide +kernel
theorem dX5_minutesToDone_14 : decode cX5_minutesToDone 14 = .ok (.new 71, 3) := by decide +kernel
theorem dX5_minutesToDone_17 : decode cX5_minutesToDone 17 = .ok (.dup, 1) := by decide +kernel
theorem dX5_minutesToDone_18 : decode cX5_minutesToDone 18 = .ok (.ldc 73, 2) := by decide +kernel
theorem dX5_minutesToDone_20 : decode cX5_minutesToDone 20 = .ok (.invokespecial 75, 3) := by decide +kernel
theorem dX5_minutesToDone_23 : decode cX5_minutesToDone 23 = .ok (.athrow, 1) := by decide +kernel
theorem dX5_minutesToDone_24 : decode cX5_minutesToDone 24 = .ok (.aload_n 0, 1) := by decide +kernel
theorem dX5_minutesToDone_25 : decode cX5_minutesToDone 25 = .ok (.getfield 10, 3) := by decide +kernel
theorem dX5_minutesToDone_28 : decode cX5_minutesToDone 28 = .ok (.getfield 57, 3) := by decide +kernel
theorem dX5_minutesToDone_31 : decode cX5_minutesToDone 31 = .ok (.getfield 76, 3) := by decide +kernel
theorem dX5_minutesToDone_34 : decode cX5_minutesToDone 34 = .ok (.iload_n 1, 1) := by decide +kernel
theorem dX5_minutesToDone_35 : decode cX5_minutesToDone 35 = .ok (.iaload, 1) := by decide +kernel
theorem dX5_minutesToDone_36 : decode cX5_minutesToDone 36 = .ok (.iconst 2, 1) := by decide +kernel
theorem dX5_minutesToDone_37 : decode cX5_minutesToDone 37 = .ok (.if_icmp .ne 5, 3) := by decide +kernel
theorem dX5_minutesToDone_40 : decode cX5_minutesToDone 40 = .ok (.iconst 0, 1) := by decide +kernel
theorem dX5_minutesToDone_41 : decode cX5_minutesToDone 41 = .ok (.ireturn, 1) := by decide +kernel
theorem dX5_minutesToDone_42 : decode cX5_minutesToDone 42 = .ok (.aload_n 0, 1) := by decide +kernel
theorem dX5_minutesToDone_43 : decode cX5_minutesToDone 43 = .ok (.getfield 10, 3) := by decide +kernel
theorem dX5_minutesToDone_46 : decode cX5_minutesToDone 46 = .ok (.getfield 57, 3) := by decide +kernel
theorem dX5_minutesToDone_49 : decode cX5_minutesToDone 49 = .ok (.getfield 76, 3) := by decide +kernel
theorem dX5_minutesToDone_52 : decode cX5_minutesToDone 52 = .ok (.iload_n 1, 1) := by decide +kernel
theorem dX5_minutesToDone_53 : decode cX5_minutesToDone 53 = .ok (.iaload, 1) := by decide +kernel
theorem dX5_minutesToDone_54 : decode cX5_minutesToDone 54 = .ok (.iconst 3, 1) := by decide +kernel
theorem dX5_minutesToDone_55 : decode cX5_minutesToDone 55 = .ok (.if_icmp .ne 5, 3) := by decide +kernel
theorem dX5_minutesToDone_58 : decode cX5_minutesToDone 58 = .ok (.iconst (-1), 1) := by decide +kernel
theorem dX5_minutesToDone_59 : decode cX5_minutesToDone 59 = .ok (.ireturn, 1) := by decide +kernel
theorem dX5_minutesToDone_60 : decode cX5_minutesToDone 60 = .ok (.aload_n 0, 1) := by decide +kernel
theorem dX5_minutesToDone_61 : decode cX5_minutesToDone 61 = .ok (.getfield 16, 3) := by decide +kernel
theorem dX5_minutesToDone_64 : decode cX5_minutesToDone 64 = .ok (.aload_n 0, 1) := by decide +kernel
theorem dX5_minutesToDone_65 : decode cX5_minutesToDone 65 = .ok (.getfield 10, 3) := by decide +kernel
theorem dX5_minutesToDone_68 : decode cX5_minutesToDone 68 = .ok (.invokevirtual 254, 3) := by decide +kernel
theorem dX5_minutesToDone_71 : decode cX5_minutesToDone 71 = .ok (.iconst 1, 1) := by decide +kernel
theorem dX5_minutesToDone_72 : decode cX5_minutesToDone 72 = .ok (.istore_n 2, 1) := by decide +kernel
theorem dX5_minutesToDone_73 : decode cX5_minutesToDone 73 = .ok (.iload_n 2, 1) := by decide +kernel
theorem dX5_minutesToDone_74 : decode cX5_minutesToDone 74 = .ok (.sipush 300, 3) := by decide +kernel
theorem dX5_minutesToDone_77 : decode cX5_minutesToDone 77 = .ok (.if_icmp .gt 35, 3) := by decide +kernel
theorem dX5_minutesToDone_80 : decode cX5_minutesToDone 80 = .ok (.aload_n 0, 1) := by decide +kernel
theorem dX5_minutesToDone_81 : decode cX5_minutesToDone 81 = .ok (.getfield 16, 3) := by decide +kernel
theorem dX5_minutesToDone_84 : decode cX5_minutesToDone 84 = .ok (.invokevirtual 257, 3) := by decide +kernel
theorem dX5_minutesToDone_87 : decode cX5_minutesToDone 87 = .ok (.pop, 1) := by decide +kernel
theorem dX5_minutesToDone_88 : decode cX5_minutesToDone 88 = .ok (.aload_n 0, 1) := by decide +kernel
theorem dX5_minutesToDone_89 : decode cX5_minutesToDone 89 = .ok (.getfield 16, 3) := by decide +kernel
theorem dX5_minutesToDone_92 : decode cX5_minutesToDone 92 = .ok (.getfield 57, 3) := by decide +kernel
theorem dX5_minutesToDone_95 : decode cX5_minutesToDone 95 = .ok (.getfield 76, 3) := by decide +kernel
theorem dX5_minutesToDone_98 : decode cX5_minutesToDone 98 = .ok (.iload_n 1, 1) := by decide +kernel
theorem dX5_minutesToDone_99 : decode cX5_minutesToDone 99 = .ok (.iaload, 1) := by decide +kernel
theorem dX5_minutesToDone_100 : decode cX5_minutesToDone 100 = .ok (.iconst 2, 1) := by decide +kernel
theorem dX5_minutesToDone_101 : decode cX5_minutesToDone 101 = .ok (.if_icmp .ne 5, 3) := by decide +kernel
theorem dX5_minutesToDone_104 : decode cX5_minutesToDone 104 = .ok (.iload_n 2, 1) := by decide +kernel
theorem dX5_minutesToDone_105 : decode cX5_minutesToDone 105 = .ok (.ireturn, 1) := by decide +kernel
theorem dX5_minutesToDone_106 : decode cX5_minutesToDone 106 = .ok (.iinc 2 1, 3) := by decide +kernel
theorem dX5_minutesToDone_109 : decode cX5_minutesToDone 109 = .ok (.goto (-36), 3) := by decide +kernel
theorem dX5_minutesToDone_112 : decode cX5_minutesToDone 112 = .ok (.iconst (-1), 1) := by decide +kernel
theorem dX5_minutesToDone_113 : decode cX5_minutesToDone 113 = .ok (.ireturn, 1) := by decide +kernel
theorem dX5_count_0 : decode cX5_count 0 = .ok (.iload_n 1, 1) := by decide +kernel
theorem dX5_count_1 : decode cX5_count 1 = .ok (.tableswitch 159 0 10 #[59, 67, 75, 83, 91, 99, 107, 115, 123, 135, 147], 59) := by decide +kernel
theorem dX5_count_60 : decode cX5_count 60 = .ok (.aload_n 0, 1) := by decide +kernel
theorem dX5_count_61 : decode cX5_count 61 = .ok (.getfield 10, 3) := by decide +kernel
theorem dX5_count_64 : decode cX5_count 64 = .ok (.getfield 126, 3) := by decide +kernel
theorem dX5_count_67 : decode cX5_count 67 = .ok (.ireturn, 1) := by decide +kernel
theorem dX5_count_68 : decode cX5_count 68 = .ok (.aload_n 0, 1) := by decide +kernel
theorem dX5_count_69 : decode cX5_count 69 = .ok (.getfield 10, 3) := by decide +kernel
theorem dX5_count_72 : decode cX5_count 72 = .ok (.getfield 260, 3) := by decide +kernel
theorem dX5_count_75 : decode cX5_count 75 = .ok (.ireturn, 1) := by decide +kernel
theorem dX5_count_76 : decode cX5_count 76 = .ok (.aload_n 0, 1) := by decide +kernel
theorem dX5_count_77 : decode cX5_count 77 = .ok (.getfield 10, 3) := by decide +kernel
theorem dX5_count_80 : decode cX5_count 80 = .ok (.getfield 244, 3) := by decide +kernel
theorem dX5_count_83 : decode cX5_count 83 = .ok (.ireturn, 1) := by decide +kernel
theorem dX5_count_84 : decode cX5_count 84 = .ok (.aload_n 0, 1) := by decide +kernel
theorem dX5_count_85 : decode cX5_count 85 = .ok (.getfield 10, 3) := by decide +kernel
theorem dX5_count_88 : decode cX5_count 88 = .ok (.getfield 261, 3) := by decide +kernel
theorem dX5_count_91 : decode cX5_count 91 = .ok (.ireturn, 1) := by decide +kernel
theorem dX5_count_92 : decode cX5_count 92 = .ok (.aload_n 0, 1) := by decide +kernel
theorem dX5_count_93 : decode cX5_count 93 = .ok (.getfield 10, 3) := by decide +kernel
theorem dX5_count_96 : decode cX5_count 96 = .ok (.getfield 264, 3) := by decide +kernel
theorem dX5_count_99 : decode cX5_count 99 = .ok (.ireturn, 1) := by decide +kernel
theorem dX5_count_100 : decode cX5_count 100 = .ok (.aload_n 0, 1) := by decide +kernel
theorem dX5_count_101 : decode cX5_count 101 = .ok (.getfield 10, 3) := by decide +kernel
theorem dX5_count_104 : decode cX5_count 104 = .ok (.getfield 266, 3) := by decide +kernel
theorem dX5_count_107 : decode cX5_count 107 = .ok (.ireturn, 1) := by decide +kernel
theorem dX5_count_108 : decode cX5_count 108 = .ok (.aload_n 0, 1) := by decide +kernel
theorem dX5_count_109 : decode cX5_count 109 = .ok (.getfield 10, 3) := by decide +kernel
theorem dX5_count_112 : decode cX5_count 112 = .ok (.getfield 269, 3) := by decide +kernel
theorem dX5_count_115 : decode cX5_count 115 = .ok (.ireturn, 1) := by decide +kernel
theorem dX5_count_116 : decode cX5_count 116 = .ok (.aload_n 0, 1) := by decide +kernel
theorem dX5_count_117 : decode cX5_count 117 = .ok (.getfield 10, 3) := by decide +kernel
theorem dX5_count_120 : decode cX5_count 120 = .ok (.getfield 272, 3) := by decide +kernel
theorem dX5_count_123 : decode cX5_count 123 = .ok (.ireturn, 1) := by decide +kernel
theorem dX5_count_124 : decode cX5_count 124 = .ok (.aload_n 0, 1) := by decide +kernel
theorem dX5_count_125 : decode cX5_count 125 = .ok (.getfield 10, 3) := by decide +kernel
theorem dX5_count_128 : decode cX5_count 128 = .ok (.getfield 57, 3) := by decide +kernel
theorem dX5_count_131 : decode cX5_count 131 = .ok (.iconst 0, 1) := by decide +kernel
theorem dX5_count_132 : decode cX5_count 132 = .ok (.invokevirtual 275, 3) := by decide +kernel
theorem dX5_count_135 : decode cX5_count 135 = .ok (.ireturn, 1) := by decide +kernel
theorem dX5_count_136 : decode cX5_count 136 = .ok (.aload_n 0, 1) := by decide +kernel
theorem dX5_count_137 : decode cX5_count 137 = .ok (.getfield 10, 3) := by decide +kernel
theorem dX5_count_140 : decode cX5_count 140 = .ok (.getfield 57, 3) := by decide +kernel
theorem dX5_count_143 : decode cX5_count 143 = .ok (.iconst 1, 1) := by decide +kernel
theorem dX5_count_144 : decode cX5_count 144 = .ok (.invokevirtual 275, 3) := by decide +kernel
theorem dX5_count_147 : decode cX5_count 147 = .ok (.ireturn, 1) := by decide +kernel
theorem dX5_count_148 : decode cX5_count 148 = .ok (.aload_n 0, 1) := by decide +kernel
theorem dX5_count_149 : decode cX5_count 149 = .ok (.getfield 10, 3) := by decide +kernel
theorem dX5_count_152 : decode cX5_count 152 = .ok (.getfield 57, 3) := by decide +kernel
theorem dX5_count_155 : decode cX5_count 155 = .ok (.iconst 2, 1) := by decide +kernel
theorem dX5_count_156 : decode cX5_count 156 = .ok (.invokevirtual 275, 3) := by decide +kernel
theorem dX5_count_159 : decode cX5_count 159 = .ok (.ireturn, 1) := by decide +kernel
theorem dX5_count_160 : decode cX5_count 160 = .ok (.new 37, 3) := by decide +kernel
theorem dX5_count_163 : decode cX5_count 163 = .ok (.dup, 1) := by decide +kernel
theorem dX5_count_164 : decode cX5_count 164 = .ok (.ldc_w 278, 3) := by decide +kernel
theorem dX5_count_167 : decode cX5_count 167 = .ok (.invokespecial 41, 3) := by decide +kernel
theorem dX5_count_170 : decode cX5_count 170 = .ok (.athrow, 1) := by decide +kernel
theorem dX5_success_0 : decode cX5_success 0 = .ok (.aload_n 0, 1) := by decide +kernel
theorem dX5_success_1 : decode cX5_success 1 = .ok (.getfield 10, 3) := by decide +kernel
theorem dX5_success_4 : decode cX5_success 4 = .ok (.getfield 244, 3) := by decide +kernel
theorem dX5_success_7 : decode cX5_success 7 = .ok (.ifCond .ne 5, 3) := by decide +kernel
theorem dX5_success_10 : decode cX5_success 10 = .ok (.dconst 1, 1) := by decide +kernel
theorem dX5_success_11 : decode cX5_success 11 = .ok (.dreturn, 1) := by decide +kernel
theorem dX5_success_12 : decode cX5_success 12 = .ok (.aload_n 0, 1) := by decide +kernel
theorem dX5_success_13 : decode cX5_success 13 = .ok (.getfield 10, 3) := by decide +kernel
theorem dX5_success_16 : decode cX5_success 16 = .ok (.getfield 244, 3) := by decide +kernel
theorem dX5_success_19 : decode cX5_success 19 = .ok (.aload_n 0, 1) := by decide +kernel
theorem dX5_success_20 : decode cX5_success 20 = .ok (.getfield 10, 3) := by decide +kernel
theorem dX5_success_23 : decode cX5_success 23 = .ok (.getfield 264, 3) := by decide +kernel
theorem dX5_success_26 : decode cX5_success 26 = .ok (.isub, 1) := by decide +kernel
theorem dX5_success_27 : decode cX5_success 27 = .ok (.i2d, 1) := by decide +kernel
theorem dX5_success_28 : decode cX5_success 28 = .ok (.aload_n 0, 1) := by decide +kernel
theorem dX5_success_29 : decode cX5_success 29 = .ok (.getfield 10, 3) := by decide +kernel
theorem dX5_success_32 : decode cX5_success 32 = .ok (.getfield 244, 3) := by decide +kernel
theorem dX5_success_35 : decode cX5_success 35 = .ok (.i2d, 1) := by decide +kernel
theorem dX5_success_36 : decode cX5_success 36 = .ok (.ddiv, 1) := by decide +kernel
theorem dX5_success_37 : decode cX5_success 37 = .ok (.dreturn, 1) := by decide +kernel
theorem dX5_savedStates_0 : decode cX5_savedStates 0 = .ok (.aload_n 0, 1) := by decide +kernel
theorem dX5_savedStates_1 : decode cX5_savedStates 1 = .ok (.getfield 22, 3) := by decide +kernel
theorem dX5_savedStates_4 : decode cX5_savedStates 4 = .ok (.getfield 185, 3) := by decide +kernel
theorem dX5_savedStates_7 : decode cX5_savedStates 7 = .ok (.ireturn, 1) := by decide +kernel
theorem dX5_textLength_0 : decode cX5_textLength 0 = .ok (.aload_n 0, 1) := by decide +kernel
theorem dX5_textLength_1 : decode cX5_textLength 1 = .ok (.getfield 29, 3) := by decide +kernel
theorem dX5_textLength_4 : decode cX5_textLength 4 = .ok (.getfield 142, 3) := by decide +kernel
theorem dX5_textLength_7 : decode cX5_textLength 7 = .ok (.ireturn, 1) := by decide +kernel
theorem dX5_isWithin_0 : decode cX5_isWithin 0 = .ok (.iload_n 0, 1) := by decide +kernel
theorem dX5_isWithin_1 : decode cX5_isWithin 1 = .ok (.iload_n 1, 1) := by decide +kernel
theorem dX5_isWithin_2 : decode cX5_isWithin 2 = .ok (.if_icmp .lt 12, 3) := by decide +kernel
theorem dX5_isWithin_5 : decode cX5_isWithin 5 = .ok (.iload_n 0, 1) := by decide +kernel
theorem dX5_isWithin_6 : decode cX5_isWithin 6 = .ok (.iload_n 2, 1) := by decide +kernel
theorem dX5_isWithin_7 : decode cX5_isWithin 7 = .ok (.if_icmp .gt 7, 3) := by decide +kernel
theorem dX5_isWithin_10 : decode cX5_isWithin 10 = .ok (.iconst 1, 1) := by decide +kernel
theorem dX5_isWithin_11 : decode cX5_isWithin 11 = .ok (.goto 4, 3) := by decide +kernel
theorem dX5_isWithin_14 : decode cX5_isWithin 14 = .ok (.iconst 0, 1) := by decide +kernel
theorem dX5_isWithin_15 : decode cX5_isWithin 15 = .ok (.ireturn, 1) := by decide +kernel
theorem dX5_isReel_0 : decode cX5_isReel 0 = .ok (.iload_n 0, 1) := by decide +kernel
theorem dX5_isReel_1 : decode cX5_isReel 1 = .ok (.iconst 0, 1) := by decide +kernel
theorem dX5_isReel_2 : decode cX5_isReel 2 = .ok (.bipush 11, 2) := by decide +kernel
theorem dX5_isReel_4 : decode cX5_isReel 4 = .ok (.invokestatic 33, 3) := by decide +kernel
theorem dX5_isReel_7 : decode cX5_isReel 7 = .ok (.ireturn, 1) := by decide +kernel
theorem dX6_init_0 : decode cX6_init 0 = .ok (.aload_n 0, 1) := by decide +kernel
theorem dX6_init_1 : decode cX6_init 1 = .ok (.invokespecial 1, 3) := by decide +kernel
theorem dX6_init_4 : decode cX6_init 4 = .ok (.aload_n 0, 1) := by decide +kernel
theorem dX6_init_5 : decode cX6_init 5 = .ok (.sipush 179, 3) := by decide +kernel
theorem dX6_init_8 : decode cX6_init 8 = .ok (.newarray .int, 2) := by decide +kernel
theorem dX6_init_10 : decode cX6_init 10 = .ok (.putfield 7, 3) := by decide +kernel
theorem dX6_init_13 : decode cX6_init 13 = .ok (.aload_n 0, 1) := by decide +kernel
theorem dX6_init_14 : decode cX6_init 14 = .ok (.sipush 1074, 3) := by decide +kernel
theorem dX6_init_17 : decode cX6_init 17 = .ok (.newarray .int, 2) := by decide +kernel
theorem dX6_init_19 : decode cX6_init 19 = .ok (.putfield 13, 3) := by decide +kernel
theorem dX6_init_22 : decode cX6_init 22 = .ok (.aload_n 0, 1) := by decide +kernel
theorem dX6_init_23 : decode cX6_init 23 = .ok (.sipush 179, 3) := by decide +kernel
theorem dX6_init_26 : decode cX6_init 26 = .ok (.newarray .int, 2) := by decide +kernel
theorem dX6_init_28 : decode cX6_init 28 = .ok (.putfield 16, 3) := by decide +kernel
theorem dX6_init_31 : decode cX6_init 31 = .ok (.aload_n 0, 1) := by decide +kernel
theorem dX6_init_32 : decode cX6_init 32 = .ok (.bipush 80, 2) := by decide +kernel
theorem dX6_init_34 : decode cX6_init 34 = .ok (.newarray .int, 2) := by decide +kernel
theorem dX6_init_36 : decode cX6_init 36 = .ok (.putfield 19, 3) := by decide +kernel
theorem dX6_init_39 : decode cX6_init 39 = .ok (.aload_n 0, 1) := by decide +kernel
theorem dX6_init_40 : decode cX6_init 40 = .ok (.bipush 48, 2) := by decide +kernel
theorem dX6_init_42 : decode cX6_init 42 = .ok (.newarray .int, 2) := by decide +kernel
theorem dX6_init_44 : decode cX6_init 44 = .ok (.putfield 22, 3) := by decide +kernel
theorem dX6_init_47 : decode cX6_init 47 = .ok (.aload_n 0, 1) := by decide +kernel
theorem dX6_init_48 : decode cX6_init 48 = .ok (.bipush 48, 2) := by decide +kernel
theorem dX6_init_50 : decode cX6_init 50 = .ok (.newarray .int, 2) := by decide +kernel
theorem dX6_init_52 : decode cX6_init 52 = .ok (.putfield 25, 3) := by decide +kernel
theorem dX6_init_55 : decode cX6_init 55 = .ok (.aload_n 0, 1) := by decide +kernel
theorem dX6_init_56 : decode cX6_init 56 = .ok (.bipush 48, 2) := by decide +kernel
theorem dX6_init_58 : decode cX6_init 58 = .ok (.newarray .int, 2) := by decide +kernel
theorem dX6_init_60 : decode cX6_init 60 = .ok (.putfield 28, 3) := by decide +kernel
theorem dX6_init_63 : decode cX6_init 63 = .ok (.aload_n 0, 1) := by decide +kernel
theorem dX6_init_64 : decode cX6_init 64 = .ok (.bipush 48, 2) := by decide +kernel
theorem dX6_init_66 : decode cX6_init 66 = .ok (.newarray .int, 2) := by decide +kernel
theorem dX6_init_68 : decode cX6_init 68 = .ok (.putfield 31, 3) := by decide +kernel
theorem dX6_init_71 : decode cX6_init 71 = .ok (.aload_n 0, 1) := by decide +kernel
theorem dX6_init_72 : decode cX6_init 72 = .ok (.getfield 7, 3) := by decide +kernel
theorem dX6_init_75 : decode cX6_init 75 = .ok (.bipush 9, 2) := by decide +kernel
theorem dX6_init_77 : decode cX6_init 77 = .ok (.bipush 10, 2) := by decide +kernel
theorem dX6_init_79 : decode cX6_init 79 = .ok (.iastore, 1) := by decide +kernel
theorem dX6_init_80 : decode cX6_init 80 = .ok (.iconst 0, 1) := by decide +kernel
theorem dX6_init_81 : decode cX6_init 81 = .ok (.istore_n 1, 1) := by decide +kernel
theorem dX6_init_82 : decode cX6_init 82 = .ok (.iload_n 1, 1) := by decide +kernel
theorem dX6_init_83 : decode cX6_init 83 = .ok (.bipush 12, 2) := by decide +kernel
theorem dX6_init_85 : decode cX6_init 85 = .ok (.if_icmp .ge 54, 3) := by decide +kernel
theorem dX6_init_88 : decode cX6_init 88 = .ok (.aload_n 0, 1) := by decide +kernel
theorem dX6_init_89 : decode cX6_init 89 = .ok (.iload_n 1, 1) := by decide +kernel
theorem dX6_init_90 : decode cX6_init 90 = .ok (.iconst 0, 1) := by decide +kernel
theorem dX6_init_91 : decode cX6_init 91 = .ok (.iload_n 1, 1) := by decide +kernel
theorem dX6_init_92 : decode cX6_init 92 = .ok (.bipush 6, 2) := by decide +kernel
theorem dX6_init_94 : decode cX6_init 94 = .ok (.if_icmp .ge 9, 3) := by decide +kernel
theorem dX6_init_97 : decode cX6_init 97 = .ok (.iload_n 1, 1) := by decide +kernel
theorem dX6_init_98 : decode cX6_init 98 = .ok (.iconst 1, 1) := by decide +kernel
theorem dX6_init_99 : decode cX6_init 99 = .ok (.iadd, 1) := by decide +kernel
theorem dX6_init_100 : decode cX6_init 100 = .ok (.goto 4, 3) := by decide +kernel
theorem dX6_init_103 : decode cX6_init 103 = .ok (.iconst 0, 1) := by decide +kernel
theorem dX6_init_104 : decode cX6_init 104 = .ok (.invokevirtual 34, 3) := by decide +kernel
theorem dX6_init_107 : decode cX6_init 107 = .ok (.aload_n 0, 1) := by decide +kernel
theorem dX6_init_108 : decode cX6_init 108 = .ok (.iload_n 1, 1) := by decide +kernel
theorem dX6_init_109 : decode cX6_init 109 = .ok (.iconst 1, 1) := by decide +kernel
theorem dX6_init_110 : decode cX6_init 110 = .ok (.iload_n 1, 1) := by decide +kernel
theorem dX6_init_111 : decode cX6_init 111 = .ok (.bipush 6, 2) := by decide +kernel
theorem dX6_init_113 : decode cX6_init 113 = .ok (.if_icmp .ge 9, 3) := by decide +kernel
theorem dX6_init_116 : decode cX6_init 116 = .ok (.iload_n 1, 1) := by decide +kernel
theorem dX6_init_117 : decode cX6_init 117 = .ok (.iconst 1, 1) := by decide +kernel
theorem dX6_init_118 : decode cX6_init 118 = .ok (.iadd, 1) := by decide +kernel
theorem dX6_init_119 : decode cX6_init 119 = .ok (.goto 4, 3) := by decide +kernel
theorem dX6_init_122 : decode cX6_init 122 = .ok (.iconst 0, 1) := by decide +kernel
theorem dX6_init_123 : decode cX6_init 123 = .ok (.invokevirtual 34, 3) := by decide +kernel
theorem dX6_init_126 : decode cX6_init 126 = .ok (.aload_n 0, 1) := by decide +kernel
theorem dX6_init_127 : decode cX6_init 127 = .ok (.iload_n 1, 1) := by decide +kernel
theorem dX6_init_128 : decode cX6_init 128 = .ok (.iconst 5, 1) := by decide +kernel
theorem dX6_init_129 : decode cX6_init 129 = .ok (.iconst (-1), 1) := by decide +kernel
theorem dX6_init_130 : decode cX6_init 130 = .ok (.invokevirtual 34, 3) := by decide +kernel
theorem dX6_init_133 : decode cX6_init 133 = .ok (.iinc 1 1, 3) := by decide +kernel
theorem dX6_init_136 : decode cX6_init 136 = .ok (.goto (-54), 3) := by decide +kernel
theorem dX6_init_139 : decode cX6_init 139 = .ok (.return_, 1) := by decide +kernel
theorem dX6_thrown_0 : decode cX6_thrown 0 = .ok (.aload_n 0, 1) := by decide +kernel
theorem dX6_thrown_1 : decode cX6_thrown 1 = .ok (.getfield 38, 3) := by decide +kernel
theorem dX6_thrown_4 : decode cX6_thrown 4 = .ok (.ireturn, 1) := by decide +kernel
theorem dX6_fails_0 : decode cX6_fails 0 = .ok (.aload_n 0, 1) := by decide +kernel
theorem dX6_fails_1 : decode cX6_fails 1 = .ok (.iload_n 1, 1) := by decide +kernel
theorem dX6_fails_2 : decode cX6_fails 2 = .ok (.putfield 38, 3) := by decide +kernel
theorem dX6_fails_5 : decode cX6_fails 5 = .ok (.iconst 0, 1) := by decide +kernel
theorem dX6_fails_6 : decode cX6_fails 6 = .ok (.ireturn, 1) := by decide +kernel
theorem dX6_in_0 : decode cX6_in 0 = .ok (.iload_n 0, 1) := by decide +kernel
theorem dX6_in_1 : decode cX6_in 1 = .ok (.iload_n 1, 1) := by decide +kernel
theorem dX6_in_2 : decode cX6_in 2 = .ok (.if_icmp .lt 12, 3) := by decide +kernel
theorem dX6_in_5 : decode cX6_in 5 = .ok (.iload_n 0, 1) := by decide +kernel
theorem dX6_in_6 : decode cX6_in 6 = .ok (.iload_n 2, 1) := by decide +kernel
theorem dX6_in_7 : decode cX6_in 7 = .ok (.if_icmp .gt 7, 3) := by decide +kernel
theorem dX6_in_10 : decode cX6_in 10 = .ok (.iconst 1, 1) := by decide +kernel
theorem dX6_in_11 : decode cX6_in 11 = .ok (.goto 4, 3) := by decide +kernel
theorem dX6_in_14 : decode cX6_in 14 = .ok (.iconst 0, 1) := by decide +kernel
theorem dX6_in_15 : decode cX6_in 15 = .ok (.ireturn, 1) := by decide +kernel
theorem dX6_isReel_0 : decode cX6_isReel 0 = .ok (.iload_n 0, 1) := by decide +kernel
theorem dX6_isReel_1 : decode cX6_isReel 1 = .ok (.iconst 0, 1) := by decide +kernel
theorem dX6_isReel_2 : decode cX6_isReel 2 = .ok (.bipush 11, 2) := by decide +kernel
theorem dX6_isReel_4 : decode cX6_isReel 4 = .ok (.invokestatic 42, 3) := by decide +kernel
theorem dX6_isReel_7 : decode cX6_isReel 7 = .ok (.ireturn, 1) := by decide +kernel
theorem dX6_isJob_0 : decode cX6_isJob 0 = .ok (.iload_n 1, 1) := by decide +kernel
theorem dX6_isJob_1 : decode cX6_isJob 1 = .ok (.iconst 0, 1) := by decide +kernel
theorem dX6_isJob_2 : decode cX6_isJob 2 = .ok (.aload_n 0, 1) := by decide +kernel
theorem dX6_isJob_3 : decode cX6_isJob 3 = .ok (.getfield 7, 3) := by decide +kernel
theorem dX6_isJob_6 : decode cX6_isJob 6 = .ok (.bipush 82, 2) := by decide +kernel
theorem dX6_isJob_8 : decode cX6_isJob 8 = .ok (.iaload, 1) := by decide +kernel
theorem dX6_isJob_9 : decode cX6_isJob 9 = .ok (.iconst 1, 1) := by decide +kernel
theorem dX6_isJob_10 : decode cX6_isJob 10 = .ok (.isub, 1) := by decide +kernel
theorem dX6_isJob_11 : decode cX6_isJob 11 = .ok (.invokestatic 42, 3) := by decide +kernel
theorem dX6_isJob_14 : decode cX6_isJob 14 = .ok (.ireturn, 1) := by decide +kernel
theorem dX6_of_0 : decode cX6_of 0 = .ok (.aload_n 0, 1) := by decide +kernel
theorem dX6_of_1 : decode cX6_of 1 = .ok (.getfield 7, 3) := by decide +kernel
theorem dX6_of_4 : decode cX6_of 4 = .ok (.bipush 10, 2) := by decide +kernel
theorem dX6_of_6 : decode cX6_of 6 = .ok (.bipush 6, 2) := by decide +kernel
theorem dX6_of_8 : decode cX6_of 8 = .ok (.iload_n 1, 1) := by decide +kernel
theorem dX6_of_9 : decode cX6_of 9 = .ok (.imul, 1) := by decide +kernel
theorem dX6_of_10 : decode cX6_of 10 = .ok (.iadd, 1) := by decide +kernel
theorem dX6_of_11 : decode cX6_of 11 = .ok (.iload_n 2, 1) := by decide +kernel
theorem dX6_of_12 : decode cX6_of 12 = .ok (.iadd, 1) := by decide +kernel
theorem dX6_of_13 : decode cX6_of 13 = .ok (.iaload, 1) := by decide +kernel
theorem dX6_of_14 : decode cX6_of 14 = .ok (.ireturn, 1) := by decide +kernel
theorem dX6_put_0 : decode cX6_put 0 = .ok (.aload_n 0, 1) := by decide +kernel
theorem dX6_put_1 : decode cX6_put 1 = .ok (.getfield 7, 3) := by decide +kernel
theorem dX6_put_4 : decode cX6_put 4 = .ok (.bipush 10, 2) := by decide +kernel
theorem dX6_put_6 : decode cX6_put 6 = .ok (.bipush 6, 2) := by decide +kernel
theorem dX6_put_8 : decode cX6_put 8 = .ok (.iload_n 1, 1) := by decide +kernel
theorem dX6_put_9 : decode cX6_put 9 = .ok (.imul, 1) := by decide +kernel
theorem dX6_put_10 : decode cX6_put 10 = .ok (.iadd, 1) := by decide +kernel
theorem dX6_put_11 : decode cX6_put 11 = .ok (.iload_n 2, 1) := by decide +kernel
theorem dX6_put_12 : decode cX6_put 12 = .ok (.iadd, 1) := by decide +kernel
theorem dX6_put_13 : decode cX6_put 13 = .ok (.iload_n 3, 1) := by decide +kernel
theorem dX6_put_14 : decode cX6_put 14 = .ok (.iastore, 1) := by decide +kernel
theorem dX6_put_15 : decode cX6_put 15 = .ok (.return_, 1) := by decide +kernel
theorem dX6_ofJob_0 : decode cX6_ofJob 0 = .ok (.aload_n 0, 1) := by decide +kernel
theorem dX6_ofJob_1 : decode cX6_ofJob 1 = .ok (.getfield 7, 3) := by decide +kernel
theorem dX6_ofJob_4 : decode cX6_ofJob 4 = .ok (.bipush 83, 2) := by decide +kernel
theorem dX6_ofJob_6 : decode cX6_ofJob 6 = .ok (.bipush 8, 2) := by decide +kernel
theorem dX6_ofJob_8 : decode cX6_ofJob 8 = .ok (.iload_n 1, 1) := by decide +kernel
theorem dX6_ofJob_9 : decode cX6_ofJob 9 = .ok (.imul, 1) := by decide +kernel
theorem dX6_ofJob_10 : decode cX6_ofJob 10 = .ok (.iadd, 1) := by decide +kernel
theorem dX6_ofJob_11 : decode cX6_ofJob 11 = .ok (.iload_n 2, 1) := by decide +kernel
theorem dX6_ofJob_12 : decode cX6_ofJob 12 = .ok (.iadd, 1) := by decide +kernel
theorem dX6_ofJob_13 : decode cX6_ofJob 13 = .ok (.iaload, 1) := by decide +kernel
theorem dX6_ofJob_14 : decode cX6_ofJob 14 = .ok (.ireturn, 1) := by decide +kernel
theorem dX6_putJob_0 : decode cX6_putJob 0 = .ok (.aload_n 0, 1) := by decide +kernel
theorem dX6_putJob_1 : decode cX6_putJob 1 = .ok (.getfield 7, 3) := by decide +kernel
theorem dX6_putJob_4 : decode cX6_putJob 4 = .ok (.bipush 83, 2) := by decide +kernel
theorem dX6_putJob_6 : decode cX6_putJob 6 = .ok (.bipush 8, 2) := by decide +kernel
theorem dX6_putJob_8 : decode cX6_putJob 8 = .ok (.iload_n 1, 1) := by decide +kernel
theorem dX6_putJob_9 : decode cX6_putJob 9 = .ok (.imul, 1) := by decide +kernel
theorem dX6_putJob_10 : decode cX6_putJob 10 = .ok (.iadd, 1) := by decide +kernel
theorem dX6_putJob_11 : decode cX6_putJob 11 = .ok (.iload_n 2, 1) := by decide +kernel
theorem dX6_putJob_12 : decode cX6_putJob 12 = .ok (.iadd, 1) := by decide +kernel
theorem dX6_putJob_13 : decode cX6_putJob 13 = .ok (.iload_n 3, 1) := by decide +kernel
theorem dX6_putJob_14 : decode cX6_putJob 14 = .ok (.iastore, 1) := by decide +kernel
theorem dX6_putJob_15 : decode cX6_putJob 15 = .ok (.return_, 1) := by decide +kernel
theorem dX6_isOnShelf_0 : decode cX6_isOnShelf 0 = .ok (.aload_n 0, 1) := by decide +kernel
theorem dX6_isOnShelf_1 : decode cX6_isOnShelf 1 = .ok (.iload_n 1, 1) := by decide +kernel
theorem dX6_isOnShelf_2 : decode cX6_isOnShelf 2 = .ok (.iconst 5, 1) := by decide +kernel
theorem dX6_isOnShelf_3 : decode cX6_isOnShelf 3 = .ok (.invokevirtual 46, 3) := by decide +kernel
theorem dX6_isOnShelf_6 : decode cX6_isOnShelf 6 = .ok (.iconst (-1), 1) := by decide +kernel
theorem dX6_isOnShelf_7 : decode cX6_isOnShelf 7 = .ok (.if_icmp .ne 7, 3) := by decide +kernel
theorem dX6_isOnShelf_10 : decode cX6_isOnShelf 10 = .ok (.iconst 1, 1) := by decide +kernel
theorem dX6_isOnShelf_11 : decode cX6_isOnShelf 11 = .ok (.goto 4, 3) := by decide +kernel
theorem dX6_isOnShelf_14 : decode cX6_isOnShelf 14 = .ok (.iconst 0, 1) := by decide +kernel
theorem dX6_isOnShelf_15 : decode cX6_isOnShelf 15 = .ok (.ireturn, 1) := by decide +kernel
theorem dX6_isScratch_0 : decode cX6_isScratch 0 = .ok (.aload_n 0, 1) := by decide +kernel
theorem dX6_isScratch_1 : decode cX6_isScratch 1 = .ok (.iload_n 1, 1) := by decide +kernel
theorem dX6_isScratch_2 : decode cX6_isScratch 2 = .ok (.iconst 0, 1) := by decide +kernel
theorem dX6_isScratch_3 : decode cX6_isScratch 3 = .ok (.invokevirtual 46, 3) := by decide +kernel
theorem dX6_isScratch_6 : decode cX6_isScratch 6 = .ok (.ifCond .eq 18, 3) := by decide +kernel
theorem dX6_isScratch_9 : decode cX6_isScratch 9 = .ok (.aload_n 0, 1) := by decide +kernel
theorem dX6_isScratch_10 : decode cX6_isScratch 10 = .ok (.iload_n 1, 1) := by decide +kernel
theorem dX6_isScratch_11 : decode cX6_isScratch 11 = .ok (.iconst 3, 1) := by decide +kernel
theorem dX6_isScratch_12 : decode cX6_isScratch 12 = .ok (.invokevirtual 46, 3) := by decide +kernel
theorem dX6_isScratch_15 : decode cX6_isScratch 15 = .ok (.aload_n 0, 1) := by decide +kernel
theorem dX6_isScratch_16 : decode cX6_isScratch 16 = .ok (.getfield 7, 3) := by decide +kernel
theorem dX6_isScratch_19 : decode cX6_isScratch 19 = .ok (.iconst 0, 1) := by decide +kernel
theorem dX6_isScratch_20 : decode cX6_isScratch 20 = .ok (.iaload, 1) := by decide +kernel
theorem dX6_isScratch_21 : decode cX6_isScratch 21 = .ok (.if_icmp .ge 7, 3) := by decide +kernel
theorem dX6_isScratch_24 : decode cX6_isScratch 24 = .ok (.iconst 1, 1) := by decide +kernel
theorem dX6_isScratch_25 : decode cX6_isScratch 25 = .ok (.goto 4, 3) := by decide +kernel
theorem dX6_isScratch_28 : decode cX6_isScratch 28 = .ok (.iconst 0, 1) := by decide +kernel
theorem dX6_isScratch_29 : decode cX6_isScratch 29 = .ok (.ireturn, 1) := by decide +kernel
theorem dX6_save_0 : decode cX6_save 0 = .ok (.aload_n 0, 1) := by decide +kernel
theorem dX6_save_1 : decode cX6_save 1 = .ok (.getfield 50, 3) := by decide +kernel
theorem dX6_save_4 : decode cX6_save 4 = .ok (.bipush 6, 2) := by decide +kernel
theorem dX6_save_6 : decode cX6_save 6 = .ok (.if_icmp .ne 44, 3) := by decide +kernel
theorem dX6_save_9 : decode cX6_save 9 = .ok (.iconst 0, 1) := by decide +kernel
theorem dX6_save_10 : decode cX6_save 10 = .ok (.istore_n 1, 1) := by decide +kernel
theorem dX6_save_11 : decode cX6_save 11 = .ok (.iload_n 1, 1) := by decide +kernel
theorem dX6_save_12 : decode cX6_save 12 = .ok (.sipush 895, 3) := by decide +kernel
theorem dX6_save_15 : decode cX6_save 15 = .ok (.if_icmp .ge 25, 3) := by decide +kernel
theorem dX6_save_18 : decode cX6_save 18 = .ok (.aload_n 0, 1) := by decide +kernel
theorem dX6_save_19 : decode cX6_save 19 = .ok (.getfield 13, 3) := by decide +kernel
theorem dX6_save_22 : decode cX6_save 22 = .ok (.iload_n 1, 1) := by decide +kernel
theorem dX6_save_23 : decode cX6_save 23 = .ok (.aload_n 0, 1) := by decide +kernel
theorem dX6_save_24 : decode cX6_save 24 = .ok (.getfield 13, 3) := by decide +kernel
theorem dX6_save_27 : decode cX6_save 27 = .ok (.iload_n 1, 1) := by decide +kernel
theorem dX6_save_28 : decode cX6_save 28 = .ok (.sipush 179, 3) := by decide +kernel
theorem dX6_save_31 : decode cX6_save 31 = .ok (.iadd, 1) := by decide +kernel
theorem dX6_save_32 : decode cX6_save 32 = .ok (.iaload, 1) := by decide +kernel
theorem dX6_save_33 : decode cX6_save 33 = .ok (.iastore, 1) := by decide +kernel
theorem dX6_save_34 : decode cX6_save 34 = .ok (.iinc 1 1, 3) := by decide +kernel
theorem dX6_save_37 : decode cX6_save 37 = .ok (.goto (-26), 3) := by decide +kernel
theorem dX6_save_40 : decode cX6_save 40 = .ok (.aload_n 0, 1) := by decide +kernel
theorem dX6_save_41 : decode cX6_save 41 = .ok (.dup, 1) := by decide +kernel
theorem dX6_save_42 : decode cX6_save 42 = .ok (.getfield 50, 3) := by decide +kernel
theorem dX6_save_45 : decode cX6_save 45 = .ok (.iconst 1, 1) := by decide +kernel
theorem dX6_save_46 : decode cX6_save 46 = .ok (.isub, 1) := by decide +kernel
theorem dX6_save_47 : decode cX6_save 47 = .ok (.putfield 50, 3) := by decide +kernel
theorem dX6_save_50 : decode cX6_save 50 = .ok (.iconst 0, 1) := by decide +kernel
theorem dX6_save_51 : decode cX6_save 51 = .ok (.istore_n 1, 1) := by decide +kernel
theorem dX6_save_52 : decode cX6_save 52 = .ok (.iload_n 1, 1) := by decide +kernel
theorem dX6_save_53 : decode cX6_save 53 = .ok (.sipush 179, 3) := by decide +kernel
theorem dX6_save_56 : decode cX6_save 56 = .ok (.if_icmp .ge 30, 3) := by decide +kernel
theorem dX6_save_59 : decode cX6_save 59 = .ok (.aload_n 0, 1) := by decide +kernel
theorem dX6_save_60 : decode cX6_save 60 = .ok (.getfield 13, 3) := by decide +kernel
theorem dX6_save_63 : decode cX6_save 63 = .ok (.sipush 179, 3) := by decide +kernel
theorem dX6_save_66 : decode cX6_save 66 = .ok (.aload_n 0, 1) := by decide +kernel
theorem dX6_save_67 : decode cX6_save 67 = .ok (.getfield 50, 3) := by decide +kernel
theorem dX6_save_70 : decode cX6_save 70 = .ok (.imul, 1) := by decide +kernel
theorem dX6_save_71 : decode cX6_save 71 = .ok (.iload_n 1, 1) := by decide +kernel
theorem dX6_save_72 : decode cX6_save 72 = .ok (.iadd, 1) := by decide +kernel
theorem dX6_save_73 : decode cX6_save 73 = .ok (.aload_n 0, 1) := by decide +kernel
theorem dX6_save_74 : decode cX6_save 74 = .ok (.getfield 7, 3) := by decide +kernel
theorem dX6_save_77 : decode cX6_save 77 = .ok (.iload_n 1, 1) := by decide +kernel
theorem dX6_save_78 : decode cX6_save 78 = .ok (.iaload, 1) := by decide +kernel
theorem dX6_save_79 : decode cX6_save 79 = .ok (.iastore, 1) := by decide +kernel
theorem dX6_save_80 : decode cX6_save 80 = .ok (.iinc 1 1, 3) := by decide +kernel
theorem dX6_save_83 : decode cX6_save 83 = .ok (.goto (-31), 3) := by decide +kernel
theorem dX6_save_86 : decode cX6_save 86 = .ok (.aload_n 0, 1) := by decide +kernel
theorem dX6_save_87 : decode cX6_save 87 = .ok (.dup, 1) := by decide +kernel
theorem dX6_save_88 : decode cX6_save 88 = .ok (.getfield 50, 3) := by decide +kernel
theorem dX6_save_91 : decode cX6_save 91 = .ok (.iconst 1, 1) := by decide +kernel
theorem dX6_save_92 : decode cX6_save 92 = .ok (.iadd, 1) := by decide +kernel
theorem dX6_save_93 : decode cX6_save 93 = .ok (.putfield 50, 3) := by decide +kernel
theorem dX6_save_96 : decode cX6_save 96 = .ok (.return_, 1) := by decide +kernel
theorem dX6_undo_0 : decode cX6_undo 0 = .ok (.aload_n 0, 1) := by decide +kernel
theorem dX6_undo_1 : decode cX6_undo 1 = .ok (.iconst 0, 1) := by decide +kernel
theorem dX6_undo_2 : decode cX6_undo 2 = .ok (.putfield 38, 3) := by decide +kernel
theorem dX6_undo_5 : decode cX6_undo 5 = .ok (.aload_n 0, 1) := by decide +kernel
theorem dX6_undo_6 : decode cX6_undo 6 = .ok (.getfield 50, 3) := by decide +kernel
theorem dX6_undo_9 : decode cX6_undo 9 = .ok (.ifCond .ne 9, 3) := by decide +kernel
theorem dX6_undo_12 : decode cX6_undo 12 = .ok (.aload_n 0, 1) := by decide +kernel
theorem dX6_undo_13 : decode cX6_undo 13 = .ok (.iconst 1, 1) := by decide +kernel
theorem dX6_undo_14 : decode cX6_undo 14 = .ok (.invokevirtual 53, 3) := by decide +kernel
theorem dX6_undo_17 : decode cX6_undo 17 = .ok (.ireturn, 1) := by decide +kernel
theorem dX6_undo_18 : decode cX6_undo 18 = .ok (.aload_n 0, 1) := by decide +kernel
theorem dX6_undo_19 : decode cX6_undo 19 = .ok (.dup, 1) := by decide +kernel
theorem dX6_undo_20 : decode cX6_undo 20 = .ok (.getfield 50, 3) := by decide +kernel
theorem dX6_undo_23 : decode cX6_undo 23 = .ok (.iconst 1, 1) := by decide +kernel
theorem dX6_undo_24 : decode cX6_undo 24 = .ok (.isub, 1) := by decide +kernel
theorem dX6_undo_25 : decode cX6_undo 25 = .ok (.putfield 50, 3) := by decide +kernel
theorem dX6_undo_28 : decode cX6_undo 28 = .ok (.iconst 0, 1) := by decide +kernel
theorem dX6_undo_29 : decode cX6_undo 29 = .ok (.istore_n 1, 1) := by decide +kernel
theorem dX6_undo_30 : decode cX6_undo 30 = .ok (.iload_n 1, 1) := by decide +kernel
theorem dX6_undo_31 : decode cX6_undo 31 = .ok (.sipush 179, 3) := by decide +kernel
theorem dX6_undo_34 : decode cX6_undo 34 = .ok (.if_icmp .ge 30, 3) := by decide +kernel
theorem dX6_undo_37 : decode cX6_undo 37 = .ok (.aload_n 0, 1) := by decide +kernel
theorem dX6_undo_38 : decode cX6_undo 38 = .ok (.getfield 7, 3) := by decide +kernel
theorem dX6_undo_41 : decode cX6_undo 41 = .ok (.iload_n 1, 1) := by decide +kernel
theorem dX6_undo_42 : decode cX6_undo 42 = .ok (.aload_n 0, 1) := by decide +kernel
theorem dX6_undo_43 : decode cX6_undo 43 = .ok (.getfield 13, 3) := by decide +kernel
theorem dX6_undo_46 : decode cX6_undo 46 = .ok (.sipush 179, 3) := by decide +kernel
theorem dX6_undo_49 : decode cX6_undo 49 = .ok (.aload_n 0, 1) := by decide +kernel
theorem dX6_undo_50 : decode cX6_undo 50 = .ok (.getfield 50, 3) := by decide +kernel
theorem dX6_undo_53 : decode cX6_undo 53 = .ok (.imul, 1) := by decide +kernel
theorem dX6_undo_54 : decode cX6_undo 54 = .ok (.iload_n 1, 1) := by decide +kernel
theorem dX6_undo_55 : decode cX6_undo 55 = .ok (.iadd, 1) := by decide +kernel
theorem dX6_undo_56 : decode cX6_undo 56 = .ok (.iaload, 1) := by decide +kernel
theorem dX6_undo_57 : decode cX6_undo 57 = .ok (.iastore, 1) := by decide +kernel
theorem dX6_undo_58 : decode cX6_undo 58 = .ok (.iinc 1 1, 3) := by decide +kernel
theorem dX6_undo_61 : decode cX6_undo 61 = .ok (.goto (-31), 3) := by decide +kernel
theorem dX6_undo_64 : decode cX6_undo 64 = .ok (.aload_n 0, 1) := by decide +kernel
theorem dX6_undo_65 : decode cX6_undo 65 = .ok (.getfield 50, 3) := by decide +kernel
theorem dX6_undo_68 : decode cX6_undo 68 = .ok (.ireturn, 1) := by decide +kernel
theorem dX6_found_0 : decode cX6_found 0 = .ok (.aload_n 0, 1) := by decide +kernel
theorem dX6_found_1 : decode cX6_found 1 = .ok (.iload_n 1, 1) := by decide +kernel
theorem dX6_found_2 : decode cX6_found 2 = .ok (.iconst 0, 1) := by decide +kernel
theorem dX6_found_3 : decode cX6_found 3 = .ok (.invokevirtual 57, 3) := by decide +kernel
theorem dX6_found_6 : decode cX6_found 6 = .ok (.iconst 2, 1) := by decide +kernel
theorem dX6_found_7 : decode cX6_found 7 = .ok (.if_icmp .ne 7, 3) := by decide +kernel
theorem dX6_found_10 : decode cX6_found 10 = .ok (.iconst 0, 1) := by decide +kernel
theorem dX6_found_11 : decode cX6_found 11 = .ok (.goto 9, 3) := by decide +kernel
theorem dX6_found_14 : decode cX6_found 14 = .ok (.aload_n 0, 1) := by decide +kernel
theorem dX6_found_15 : decode cX6_found 15 = .ok (.iload_n 1, 1) := by decide +kernel
theorem dX6_found_16 : decode cX6_found 16 = .ok (.iconst 1, 1) := by decide +kernel
theorem dX6_found_17 : decode cX6_found 17 = .ok (.invokevirtual 57, 3) := by decide +kernel
theorem dX6_found_20 : decode cX6_found 20 = .ok (.istore_n 2, 1) := by decide +kernel
theorem dX6_found_21 : decode cX6_found 21 = .ok (.iconst (-1), 1) := by decide +kernel
theorem dX6_found_22 : decode cX6_found 22 = .ok (.istore_n 3, 1) := by decide +kernel
theorem dX6_found_23 : decode cX6_found 23 = .ok (.bipush 11, 2) := by decide +kernel
theorem dX6_found_25 : decode cX6_found 25 = .ok (.istore 4, 2) := by decide +kernel
theorem dX6_found_27 : decode cX6_found 27 = .ok (.iload 4, 2) := by decide +kernel
theorem dX6_found_29 : decode cX6_found 29 = .ok (.ifCond .lt 36, 3) := by decide +kernel
theorem dX6_found_32 : decode cX6_found 32 = .ok (.aload_n 0, 1) := by decide +kernel
theorem dX6_found_33 : decode cX6_found 33 = .ok (.iload 4, 2) := by decide +kernel
theorem dX6_found_35 : decode cX6_found 35 = .ok (.invokevirtual 60, 3) := by decide +kernel
theorem dX6_found_38 : decode cX6_found 38 = .ok (.ifCond .eq 19, 3) := by decide +kernel
theorem dX6_found_41 : decode cX6_found 41 = .ok (.aload_n 0, 1) := by decide +kernel
theorem dX6_found_42 : decode cX6_found 42 = .ok (.iload 4, 2) := by decide +kernel
theorem dX6_found_44 : decode cX6_found 44 = .ok (.iconst 1, 1) := by decide +kernel
theorem dX6_found_45 : decode cX6_found 45 = .ok (.invokevirtual 46, 3) := by decide +kernel
theorem dX6_found_48 : decode cX6_found 48 = .ok (.iload_n 2, 1) := by decide +kernel
theorem dX6_found_49 : decode cX6_found 49 = .ok (.if_icmp .ne 8, 3) := by decide +kernel
theorem dX6_found_52 : decode cX6_found 52 = .ok (.iload 4, 2) := by decide +kernel
theorem dX6_found_54 : decode cX6_found 54 = .ok (.goto 4, 3) := by decide +kernel
theorem dX6_found_57 : decode cX6_found 57 = .ok (.iload_n 3, 1) := by decide +kernel
theorem dX6_found_58 : decode cX6_found 58 = .ok (.istore_n 3, 1) := by decide +kernel
theorem dX6_found_59 : decode cX6_found 59 = .ok (.iinc 4 (-1), 3) := by decide +kernel
theorem dX6_found_62 : decode cX6_found 62 = .ok (.goto (-35), 3) := by decide +kernel
theorem dX6_found_65 : decode cX6_found 65 = .ok (.iload_n 3, 1) := by decide +kernel
theorem dX6_found_66 : decode cX6_found 66 = .ok (.ireturn, 1) := by decide +kernel
theorem dX6_next_0 : decode cX6_next 0 = .ok (.iconst (-1), 1) := by decide +kernel
theorem dX6_next_1 : decode cX6_next 1 = .ok (.istore_n 1, 1) := by decide +kernel
theorem dX6_next_2 : decode cX6_next 2 = .ok (.aload_n 0, 1) := by decide +kernel
theorem dX6_next_3 : decode cX6_next 3 = .ok (.getfield 7, 3) := by decide +kernel
theorem dX6_next_6 : decode cX6_next 6 = .ok (.bipush 82, 2) := by decide +kernel
theorem dX6_next_8 : decode cX6_next 8 = .ok (.iaload, 1) := by decide +kernel
theorem dX6_next_9 : decode cX6_next 9 = .ok (.iconst 1, 1) := by decide +kernel
theorem dX6_next_10 : decode cX6_next 10 = .ok (.isub, 1) := by decide +kernel
theorem dX6_next_11 : decode cX6_next 11 = .ok (.istore_n 2, 1) := by decide +kernel
theorem dX6_next_12 : decode cX6_next 12 = .ok (.iload_n 2, 1) := by decide +kernel
theorem dX6_next_13 : decode cX6_next 13 = .ok (.ifCond .lt 63, 3) := by decide +kernel
theorem dX6_next_16 : decode cX6_next 16 = .ok (.aload_n 0, 1) := by decide +kernel
theorem dX6_next_17 : decode cX6_next 17 = .ok (.iload_n 2, 1) := by decide +kernel
theorem dX6_next_18 : decode cX6_next 18 = .ok (.iconst 4, 1) := by decide +kernel
theorem dX6_next_19 : decode cX6_next 19 = .ok (.invokevirtual 57, 3) := by decide +kernel
theorem dX6_next_22 : decode cX6_next 22 = .ok (.ifCond .ne 16, 3) := by decide +kernel
theorem dX6_next_25 : decode cX6_next 25 = .ok (.aload_n 0, 1) := by decide +kernel
theorem dX6_next_26 : decode cX6_next 26 = .ok (.iload_n 2, 1) := by decide +kernel
theorem dX6_next_27 : decode cX6_next 27 = .ok (.invokevirtual 64, 3) := by decide +kernel
theorem dX6_next_30 : decode cX6_next 30 = .ok (.iconst (-1), 1) := by decide +kernel
theorem dX6_next_31 : decode cX6_next 31 = .ok (.if_icmp .eq 7, 3) := by decide +kernel
theorem dX6_next_34 : decode cX6_next 34 = .ok (.iconst 1, 1) := by decide +kernel
theorem dX6_next_35 : decode cX6_next 35 = .ok (.goto 4, 3) := by decide +kernel
theorem dX6_next_38 : decode cX6_next 38 = .ok (.iconst 0, 1) := by decide +kernel
theorem dX6_next_39 : decode cX6_next 39 = .ok (.istore_n 3, 1) := by decide +kernel
theorem dX6_next_40 : decode cX6_next 40 = .ok (.iload_n 3, 1) := by decide +kernel
theorem dX6_next_41 : decode cX6_next 41 = .ok (.ifCond .eq 27, 3) := by decide +kernel
theorem dX6_next_44 : decode cX6_next 44 = .ok (.iload_n 1, 1) := by decide +kernel
theorem dX6_next_45 : decode cX6_next 45 = .ok (.iconst (-1), 1) := by decide +kernel
theorem dX6_next_46 : decode cX6_next 46 = .ok (.if_icmp .eq 18, 3) := by decide +kernel
theorem dX6_next_49 : decode cX6_next 49 = .ok (.aload_n 0, 1) := by decide +kernel
theorem dX6_next_50 : decode cX6_next 50 = .ok (.iload_n 2, 1) := by decide +kernel
theorem dX6_next_51 : decode cX6_next 51 = .ok (.iconst 3, 1) := by decide +kernel
theorem dX6_next_52 : decode cX6_next 52 = .ok (.invokevirtual 57, 3) := by decide +kernel
theorem dX6_next_55 : decode cX6_next 55 = .ok (.aload_n 0, 1) := by decide +kernel
theorem dX6_next_56 : decode cX6_next 56 = .ok (.iload_n 1, 1) := by decide +kernel
theorem dX6_next_57 : decode cX6_next 57 = .ok (.iconst 3, 1) := by decide +kernel
theorem dX6_next_58 : decode cX6_next 58 = .ok (.invokevirtual 57, 3) := by decide +kernel
theorem dX6_next_61 : decode cX6_next 61 = .ok (.if_icmp .lt 7, 3) := by decide +kernel
theorem dX6_next_64 : decode cX6_next 64 = .ok (.iload_n 2, 1) := by decide +kernel
theorem dX6_next_65 : decode cX6_next 65 = .ok (.goto 4, 3) := by decide +kernel
theorem dX6_next_68 : decode cX6_next 68 = .ok (.iload_n 1, 1) := by decide +kernel
theorem dX6_next_69 : decode cX6_next 69 = .ok (.istore_n 1, 1) := by decide +kernel
theorem dX6_next_70 : decode cX6_next 70 = .ok (.iinc 2 (-1), 3) := by decide +kernel
theorem dX6_next_73 : decode cX6_next 73 = .ok (.goto (-61), 3) := by decide +kernel
theorem dX6_next_76 : decode cX6_next 76 = .ok (.iload_n 1, 1) := by decide +kernel
theorem dX6_next_77 : decode cX6_next 77 = .ok (.ireturn, 1) := by decide +kernel
theorem dX6_isSlip_0 : decode cX6_isSlip 0 = .ok (.aload_n 0, 1) := by decide +kernel
theorem dX6_isSlip_1 : decode cX6_isSlip 1 = .ok (.getfield 7, 3) := by decide +kernel
theorem dX6_isSlip_4 : decode cX6_isSlip 4 = .ok (.bipush 8, 2) := by decide +kernel
theorem dX6_isSlip_6 : decode cX6_isSlip 6 = .ok (.iaload, 1) := by decide +kernel
theorem dX6_isSlip_7 : decode cX6_isSlip 7 = .ok (.ifCond .eq 19, 3) := by decide +kernel
theorem dX6_isSlip_10 : decode cX6_isSlip 10 = .ok (.iload_n 1, 1) := by decide +kernel
theorem dX6_isSlip_11 : decode cX6_isSlip 11 = .ok (.aload_n 0, 1) := by decide +kernel
theorem dX6_isSlip_12 : decode cX6_isSlip 12 = .ok (.getfield 7, 3) := by decide +kernel
theorem dX6_isSlip_15 : decode cX6_isSlip 15 = .ok (.bipush 8, 2) := by decide +kernel
theorem dX6_isSlip_17 : decode cX6_isSlip 17 = .ok (.iaload, 1) := by decide +kernel
theorem dX6_isSlip_18 : decode cX6_isSlip 18 = .ok (.irem, 1) := by decide +kernel
theorem dX6_isSlip_19 : decode cX6_isSlip 19 = .ok (.ifCond .ne 7, 3) := by decide +kernel
theorem dX6_isSlip_22 : decode cX6_isSlip 22 = .ok (.iconst 1, 1) := by decide +kernel
theorem dX6_isSlip_23 : decode cX6_isSlip 23 = .ok (.goto 4, 3) := by decide +kernel
theorem dX6_isSlip_26 : decode cX6_isSlip 26 = .ok (.iconst 0, 1) := by decide +kernel
theorem dX6_isSlip_27 : decode cX6_isSlip 27 = .ok (.ireturn, 1) := by decide +kernel
theorem dX6_after_0 : decode cX6_after 0 = .ok (.iconst (-1), 1) := by decide +kernel
theorem dX6_after_1 : decode cX6_after 1 = .ok (.istore_n 2, 1) := by decide +kernel
theorem dX6_after_2 : decode cX6_after 2 = .ok (.iconst (-1), 1) := by decide +kernel
theorem dX6_after_3 : decode cX6_after 3 = .ok (.istore_n 3, 1) := by decide +kernel
theorem dX6_after_4 : decode cX6_after 4 = .ok (.bipush 11, 2) := by decide +kernel
theorem dX6_after_6 : decode cX6_after 6 = .ok (.istore 4, 2) := by decide +kernel
theorem dX6_after_8 : decode cX6_after 8 = .ok (.iload 4, 2) := by decide +kernel
theorem dX6_after_10 : decode cX6_after 10 = .ok (.ifCond .lt 47, 3) := by decide +kernel
theorem dX6_after_13 : decode cX6_after 13 = .ok (.aload_n 0, 1) := by decide +kernel
theorem dX6_after_14 : decode cX6_after 14 = .ok (.iload 4, 2) := by decide +kernel
theorem dX6_after_16 : decode cX6_after 16 = .ok (.invokevirtual 60, 3) := by decide +kernel
theorem dX6_after_19 : decode cX6_after 19 = .ok (.ifCond .eq 14, 3) := by decide +kernel
theorem dX6_after_22 : decode cX6_after 22 = .ok (.iload 4, 2) := by decide +kernel
theorem dX6_after_24 : decode cX6_after 24 = .ok (.iload_n 1, 1) := by decide +kernel
theorem dX6_after_25 : decode cX6_after 25 = .ok (.if_icmp .le 8, 3) := by decide +kernel
theorem dX6_after_28 : decode cX6_after 28 = .ok (.iload 4, 2) := by decide +kernel
theorem dX6_after_30 : decode cX6_after 30 = .ok (.goto 4, 3) := by decide +kernel
theorem dX6_after_33 : decode cX6_after 33 = .ok (.iload_n 2, 1) := by decide +kernel
theorem dX6_after_34 : decode cX6_after 34 = .ok (.istore_n 2, 1) := by decide +kernel
theorem dX6_after_35 : decode cX6_after 35 = .ok (.aload_n 0, 1) := by decide +kernel
theorem dX6_after_36 : decode cX6_after 36 = .ok (.iload 4, 2) := by decide +kernel
theorem dX6_after_38 : decode cX6_after 38 = .ok (.invokevirtual 60, 3) := by decide +kernel
theorem dX6_after_41 : decode cX6_after 41 = .ok (.ifCond .eq 8, 3) := by decide +kernel
theorem dX6_after_44 : decode cX6_after 44 = .ok (.iload 4, 2) := by decide +kernel
theorem dX6_after_46 : decode cX6_after 46 = .ok (.goto 4, 3) := by decide +kernel
theorem dX6_after_49 : decode cX6_after 49 = .ok (.iload_n 3, 1) := by decide +kernel
theorem dX6_after_50 : decode cX6_after 50 = .ok (.istore_n 3, 1) := by decide +kernel
theorem dX6_after_51 : decode cX6_after 51 = .ok (.iinc 4 (-1), 3) := by decide +kernel
theorem dX6_after_54 : decode cX6_after 54 = .ok (.goto (-46), 3) := by decide +kernel
theorem dX6_after_57 : decode cX6_after 57 = .ok (.iload_n 2, 1) := by decide +kernel
theorem dX6_after_58 : decode cX6_after 58 = .ok (.iconst (-1), 1) := by decide +kernel
theorem dX6_after_59 : decode cX6_after 59 = .ok (.if_icmp .ne 7, 3) := by decide +kernel
theorem dX6_after_62 : decode cX6_after 62 = .ok (.iload_n 3, 1) := by decide +kernel
theorem dX6_after_63 : decode cX6_after 63 = .ok (.goto 4, 3) := by decide +kernel
theorem dX6_after_66 : decode cX6_after 66 = .ok (.iload_n 2, 1) := by decide +kernel
theorem dX6_after_67 : decode cX6_after 67 = .ok (.ireturn, 1) := by decide +kernel
theorem dX6_check_0 : decode cX6_check 0 = .ok (.aload_n 0, 1) := by decide +kernel
theorem dX6_check_1 : decode cX6_check 1 = .ok (.iload_n 1, 1) := by decide +kernel
theorem dX6_check_2 : decode cX6_check 2 = .ok (.iconst 0, 1) := by decide +kernel
theorem dX6_check_3 : decode cX6_check 3 = .ok (.invokevirtual 57, 3) := by decide +kernel
theorem dX6_check_6 : decode cX6_check 6 = .ok (.iconst 2, 1) := by decide +kernel
theorem dX6_check_7 : decode cX6_check 7 = .ok (.if_icmp .ne 7, 3) := by decide +kernel
theorem dX6_check_10 : decode cX6_check 10 = .ok (.iconst 1, 1) := by decide +kernel
theorem dX6_check_11 : decode cX6_check 11 = .ok (.goto 4, 3) := by decide +kernel
theorem dX6_check_14 : decode cX6_check 14 = .ok (.iconst 0, 1) := by decide +kernel
theorem dX6_check_15 : decode cX6_check 15 = .ok (.istore_n 3, 1) := by decide +kernel
theorem dX6_check_16 : decode cX6_check 16 = .ok (.aload_n 0, 1) := by decide +kernel
theorem dX6_check_17 : decode cX6_check 17 = .ok (.iload_n 1, 1) := by decide +kernel
theorem dX6_check_18 : decode cX6_check 18 = .ok (.iconst 0, 1) := by decide +kernel
theorem dX6_check_19 : decode cX6_check 19 = .ok (.invokevirtual 57, 3) := by decide +kernel
theorem dX6_check_22 : decode cX6_check 22 = .ok (.ifCond .ne 7, 3) := by decide +kernel
theorem dX6_check_25 : decode cX6_check 25 = .ok (.iconst 1, 1) := by decide +kernel
theorem dX6_check_26 : decode cX6_check 26 = .ok (.goto 4, 3) := by decide +kernel
theorem dX6_check_29 : decode cX6_check 29 = .ok (.iconst 0, 1) := by decide +kernel
theorem dX6_check_30 : decode cX6_check 30 = .ok (.istore 4, 2) := by decide +kernel
theorem dX6_check_32 : decode cX6_check 32 = .ok (.iload_n 3, 1) := by decide +kernel
theorem dX6_check_33 : decode cX6_check 33 = .ok (.ifCond .ne 20, 3) := by decide +kernel
theorem dX6_check_36 : decode cX6_check 36 = .ok (.aload_n 0, 1) := by decide +kernel
theorem dX6_check_37 : decode cX6_check 37 = .ok (.iload_n 2, 1) := by decide +kernel
theorem dX6_check_38 : decode cX6_check 38 = .ok (.iconst 0, 1) := by decide +kernel
theorem dX6_check_39 : decode cX6_check 39 = .ok (.invokevirtual 46, 3) := by decide +kernel
theorem dX6_check_42 : decode cX6_check 42 = .ok (.aload_n 0, 1) := by decide +kernel
theorem dX6_check_43 : decode cX6_check 43 = .ok (.iload_n 1, 1) := by decide +kernel
theorem dX6_check_44 : decode cX6_check 44 = .ok (.iconst 1, 1) := by decide +kernel
theorem dX6_check_45 : decode cX6_check 45 = .ok (.invokevirtual 57, 3) := by decide +kernel
theorem dX6_check_48 : decode cX6_check 48 = .ok (.if_icmp .eq 5, 3) := by decide +kernel
theorem dX6_check_51 : decode cX6_check 51 = .ok (.iconst 1, 1) := by decide +kernel
theorem dX6_check_52 : decode cX6_check 52 = .ok (.ireturn, 1) := by decide +kernel
theorem dX6_check_53 : decode cX6_check 53 = .ok (.iload_n 3, 1) := by decide +kernel
theorem dX6_check_54 : decode cX6_check 54 = .ok (.ifCond .eq 13, 3) := by decide +kernel
theorem dX6_check_57 : decode cX6_check 57 = .ok (.aload_n 0, 1) := by decide +kernel
theorem dX6_check_58 : decode cX6_check 58 = .ok (.iload_n 2, 1) := by decide +kernel
theorem dX6_check_59 : decode cX6_check 59 = .ok (.invokevirtual 67, 3) := by decide +kernel
theorem dX6_check_62 : decode cX6_check 62 = .ok (.ifCond .ne 5, 3) := by decide +kernel
theorem dX6_check_65 : decode cX6_check 65 = .ok (.iconst 2, 1) := by decide +kernel
theorem dX6_check_66 : decode cX6_check 66 = .ok (.ireturn, 1) := by decide +kernel
theorem dX6_check_67 : decode cX6_check 67 = .ok (.iload 4, 2) := by decide +kernel
theorem dX6_check_69 : decode cX6_check 69 = .ok (.ifCond .eq 17, 3) := by decide +kernel
theorem dX6_check_72 : decode cX6_check 72 = .ok (.aload_n 0, 1) := by decide +kernel
theorem dX6_check_73 : decode cX6_check 73 = .ok (.iload_n 2, 1) := by decide +kernel
theorem dX6_check_74 : decode cX6_check 74 = .ok (.iconst 2, 1) := by decide +kernel
theorem dX6_check_75 : decode cX6_check 75 = .ok (.invokevirtual 46, 3) := by decide +kernel
theorem dX6_check_78 : decode cX6_check 78 = .ok (.iconst 1, 1) := by decide +kernel
theorem dX6_check_79 : decode cX6_check 79 = .ok (.if_icmp .ne 7, 3) := by decide +kernel
theorem dX6_check_82 : decode cX6_check 82 = .ok (.iconst 3, 1) := by decide +kernel
theorem dX6_check_83 : decode cX6_check 83 = .ok (.goto 22, 3) := by decide +kernel
theorem dX6_check_86 : decode cX6_check 86 = .ok (.iload 4, 2) := by decide +kernel
theorem dX6_check_88 : decode cX6_check 88 = .ok (.ifCond .ne 16, 3) := by decide +kernel
theorem dX6_check_91 : decode cX6_check 91 = .ok (.aload_n 0, 1) := by decide +kernel
theorem dX6_check_92 : decode cX6_check 92 = .ok (.iload_n 2, 1) := by decide +kernel
theorem dX6_check_93 : decode cX6_check 93 = .ok (.iconst 2, 1) := by decide +kernel
theorem dX6_check_94 : decode cX6_check 94 = .ok (.invokevirtual 46, 3) := by decide +kernel
theorem dX6_check_97 : decode cX6_check 97 = .ok (.ifCond .ne 7, 3) := by decide +kernel
theorem dX6_check_100 : decode cX6_check 100 = .ok (.iconst 4, 1) := by decide +kernel
theorem dX6_check_101 : decode cX6_check 101 = .ok (.goto 4, 3) := by decide +kernel
theorem dX6_check_104 : decode cX6_check 104 = .ok (.iconst 0, 1) := by decide +kernel
theorem dX6_check_105 : decode cX6_check 105 = .ok (.ireturn, 1) := by decide +kernel
theorem dX6_onDrive_0 : decode cX6_onDrive 0 = .ok (.iconst (-1), 1) := by decide +kernel
theorem dX6_onDrive_1 : decode cX6_onDrive 1 = .ok (.istore_n 2, 1) := by decide +kernel
theorem dX6_onDrive_2 : decode cX6_onDrive 2 = .ok (.iconst 0, 1) := by decide +kernel
theorem dX6_onDrive_3 : decode cX6_onDrive 3 = .ok (.istore_n 3, 1) := by decide +kernel
theorem dX6_onDrive_4 : decode cX6_onDrive 4 = .ok (.iload_n 3, 1) := by decide +kernel
theorem dX6_onDrive_5 : decode cX6_onDrive 5 = .ok (.bipush 12, 2) := by decide +kernel
theorem dX6_onDrive_7 : decode cX6_onDrive 7 = .ok (.if_icmp .ge 25, 3) := by decide +kernel
theorem dX6_onDrive_10 : decode cX6_onDrive 10 = .ok (.aload_n 0, 1) := by decide +kernel
theorem dX6_onDrive_11 : decode cX6_onDrive 11 = .ok (.iload_n 3, 1) := by decide +kernel
theorem dX6_onDrive_12 : decode cX6_onDrive 12 = .ok (.iconst 5, 1) := by decide +kernel
theorem dX6_onDrive_13 : decode cX6_onDrive 13 = .ok (.invokevirtual 46, 3) := by decide +kernel
theorem dX6_onDrive_16 : decode cX6_onDrive 16 = .ok (.iload_n 1, 1) := by decide +kernel
theorem dX6_onDrive_17 : decode cX6_onDrive 17 = .ok (.if_icmp .ne 7, 3) := by decide +kernel
theorem dX6_onDrive_20 : decode cX6_onDrive 20 = .ok (.iload_n 3, 1) := by decide +kernel
theorem dX6_onDrive_21 : decode cX6_onDrive 21 = .ok (.goto 4, 3) := by decide +kernel
theorem dX6_onDrive_24 : decode cX6_onDrive 24 = .ok (.iload_n 2, 1) := by decide +kernel
theorem dX6_onDrive_25 : decode cX6_onDrive 25 = .ok (.istore_n 2, 1) := by decide +kernel
theorem dX6_onDrive_26 : decode cX6_onDrive 26 = .ok (.iinc 3 1, 3) := by decide +kernel
theorem dX6_onDrive_29 : decode cX6_onDrive 29 = .ok (.goto (-25), 3) := by decide +kernel
theorem dX6_onDrive_32 : decode cX6_onDrive 32 = .ok (.iload_n 2, 1) := by decide +kernel
theorem dX6_onDrive_33 : decode cX6_onDrive 33 = .ok (.ireturn, 1) := by decide +kernel
theorem dX6_emptyDrive_0 : decode cX6_emptyDrive 0 = .ok (.iconst (-1), 1) := by decide +kernel
theorem dX6_emptyDrive_1 : decode cX6_emptyDrive 1 = .ok (.istore_n 1, 1) := by decide +kernel
theorem dX6_emptyDrive_2 : decode cX6_emptyDrive 2 = .ok (.iconst 2, 1) := by decide +kernel
theorem dX6_emptyDrive_3 : decode cX6_emptyDrive 3 = .ok (.istore_n 2, 1) := by decide +kernel
theorem dX6_emptyDrive_4 : decode cX6_emptyDrive 4 = .ok (.iload_n 2, 1) := by decide +kernel
theorem dX6_emptyDrive_5 : decode cX6_emptyDrive 5 = .ok (.ifCond .lt 24, 3) := by decide +kernel
theorem dX6_emptyDrive_8 : decode cX6_emptyDrive 8 = .ok (.aload_n 0, 1) := by decide +kernel
theorem dX6_emptyDrive_9 : decode cX6_emptyDrive 9 = .ok (.iload_n 2, 1) := by decide +kernel
theorem dX6_emptyDrive_10 : decode cX6_emptyDrive 10 = .ok (.invokevirtual 70, 3) := by decide +kernel
theorem dX6_emptyDrive_13 : decode cX6_emptyDrive 13 = .ok (.iconst (-1), 1) := by decide +kernel
theorem dX6_emptyDrive_14 : decode cX6_emptyDrive 14 = .ok (.if_icmp .ne 7, 3) := by decide +kernel
theorem dX6_emptyDrive_17 : decode cX6_emptyDrive 17 = .ok (.iload_n 2, 1) := by decide +kernel
theorem dX6_emptyDrive_18 : decode cX6_emptyDrive 18 = .ok (.goto 4, 3) := by decide +kernel
theorem dX6_emptyDrive_21 : decode cX6_emptyDrive 21 = .ok (.iload_n 1, 1) := by decide +kernel
theorem dX6_emptyDrive_22 : decode cX6_emptyDrive 22 = .ok (.istore_n 1, 1) := by decide +kernel
theorem dX6_emptyDrive_23 : decode cX6_emptyDrive 23 = .ok (.iinc 2 (-1), 3) := by decide +kernel
theorem dX6_emptyDrive_26 : decode cX6_emptyDrive 26 = .ok (.goto (-22), 3) := by decide +kernel
theorem dX6_emptyDrive_29 : decode cX6_emptyDrive 29 = .ok (.iload_n 1, 1) := by decide +kernel
theorem dX6_emptyDrive_30 : decode cX6_emptyDrive 30 = .ok (.ireturn, 1) := by decide +kernel
theorem dX6_mount_0 : decode cX6_mount 0 = .ok (.aload_n 0, 1) := by decide +kernel
theorem dX6_mount_1 : decode cX6_mount 1 = .ok (.iload_n 2, 1) := by decide +kernel
theorem dX6_mount_2 : decode cX6_mount 2 = .ok (.iconst 5, 1) := by decide +kernel
theorem dX6_mount_3 : decode cX6_mount 3 = .ok (.iload_n 3, 1) := by decide +kernel
theorem dX6_mount_4 : decode cX6_mount 4 = .ok (.invokevirtual 34, 3) := by decide +kernel
theorem dX6_mount_7 : decode cX6_mount 7 = .ok (.aload_n 0, 1) := by decide +kernel
theorem dX6_mount_8 : decode cX6_mount 8 = .ok (.iload_n 1, 1) := by decide +kernel
theorem dX6_mount_9 : decode cX6_mount 9 = .ok (.iconst 4, 1) := by decide +kernel
theorem dX6_mount_10 : decode cX6_mount 10 = .ok (.iconst 1, 1) := by decide +kernel
theorem dX6_mount_11 : decode cX6_mount 11 = .ok (.invokevirtual 73, 3) := by decide +kernel
theorem dX6_mount_14 : decode cX6_mount 14 = .ok (.aload_n 0, 1) := by decide +kernel
theorem dX6_mount_15 : decode cX6_mount 15 = .ok (.iload_n 1, 1) := by decide +kernel
theorem dX6_mount_16 : decode cX6_mount 16 = .ok (.bipush 6, 2) := by decide +kernel
theorem dX6_mount_18 : decode cX6_mount 18 = .ok (.iload_n 2, 1) := by decide +kernel
theorem dX6_mount_19 : decode cX6_mount 19 = .ok (.invokevirtual 73, 3) := by decide +kernel
theorem dX6_mount_22 : decode cX6_mount 22 = .ok (.aload_n 0, 1) := by decide +kernel
theorem dX6_mount_23 : decode cX6_mount 23 = .ok (.iload_n 1, 1) := by decide +kernel
theorem dX6_mount_24 : decode cX6_mount 24 = .ok (.iconst 0, 1) := by decide +kernel
theorem dX6_mount_25 : decode cX6_mount 25 = .ok (.invokevirtual 57, 3) := by decide +kernel
theorem dX6_mount_28 : decode cX6_mount 28 = .ok (.iconst 2, 1) := by decide +kernel
theorem dX6_mount_29 : decode cX6_mount 29 = .ok (.if_icmp .ne 54, 3) := by decide +kernel
theorem dX6_mount_32 : decode cX6_mount 32 = .ok (.aload_n 0, 1) := by decide +kernel
theorem dX6_mount_33 : decode cX6_mount 33 = .ok (.iload_n 2, 1) := by decide +kernel
theorem dX6_mount_34 : decode cX6_mount 34 = .ok (.iconst 0, 1) := by decide +kernel
theorem dX6_mount_35 : decode cX6_mount 35 = .ok (.aload_n 0, 1) := by decide +kernel
theorem dX6_mount_36 : decode cX6_mount 36 = .ok (.iload_n 1, 1) := by decide +kernel
theorem dX6_mount_37 : decode cX6_mount 37 = .ok (.iconst 1, 1) := by decide +kernel
theorem dX6_mount_38 : decode cX6_mount 38 = .ok (.invokevirtual 57, 3) := by decide +kernel
theorem dX6_mount_41 : decode cX6_mount 41 = .ok (.invokevirtual 34, 3) := by decide +kernel
theorem dX6_mount_44 : decode cX6_mount 44 = .ok (.aload_n 0, 1) := by decide +kernel
theorem dX6_mount_45 : decode cX6_mount 45 = .ok (.iload_n 2, 1) := by decide +kernel
theorem dX6_mount_46 : decode cX6_mount 46 = .ok (.iconst 1, 1) := by decide +kernel
theorem dX6_mount_47 : decode cX6_mount 47 = .ok (.aload_n 0, 1) := by decide +kernel
theorem dX6_mount_48 : decode cX6_mount 48 = .ok (.iload_n 1, 1) := by decide +kernel
theorem dX6_mount_49 : decode cX6_mount 49 = .ok (.iconst 1, 1) := by decide +kernel
theorem dX6_mount_50 : decode cX6_mount 50 = .ok (.invokevirtual 57, 3) := by decide +kernel
theorem dX6_mount_53 : decode cX6_mount 53 = .ok (.invokevirtual 34, 3) := by decide +kernel
theorem dX6_mount_56 : decode cX6_mount 56 = .ok (.aload_n 0, 1) := by decide +kernel
theorem dX6_mount_57 : decode cX6_mount 57 = .ok (.iload_n 2, 1) := by decide +kernel
theorem dX6_mount_58 : decode cX6_mount 58 = .ok (.iconst 3, 1) := by decide +kernel
theorem dX6_mount_59 : decode cX6_mount 59 = .ok (.aload_n 0, 1) := by decide +kernel
theorem dX6_mount_60 : decode cX6_mount 60 = .ok (.getfield 7, 3) := by decide +kernel
theorem dX6_mount_63 : decode cX6_mount 63 = .ok (.iconst 0, 1) := by decide +kernel
theorem dX6_mount_64 : decode cX6_mount 64 = .ok (.iaload, 1) := by decide +kernel
theorem dX6_mount_65 : decode cX6_mount 65 = .ok (.aload_n 0, 1) := by decide +kernel
theorem dX6_mount_66 : decode cX6_mount 66 = .ok (.getfield 7, 3) := by decide +kernel
theorem dX6_mount_69 : decode cX6_mount 69 = .ok (.bipush 9, 2) := by decide +kernel
theorem dX6_mount_71 : decode cX6_mount 71 = .ok (.iaload, 1) := by decide +kernel
theorem dX6_mount_72 : decode cX6_mount 72 = .ok (.iadd, 1) := by decide +kernel
theorem dX6_mount_73 : decode cX6_mount 73 = .ok (.invokevirtual 34, 3) := by decide +kernel
theorem dX6_mount_76 : decode cX6_mount 76 = .ok (.aload_n 0, 1) := by decide +kernel
theorem dX6_mount_77 : decode cX6_mount 77 = .ok (.iload_n 2, 1) := by decide +kernel
theorem dX6_mount_78 : decode cX6_mount 78 = .ok (.iconst 4, 1) := by decide +kernel
theorem dX6_mount_79 : decode cX6_mount 79 = .ok (.iconst 0, 1) := by decide +kernel
theorem dX6_mount_80 : decode cX6_mount 80 = .ok (.invokevirtual 34, 3) := by decide +kernel
theorem dX6_mount_83 : decode cX6_mount 83 = .ok (.return_, 1) := by decide +kernel
theorem dX6_serve_0 : decode cX6_serve 0 = .ok (.aload_n 0, 1) := by decide +kernel
theorem dX6_serve_1 : decode cX6_serve 1 = .ok (.getfield 7, 3) := by decide +kernel
theorem dX6_serve_4 : decode cX6_serve 4 = .ok (.iconst 2, 1) := by decide +kernel
theorem dX6_serve_5 : decode cX6_serve 5 = .ok (.dup2, 1) := by decide +kernel
theorem dX6_serve_6 : decode cX6_serve 6 = .ok (.iaload, 1) := by decide +kernel
theorem dX6_serve_7 : decode cX6_serve 7 = .ok (.iconst 1, 1) := by decide +kernel
theorem dX6_serve_8 : decode cX6_serve 8 = .ok (.iadd, 1) := by decide +kernel
theorem dX6_serve_9 : decode cX6_serve 9 = .ok (.iastore, 1) := by decide +kernel
theorem dX6_serve_10 : decode cX6_serve 10 = .ok (.aload_n 0, 1) := by decide +kernel
theorem dX6_serve_11 : decode cX6_serve 11 = .ok (.iload_n 1, 1) := by decide +kernel
theorem dX6_serve_12 : decode cX6_serve 12 = .ok (.invokevirtual 64, 3) := by decide +kernel
theorem dX6_serve_15 : decode cX6_serve 15 = .ok (.istore_n 3, 1) := by decide +kernel
theorem dX6_serve_16 : decode cX6_serve 16 = .ok (.aload_n 0, 1) := by decide +kernel
theorem dX6_serve_17 : decode cX6_serve 17 = .ok (.aload_n 0, 1) := by decide +kernel
theorem dX6_serve_18 : decode cX6_serve 18 = .ok (.getfield 7, 3) := by decide +kernel
theorem dX6_serve_21 : decode cX6_serve 21 = .ok (.iconst 2, 1) := by decide +kernel
theorem dX6_serve_22 : decode cX6_serve 22 = .ok (.iaload, 1) := by decide +kernel
theorem dX6_serve_23 : decode cX6_serve 23 = .ok (.invokevirtual 76, 3) := by decide +kernel
theorem dX6_serve_26 : decode cX6_serve 26 = .ok (.ifCond .eq 22, 3) := by decide +kernel
theorem dX6_serve_29 : decode cX6_serve 29 = .ok (.aload_n 0, 1) := by decide +kernel
theorem dX6_serve_30 : decode cX6_serve 30 = .ok (.getfield 7, 3) := by decide +kernel
theorem dX6_serve_33 : decode cX6_serve 33 = .ok (.iconst 3, 1) := by decide +kernel
theorem dX6_serve_34 : decode cX6_serve 34 = .ok (.dup2, 1) := by decide +kernel
theorem dX6_serve_35 : decode cX6_serve 35 = .ok (.iaload, 1) := by decide +kernel
theorem dX6_serve_36 : decode cX6_serve 36 = .ok (.iconst 1, 1) := by decide +kernel
theorem dX6_serve_37 : decode cX6_serve 37 = .ok (.iadd, 1) := by decide +kernel
theorem dX6_serve_38 : decode cX6_serve 38 = .ok (.iastore, 1) := by decide +kernel
theorem dX6_serve_39 : decode cX6_serve 39 = .ok (.aload_n 0, 1) := by decide +kernel
theorem dX6_serve_40 : decode cX6_serve 40 = .ok (.iload_n 3, 1) := by decide +kernel
theorem dX6_serve_41 : decode cX6_serve 41 = .ok (.invokevirtual 79, 3) := by decide +kernel
theorem dX6_serve_44 : decode cX6_serve 44 = .ok (.istore_n 3, 1) := by decide +kernel
theorem dX6_serve_45 : decode cX6_serve 45 = .ok (.goto 23, 3) := by decide +kernel
theorem dX6_serve_48 : decode cX6_serve 48 = .ok (.aload_n 0, 1) := by decide +kernel
theorem dX6_serve_49 : decode cX6_serve 49 = .ok (.iload_n 3, 1) := by decide +kernel
theorem dX6_serve_50 : decode cX6_serve 50 = .ok (.iconst 2, 1) := by decide +kernel
theorem dX6_serve_51 : decode cX6_serve 51 = .ok (.aload_n 0, 1) := by decide +kernel
theorem dX6_serve_52 : decode cX6_serve 52 = .ok (.iload_n 1, 1) := by decide +kernel
theorem dX6_serve_53 : decode cX6_serve 53 = .ok (.iconst 0, 1) := by decide +kernel
theorem dX6_serve_54 : decode cX6_serve 54 = .ok (.invokevirtual 57, 3) := by decide +kernel
theorem dX6_serve_57 : decode cX6_serve 57 = .ok (.ifCond .ne 7, 3) := by decide +kernel
theorem dX6_serve_60 : decode cX6_serve 60 = .ok (.iconst 0, 1) := by decide +kernel
theorem dX6_serve_61 : decode cX6_serve 61 = .ok (.goto 4, 3) := by decide +kernel
theorem dX6_serve_64 : decode cX6_serve 64 = .ok (.iconst 1, 1) := by decide +kernel
theorem dX6_serve_65 : decode cX6_serve 65 = .ok (.invokevirtual 34, 3) := by decide +kernel
theorem dX6_serve_68 : decode cX6_serve 68 = .ok (.aload_n 0, 1) := by decide +kernel
theorem dX6_serve_69 : decode cX6_serve 69 = .ok (.iload_n 1, 1) := by decide +kernel
theorem dX6_serve_70 : decode cX6_serve 70 = .ok (.iload_n 3, 1) := by decide +kernel
theorem dX6_serve_71 : decode cX6_serve 71 = .ok (.invokevirtual 82, 3) := by decide +kernel
theorem dX6_serve_74 : decode cX6_serve 74 = .ok (.ifCond .ne 13, 3) := by decide +kernel
theorem dX6_serve_77 : decode cX6_serve 77 = .ok (.aload_n 0, 1) := by decide +kernel
theorem dX6_serve_78 : decode cX6_serve 78 = .ok (.iload_n 1, 1) := by decide +kernel
theorem dX6_serve_79 : decode cX6_serve 79 = .ok (.iload_n 3, 1) := by decide +kernel
theorem dX6_serve_80 : decode cX6_serve 80 = .ok (.iload_n 2, 1) := by decide +kernel
theorem dX6_serve_81 : decode cX6_serve 81 = .ok (.invokevirtual 85, 3) := by decide +kernel
theorem dX6_serve_84 : decode cX6_serve 84 = .ok (.goto 53, 3) := by decide +kernel
theorem dX6_serve_87 : decode cX6_serve 87 = .ok (.aload_n 0, 1) := by decide +kernel
theorem dX6_serve_88 : decode cX6_serve 88 = .ok (.iload_n 3, 1) := by decide +kernel
theorem dX6_serve_89 : decode cX6_serve 89 = .ok (.iconst 1, 1) := by decide +kernel
theorem dX6_serve_90 : decode cX6_serve 90 = .ok (.aload_n 0, 1) := by decide +kernel
theorem dX6_serve_91 : decode cX6_serve 91 = .ok (.iload_n 3, 1) := by decide +kernel
theorem dX6_serve_92 : decode cX6_serve 92 = .ok (.invokevirtual 67, 3) := by decide +kernel
theorem dX6_serve_95 : decode cX6_serve 95 = .ok (.ifCond .eq 7, 3) := by decide +kernel
theorem dX6_serve_98 : decode cX6_serve 98 = .ok (.iconst 0, 1) := by decide +kernel
theorem dX6_serve_99 : decode cX6_serve 99 = .ok (.goto 9, 3) := by decide +kernel
theorem dX6_serve_102 : decode cX6_serve 102 = .ok (.aload_n 0, 1) := by decide +kernel
theorem dX6_serve_103 : decode cX6_serve 103 = .ok (.iload_n 3, 1) := by decide +kernel
theorem dX6_serve_104 : decode cX6_serve 104 = .ok (.iconst 0, 1) := by decide +kernel
theorem dX6_serve_105 : decode cX6_serve 105 = .ok (.invokevirtual 46, 3) := by decide +kernel
theorem dX6_serve_108 : decode cX6_serve 108 = .ok (.invokevirtual 34, 3) := by decide +kernel
theorem dX6_serve_111 : decode cX6_serve 111 = .ok (.aload_n 0, 1) := by decide +kernel
theorem dX6_serve_112 : decode cX6_serve 112 = .ok (.iload_n 1, 1) := by decide +kernel
theorem dX6_serve_113 : decode cX6_serve 113 = .ok (.bipush 7, 2) := by decide +kernel
theorem dX6_serve_115 : decode cX6_serve 115 = .ok (.aload_n 0, 1) := by decide +kernel
theorem dX6_serve_116 : decode cX6_serve 116 = .ok (.iload_n 1, 1) := by decide +kernel
theorem dX6_serve_117 : decode cX6_serve 117 = .ok (.bipush 7, 2) := by decide +kernel
theorem dX6_serve_119 : decode cX6_serve 119 = .ok (.invokevirtual 57, 3) := by decide +kernel
theorem dX6_serve_122 : decode cX6_serve 122 = .ok (.iconst 1, 1) := by decide +kernel
theorem dX6_serve_123 : decode cX6_serve 123 = .ok (.iadd, 1) := by decide +kernel
theorem dX6_serve_124 : decode cX6_serve 124 = .ok (.invokevirtual 73, 3) := by decide +kernel
theorem dX6_serve_127 : decode cX6_serve 127 = .ok (.aload_n 0, 1) := by decide +kernel
theorem dX6_serve_128 : decode cX6_serve 128 = .ok (.getfield 7, 3) := by decide +kernel
theorem dX6_serve_131 : decode cX6_serve 131 = .ok (.iconst 4, 1) := by decide +kernel
theorem dX6_serve_132 : decode cX6_serve 132 = .ok (.dup2, 1) := by decide +kernel
theorem dX6_serve_133 : decode cX6_serve 133 = .ok (.iaload, 1) := by decide +kernel
theorem dX6_serve_134 : decode cX6_serve 134 = .ok (.iconst 1, 1) := by decide +kernel
theorem dX6_serve_135 : decode cX6_serve 135 = .ok (.iadd, 1) := by decide +kernel
theorem dX6_serve_136 : decode cX6_serve 136 = .ok (.iastore, 1) := by decide +kernel
theorem dX6_serve_137 : decode cX6_serve 137 = .ok (.return_, 1) := by decide +kernel
theorem dX6_takeOff_0 : decode cX6_takeOff 0 = .ok (.aload_n 0, 1) := by decide +kernel
theorem dX6_takeOff_1 : decode cX6_takeOff 1 = .ok (.aload_n 0, 1) := by decide +kernel
theorem dX6_takeOff_2 : decode cX6_takeOff 2 = .ok (.iload_n 1, 1) := by decide +kernel
theorem dX6_takeOff_3 : decode cX6_takeOff 3 = .ok (.bipush 6, 2) := by decide +kernel
theorem dX6_takeOff_5 : decode cX6_takeOff 5 = .ok (.invokevirtual 57, 3) := by decide +kernel
theorem dX6_takeOff_8 : decode cX6_takeOff 8 = .ok (.iconst 5, 1) := by decide +kernel
theorem dX6_takeOff_9 : decode cX6_takeOff 9 = .ok (.iconst (-1), 1) := by decide +kernel
theorem dX6_takeOff_10 : decode cX6_takeOff 10 = .ok (.invokevirtual 34, 3) := by decide +kernel
theorem dX6_takeOff_13 : decode cX6_takeOff 13 = .ok (.aload_n 0, 1) := by decide +kernel
theorem dX6_takeOff_14 : decode cX6_takeOff 14 = .ok (.iload_n 1, 1) := by decide +kernel
theorem dX6_takeOff_15 : decode cX6_takeOff 15 = .ok (.bipush 6, 2) := by decide +kernel
theorem dX6_takeOff_17 : decode cX6_takeOff 17 = .ok (.iconst (-1), 1) := by decide +kernel
theorem dX6_takeOff_18 : decode cX6_takeOff 18 = .ok (.invokevirtual 73, 3) := by decide +kernel
theorem dX6_takeOff_21 : decode cX6_takeOff 21 = .ok (.return_, 1) := by decide +kernel
theorem dX6_isDoneNow_0 : decode cX6_isDoneNow 0 = .ok (.aload_n 0, 1) := by decide +kernel
theorem dX6_isDoneNow_1 : decode cX6_isDoneNow 1 = .ok (.iload_n 1, 1) := by decide +kernel
theorem dX6_isDoneNow_2 : decode cX6_isDoneNow 2 = .ok (.bipush 6, 2) := by decide +kernel
theorem dX6_isDoneNow_4 : decode cX6_isDoneNow 4 = .ok (.invokevirtual 57, 3) := by decide +kernel
theorem dX6_isDoneNow_7 : decode cX6_isDoneNow 7 = .ok (.istore_n 2, 1) := by decide +kernel
theorem dX6_isDoneNow_8 : decode cX6_isDoneNow 8 = .ok (.aload_n 0, 1) := by decide +kernel
theorem dX6_isDoneNow_9 : decode cX6_isDoneNow 9 = .ok (.iload_n 1, 1) := by decide +kernel
theorem dX6_isDoneNow_10 : decode cX6_isDoneNow 10 = .ok (.iconst 0, 1) := by decide +kernel
theorem dX6_isDoneNow_11 : decode cX6_isDoneNow 11 = .ok (.invokevirtual 57, 3) := by decide +kernel
theorem dX6_isDoneNow_14 : decode cX6_isDoneNow 14 = .ok (.ifCond .ne 16, 3) := by decide +kernel
theorem dX6_isDoneNow_17 : decode cX6_isDoneNow 17 = .ok (.aload_n 0, 1) := by decide +kernel
theorem dX6_isDoneNow_18 : decode cX6_isDoneNow 18 = .ok (.getfield 7, 3) := by decide +kernel
theorem dX6_isDoneNow_21 : decode cX6_isDoneNow 21 = .ok (.iconst 5, 1) := by decide +kernel
theorem dX6_isDoneNow_22 : decode cX6_isDoneNow 22 = .ok (.dup2, 1) := by decide +kernel
theorem dX6_isDoneNow_23 : decode cX6_isDoneNow 23 = .ok (.iaload, 1) := by decide +kernel
theorem dX6_isDoneNow_24 : decode cX6_isDoneNow 24 = .ok (.iconst 1, 1) := by decide +kernel
theorem dX6_isDoneNow_25 : decode cX6_isDoneNow 25 = .ok (.iadd, 1) := by decide +kernel
theorem dX6_isDoneNow_26 : decode cX6_isDoneNow 26 = .ok (.iastore, 1) := by decide +kernel
theorem dX6_isDoneNow_27 : decode cX6_isDoneNow 27 = .ok (.goto 53, 3) := by decide +kernel
theorem dX6_isDoneNow_30 : decode cX6_isDoneNow 30 = .ok (.aload_n 0, 1) := by decide +kernel
theorem dX6_isDoneNow_31 : decode cX6_isDoneNow 31 = .ok (.iload_n 2, 1) := by decide +kernel
theorem dX6_isDoneNow_32 : decode cX6_isDoneNow 32 = .ok (.iconst 4, 1) := by decide +kernel
theorem dX6_isDoneNow_33 : decode cX6_isDoneNow 33 = .ok (.invokevirtual 46, 3) := by decide +kernel
theorem dX6_isDoneNow_36 : decode cX6_isDoneNow 36 = .ok (.bipush 99, 2) := by decide +kernel
theorem dX6_isDoneNow_38 : decode cX6_isDoneNow 38 = .ok (.if_icmp .ne 17, 3) := by decide +kernel
theorem dX6_isDoneNow_41 : decode cX6_isDoneNow 41 = .ok (.aload_n 0, 1) := by decide +kernel
theorem dX6_isDoneNow_42 : decode cX6_isDoneNow 42 = .ok (.getfield 7, 3) := by decide +kernel
theorem dX6_isDoneNow_45 : decode cX6_isDoneNow 45 = .ok (.bipush 7, 2) := by decide +kernel
theorem dX6_isDoneNow_47 : decode cX6_isDoneNow 47 = .ok (.dup2, 1) := by decide +kernel
theorem dX6_isDoneNow_48 : decode cX6_isDoneNow 48 = .ok (.iaload, 1) := by decide +kernel
theorem dX6_isDoneNow_49 : decode cX6_isDoneNow 49 = .ok (.iconst 1, 1) := by decide +kernel
theorem dX6_isDoneNow_50 : decode cX6_isDoneNow 50 = .ok (.iadd, 1) := by decide +kernel
theorem dX6_isDoneNow_51 : decode cX6_isDoneNow 51 = .ok (.iastore, 1) := by decide +kernel
theorem dX6_isDoneNow_52 : decode cX6_isDoneNow 52 = .ok (.goto 28, 3) := by decide +kernel
theorem dX6_isDoneNow_55 : decode cX6_isDoneNow 55 = .ok (.aload_n 0, 1) := by decide +kernel
theorem dX6_isDoneNow_56 : decode cX6_isDoneNow 56 = .ok (.iload_n 2, 1) := by decide +kernel
theorem dX6_isDoneNow_57 : decode cX6_isDoneNow 57 = .ok (.iconst 4, 1) := by decide +kernel
theorem dX6_isDoneNow_58 : decode cX6_isDoneNow 58 = .ok (.aload_n 0, 1) := by decide +kernel
theorem dX6_isDoneNow_59 : decode cX6_isDoneNow 59 = .ok (.iload_n 2, 1) := by decide +kernel
theorem dX6_isDoneNow_60 : decode cX6_isDoneNow 60 = .ok (.iconst 4, 1) := by decide +kernel
theorem dX6_isDoneNow_61 : decode cX6_isDoneNow 61 = .ok (.invokevirtual 46, 3) := by decide +kernel
theorem dX6_isDoneNow_64 : decode cX6_isDoneNow 64 = .ok (.iconst 1, 1) := by decide +kernel
theorem dX6_isDoneNow_65 : decode cX6_isDoneNow 65 = .ok (.iadd, 1) := by decide +kernel
theorem dX6_isDoneNow_66 : decode cX6_isDoneNow 66 = .ok (.invokevirtual 34, 3) := by decide +kernel
theorem dX6_isDoneNow_69 : decode cX6_isDoneNow 69 = .ok (.aload_n 0, 1) := by decide +kernel
theorem dX6_isDoneNow_70 : decode cX6_isDoneNow 70 = .ok (.getfield 7, 3) := by decide +kernel
theorem dX6_isDoneNow_73 : decode cX6_isDoneNow 73 = .ok (.bipush 6, 2) := by decide +kernel
theorem dX6_isDoneNow_75 : decode cX6_isDoneNow 75 = .ok (.dup2, 1) := by decide +kernel
theorem dX6_isDoneNow_76 : decode cX6_isDoneNow 76 = .ok (.iaload, 1) := by decide +kernel
theorem dX6_isDoneNow_77 : decode cX6_isDoneNow 77 = .ok (.iconst 1, 1) := by decide +kernel
theorem dX6_isDoneNow_78 : decode cX6_isDoneNow 78 = .ok (.iadd, 1) := by decide +kernel
theorem dX6_isDoneNow_79 : decode cX6_isDoneNow 79 = .ok (.iastore, 1) := by decide +kernel
theorem dX6_isDoneNow_80 : decode cX6_isDoneNow 80 = .ok (.aload_n 0, 1) := by decide +kernel
theorem dX6_isDoneNow_81 : decode cX6_isDoneNow 81 = .ok (.iload_n 1, 1) := by decide +kernel
theorem dX6_isDoneNow_82 : decode cX6_isDoneNow 82 = .ok (.iconst 5, 1) := by decide +kernel
theorem dX6_isDoneNow_83 : decode cX6_isDoneNow 83 = .ok (.aload_n 0, 1) := by decide +kernel
theorem dX6_isDoneNow_84 : decode cX6_isDoneNow 84 = .ok (.iload_n 1, 1) := by decide +kernel
theorem dX6_isDoneNow_85 : decode cX6_isDoneNow 85 = .ok (.iconst 5, 1) := by decide +kernel
theorem dX6_isDoneNow_86 : decode cX6_isDoneNow 86 = .ok (.invokevirtual 57, 3) := by decide +kernel
theorem dX6_isDoneNow_89 : decode cX6_isDoneNow 89 = .ok (.iconst 1, 1) := by decide +kernel
theorem dX6_isDoneNow_90 : decode cX6_isDoneNow 90 = .ok (.iadd, 1) := by decide +kernel
theorem dX6_isDoneNow_91 : decode cX6_isDoneNow 91 = .ok (.invokevirtual 73, 3) := by decide +kernel
theorem dX6_isDoneNow_94 : decode cX6_isDoneNow 94 = .ok (.aload_n 0, 1) := by decide +kernel
theorem dX6_isDoneNow_95 : decode cX6_isDoneNow 95 = .ok (.iload_n 1, 1) := by decide +kernel
theorem dX6_isDoneNow_96 : decode cX6_isDoneNow 96 = .ok (.iconst 5, 1) := by decide +kernel
theorem dX6_isDoneNow_97 : decode cX6_isDoneNow 97 = .ok (.invokevirtual 57, 3) := by decide +kernel
theorem dX6_isDoneNow_100 : decode cX6_isDoneNow 100 = .ok (.aload_n 0, 1) := by decide +kernel
theorem dX6_isDoneNow_101 : decode cX6_isDoneNow 101 = .ok (.iload_n 1, 1) := by decide +kernel
theorem dX6_isDoneNow_102 : decode cX6_isDoneNow 102 = .ok (.iconst 2, 1) := by decide +kernel
theorem dX6_isDoneNow_103 : decode cX6_isDoneNow 103 = .ok (.invokevirtual 57, 3) := by decide +kernel
theorem dX6_isDoneNow_106 : decode cX6_isDoneNow 106 = .ok (.if_icmp .ne 7, 3) := by decide +kernel
theorem dX6_isDoneNow_109 : decode cX6_isDoneNow 109 = .ok (.iconst 1, 1) := by decide +kernel
theorem dX6_isDoneNow_110 : decode cX6_isDoneNow 110 = .ok (.goto 4, 3) := by decide +kernel
theorem dX6_isDoneNow_113 : decode cX6_isDoneNow 113 = .ok (.iconst 0, 1) := by decide +kernel
theorem dX6_isDoneNow_114 : decode cX6_isDoneNow 114 = .ok (.ireturn, 1) := by decide +kernel
theorem dX6_minute_0 : decode cX6_minute 0 = .ok (.iconst 0, 1) := by decide +kernel
theorem dX6_minute_1 : decode cX6_minute 1 = .ok (.istore_n 1, 1) := by decide +kernel
theorem dX6_minute_2 : decode cX6_minute 2 = .ok (.iconst 0, 1) := by decide +kernel
theorem dX6_minute_3 : decode cX6_minute 3 = .ok (.istore_n 2, 1) := by decide +kernel
theorem dX6_minute_4 : decode cX6_minute 4 = .ok (.iload_n 2, 1) := by decide +kernel
theorem dX6_minute_5 : decode cX6_minute 5 = .ok (.aload_n 0, 1) := by decide +kernel
theorem dX6_minute_6 : decode cX6_minute 6 = .ok (.getfield 7, 3) := by decide +kernel
theorem dX6_minute_9 : decode cX6_minute 9 = .ok (.bipush 82, 2) := by decide +kernel
theorem dX6_minute_11 : decode cX6_minute 11 = .ok (.iaload, 1) := by decide +kernel
theorem dX6_minute_12 : decode cX6_minute 12 = .ok (.if_icmp .ge 42, 3) := by decide +kernel
theorem dX6_minute_15 : decode cX6_minute 15 = .ok (.aload_n 0, 1) := by decide +kernel
theorem dX6_minute_16 : decode cX6_minute 16 = .ok (.iload_n 2, 1) := by decide +kernel
theorem dX6_minute_17 : decode cX6_minute 17 = .ok (.iconst 4, 1) := by decide +kernel
theorem dX6_minute_18 : decode cX6_minute 18 = .ok (.invokevirtual 57, 3) := by decide +kernel
theorem dX6_minute_21 : decode cX6_minute 21 = .ok (.iconst 1, 1) := by decide +kernel
theorem dX6_minute_22 : decode cX6_minute 22 = .ok (.if_icmp .ne 26, 3) := by decide +kernel
theorem dX6_minute_25 : decode cX6_minute 25 = .ok (.aload_n 0, 1) := by decide +kernel
theorem dX6_minute_26 : decode cX6_minute 26 = .ok (.iload_n 2, 1) := by decide +kernel
theorem dX6_minute_27 : decode cX6_minute 27 = .ok (.invokevirtual 88, 3) := by decide +kernel
theorem dX6_minute_30 : decode cX6_minute 30 = .ok (.ifCond .eq 18, 3) := by decide +kernel
theorem dX6_minute_33 : decode cX6_minute 33 = .ok (.aload_n 0, 1) := by decide +kernel
theorem dX6_minute_34 : decode cX6_minute 34 = .ok (.iload_n 2, 1) := by decide +kernel
theorem dX6_minute_35 : decode cX6_minute 35 = .ok (.iconst 4, 1) := by decide +kernel
theorem dX6_minute_36 : decode cX6_minute 36 = .ok (.iconst 2, 1) := by decide +kernel
theorem dX6_minute_37 : decode cX6_minute 37 = .ok (.invokevirtual 73, 3) := by decide +kernel
theorem dX6_minute_40 : decode cX6_minute 40 = .ok (.aload_n 0, 1) := by decide +kernel
theorem dX6_minute_41 : decode cX6_minute 41 = .ok (.iload_n 2, 1) := by decide +kernel
theorem dX6_minute_42 : decode cX6_minute 42 = .ok (.invokevirtual 91, 3) := by decide +kernel
theorem dX6_minute_45 : decode cX6_minute 45 = .ok (.iinc 1 1, 3) := by decide +kernel
theorem dX6_minute_48 : decode cX6_minute 48 = .ok (.iinc 2 1, 3) := by decide +kernel
theorem dX6_minute_51 : decode cX6_minute 51 = .ok (.goto (-47), 3) := by decide +kernel
theorem dX6_minute_54 : decode cX6_minute 54 = .ok (.aload_n 0, 1) := by decide +kernel
theorem dX6_minute_55 : decode cX6_minute 55 = .ok (.invokevirtual 95, 3) := by decide +kernel
theorem dX6_minute_58 : decode cX6_minute 58 = .ok (.istore_n 2, 1) := by decide +kernel
theorem dX6_minute_59 : decode cX6_minute 59 = .ok (.aload_n 0, 1) := by decide +kernel
theorem dX6_minute_60 : decode cX6_minute 60 = .ok (.invokevirtual 99, 3) := by decide +kernel
theorem dX6_minute_63 : decode cX6_minute 63 = .ok (.istore_n 3, 1) := by decide +kernel
theorem dX6_minute_64 : decode cX6_minute 64 = .ok (.iload_n 2, 1) := by decide +kernel
theorem dX6_minute_65 : decode cX6_minute 65 = .ok (.iconst (-1), 1) := by decide +kernel
theorem dX6_minute_66 : decode cX6_minute 66 = .ok (.if_icmp .eq 14, 3) := by decide +kernel
theorem dX6_minute_69 : decode cX6_minute 69 = .ok (.iload_n 3, 1) := by decide +kernel
theorem dX6_minute_70 : decode cX6_minute 70 = .ok (.iconst (-1), 1) := by decide +kernel
theorem dX6_minute_71 : decode cX6_minute 71 = .ok (.if_icmp .eq 9, 3) := by decide +kernel
theorem dX6_minute_74 : decode cX6_minute 74 = .ok (.aload_n 0, 1) := by decide +kernel
theorem dX6_minute_75 : decode cX6_minute 75 = .ok (.iload_n 2, 1) := by decide +kernel
theorem dX6_minute_76 : decode cX6_minute 76 = .ok (.iload_n 3, 1) := by decide +kernel
theorem dX6_minute_77 : decode cX6_minute 77 = .ok (.invokevirtual 102, 3) := by decide +kernel
theorem dX6_minute_80 : decode cX6_minute 80 = .ok (.aload_n 0, 1) := by decide +kernel
theorem dX6_minute_81 : decode cX6_minute 81 = .ok (.getfield 7, 3) := by decide +kernel
theorem dX6_minute_84 : decode cX6_minute 84 = .ok (.iconst 1, 1) := by decide +kernel
theorem dX6_minute_85 : decode cX6_minute 85 = .ok (.dup2, 1) := by decide +kernel
theorem dX6_minute_86 : decode cX6_minute 86 = .ok (.iaload, 1) := by decide +kernel
theorem dX6_minute_87 : decode cX6_minute 87 = .ok (.iconst 1, 1) := by decide +kernel
theorem dX6_minute_88 : decode cX6_minute 88 = .ok (.iadd, 1) := by decide +kernel
theorem dX6_minute_89 : decode cX6_minute 89 = .ok (.iastore, 1) := by decide +kernel
theorem dX6_minute_90 : decode cX6_minute 90 = .ok (.iload_n 1, 1) := by decide +kernel
theorem dX6_minute_91 : decode cX6_minute 91 = .ok (.ireturn, 1) := by decide +kernel
theorem dX6_passNow_0 : decode cX6_passNow 0 = .ok (.iconst 0, 1) := by decide +kernel
theorem dX6_passNow_1 : decode cX6_passNow 1 = .ok (.istore_n 2, 1) := by decide +kernel
theorem dX6_passNow_2 : decode cX6_passNow 2 = .ok (.iconst 0, 1) := by decide +kernel
theorem dX6_passNow_3 : decode cX6_passNow 3 = .ok (.istore_n 3, 1) := by decide +kernel
theorem dX6_passNow_4 : decode cX6_passNow 4 = .ok (.iload_n 3, 1) := by decide +kernel
theorem dX6_passNow_5 : decode cX6_passNow 5 = .ok (.iload_n 1, 1) := by decide +kernel
theorem dX6_passNow_6 : decode cX6_passNow 6 = .ok (.if_icmp .ge 16, 3) := by decide +kernel
theorem dX6_passNow_9 : decode cX6_passNow 9 = .ok (.iload_n 2, 1) := by decide +kernel
theorem dX6_passNow_10 : decode cX6_passNow 10 = .ok (.aload_n 0, 1) := by decide +kernel
theorem dX6_passNow_11 : decode cX6_passNow 11 = .ok (.invokevirtual 106, 3) := by decide +kernel
theorem dX6_passNow_14 : decode cX6_passNow 14 = .ok (.iadd, 1) := by decide +kernel
theorem dX6_passNow_15 : decode cX6_passNow 15 = .ok (.istore_n 2, 1) := by decide +kernel
theorem dX6_passNow_16 : decode cX6_passNow 16 = .ok (.iinc 3 1, 3) := by decide +kernel
theorem dX6_passNow_19 : decode cX6_passNow 19 = .ok (.goto (-15), 3) := by decide +kernel
theorem dX6_passNow_22 : decode cX6_passNow 22 = .ok (.iload_n 2, 1) := by decide +kernel
theorem dX6_passNow_23 : decode cX6_passNow 23 = .ok (.ireturn, 1) := by decide +kernel
theorem dX6_areRight_0 : decode cX6_areRight 0 = .ok (.iload_n 0, 1) := by decide +kernel
theorem dX6_areRight_1 : decode cX6_areRight 1 = .ok (.iconst 0, 1) := by decide +kernel
theorem dX6_areRight_2 : decode cX6_areRight 2 = .ok (.iconst 2, 1) := by decide +kernel
theorem dX6_areRight_3 : decode cX6_areRight 3 = .ok (.invokestatic 42, 3) := by decide +kernel
theorem dX6_areRight_6 : decode cX6_areRight 6 = .ok (.ifCond .eq 37, 3) := by decide +kernel
theorem dX6_areRight_9 : decode cX6_areRight 9 = .ok (.iload_n 1, 1) := by decide +kernel
theorem dX6_areRight_10 : decode cX6_areRight 10 = .ok (.iconst 1, 1) := by decide +kernel
theorem dX6_areRight_11 : decode cX6_areRight 11 = .ok (.bipush 99, 2) := by decide +kernel
theorem dX6_areRight_13 : decode cX6_areRight 13 = .ok (.invokestatic 42, 3) := by decide +kernel
theorem dX6_areRight_16 : decode cX6_areRight 16 = .ok (.ifCond .eq 27, 3) := by decide +kernel
theorem dX6_areRight_19 : decode cX6_areRight 19 = .ok (.iload_n 2, 1) := by decide +kernel
theorem dX6_areRight_20 : decode cX6_areRight 20 = .ok (.iconst 1, 1) := by decide +kernel
theorem dX6_areRight_21 : decode cX6_areRight 21 = .ok (.bipush 20, 2) := by decide +kernel
theorem dX6_areRight_23 : decode cX6_areRight 23 = .ok (.invokestatic 42, 3) := by decide +kernel
theorem dX6_areRight_26 : decode cX6_areRight 26 = .ok (.ifCond .eq 17, 3) := by decide +kernel
theorem dX6_areRight_29 : decode cX6_areRight 29 = .ok (.iload_n 3, 1) := by decide +kernel
theorem dX6_areRight_30 : decode cX6_areRight 30 = .ok (.iconst 0, 1) := by decide +kernel
theorem dX6_areRight_31 : decode cX6_areRight 31 = .ok (.bipush 9, 2) := by decide +kernel
theorem dX6_areRight_33 : decode cX6_areRight 33 = .ok (.invokestatic 42, 3) := by decide +kernel
theorem dX6_areRight_36 : decode cX6_areRight 36 = .ok (.ifCond .eq 7, 3) := by decide +kernel
theorem dX6_areRight_39 : decode cX6_areRight 39 = .ok (.iconst 1, 1) := by decide +kernel
theorem dX6_areRight_40 : decode cX6_areRight 40 = .ok (.goto 4, 3) := by decide +kernel
theorem dX6_areRight_43 : decode cX6_areRight 43 = .ok (.iconst 0, 1) := by decide +kernel
theorem dX6_areRight_44 : decode cX6_areRight 44 = .ok (.ireturn, 1) := by decide +kernel
theorem dX6_isKept_0 : decode cX6_isKept 0 = .ok (.iconst 0, 1) := by decide +kernel
theorem dX6_isKept_1 : decode cX6_isKept 1 = .ok (.istore_n 2, 1) := by decide +kernel
theorem dX6_isKept_2 : decode cX6_isKept 2 = .ok (.iconst 0, 1) := by decide +kernel
theorem dX6_isKept_3 : decode cX6_isKept 3 = .ok (.istore_n 3, 1) := by decide +kernel
theorem dX6_isKept_4 : decode cX6_isKept 4 = .ok (.iload_n 3, 1) := by decide +kernel
theorem dX6_isKept_5 : decode cX6_isKept 5 = .ok (.bipush 12, 2) := by decide +kernel
theorem dX6_isKept_7 : decode cX6_isKept 7 = .ok (.if_icmp .ge 37, 3) := by decide +kernel
theorem dX6_isKept_10 : decode cX6_isKept 10 = .ok (.iload_n 2, 1) := by decide +kernel
theorem dX6_isKept_11 : decode cX6_isKept 11 = .ok (.ifCond .ne 21, 3) := by decide +kernel
theorem dX6_isKept_14 : decode cX6_isKept 14 = .ok (.aload_n 0, 1) := by decide +kernel
theorem dX6_isKept_15 : decode cX6_isKept 15 = .ok (.iload_n 3, 1) := by decide +kernel
theorem dX6_isKept_16 : decode cX6_isKept 16 = .ok (.invokevirtual 67, 3) := by decide +kernel
theorem dX6_isKept_19 : decode cX6_isKept 19 = .ok (.ifCond .ne 17, 3) := by decide +kernel
theorem dX6_isKept_22 : decode cX6_isKept 22 = .ok (.aload_n 0, 1) := by decide +kernel
theorem dX6_isKept_23 : decode cX6_isKept 23 = .ok (.iload_n 3, 1) := by decide +kernel
theorem dX6_isKept_24 : decode cX6_isKept 24 = .ok (.iconst 0, 1) := by decide +kernel
theorem dX6_isKept_25 : decode cX6_isKept 25 = .ok (.invokevirtual 46, 3) := by decide +kernel
theorem dX6_isKept_28 : decode cX6_isKept 28 = .ok (.iload_n 1, 1) := by decide +kernel
theorem dX6_isKept_29 : decode cX6_isKept 29 = .ok (.if_icmp .ne 7, 3) := by decide +kernel
theorem dX6_isKept_32 : decode cX6_isKept 32 = .ok (.iconst 1, 1) := by decide +kernel
theorem dX6_isKept_33 : decode cX6_isKept 33 = .ok (.goto 4, 3) := by decide +kernel
theorem dX6_isKept_36 : decode cX6_isKept 36 = .ok (.iconst 0, 1) := by decide +kernel
theorem dX6_isKept_37 : decode cX6_isKept 37 = .ok (.istore_n 2, 1) := by decide +kernel
theorem dX6_isKept_38 : decode cX6_isKept 38 = .ok (.iinc 3 1, 3) := by decide +kernel
theorem dX6_isKept_41 : decode cX6_isKept 41 = .ok (.goto (-37), 3) := by decide +kernel
theorem dX6_isKept_44 : decode cX6_isKept 44 = .ok (.iconst 0, 1) := by decide +kernel
theorem dX6_isKept_45 : decode cX6_isKept 45 = .ok (.istore_n 3, 1) := by decide +kernel
theorem dX6_isKept_46 : decode cX6_isKept 46 = .ok (.iload_n 3, 1) := by decide +kernel
theorem dX6_isKept_47 : decode cX6_isKept 47 = .ok (.aload_n 0, 1) := by decide +kernel
theorem dX6_isKept_48 : decode cX6_isKept 48 = .ok (.getfield 7, 3) := by decide +kernel
theorem dX6_isKept_51 : decode cX6_isKept 51 = .ok (.bipush 82, 2) := by decide +kernel
theorem dX6_isKept_53 : decode cX6_isKept 53 = .ok (.iaload, 1) := by decide +kernel
theorem dX6_isKept_54 : decode cX6_isKept 54 = .ok (.if_icmp .ge 48, 3) := by decide +kernel
theorem dX6_isKept_57 : decode cX6_isKept 57 = .ok (.iload_n 2, 1) := by decide +kernel
theorem dX6_isKept_58 : decode cX6_isKept 58 = .ok (.ifCond .ne 32, 3) := by decide +kernel
theorem dX6_isKept_61 : decode cX6_isKept 61 = .ok (.aload_n 0, 1) := by decide +kernel
theorem dX6_isKept_62 : decode cX6_isKept 62 = .ok (.iload_n 3, 1) := by decide +kernel
theorem dX6_isKept_63 : decode cX6_isKept 63 = .ok (.iconst 0, 1) := by decide +kernel
theorem dX6_isKept_64 : decode cX6_isKept 64 = .ok (.invokevirtual 57, 3) := by decide +kernel
theorem dX6_isKept_67 : decode cX6_isKept 67 = .ok (.iconst 2, 1) := by decide +kernel
theorem dX6_isKept_68 : decode cX6_isKept 68 = .ok (.if_icmp .ne 26, 3) := by decide +kernel
theorem dX6_isKept_71 : decode cX6_isKept 71 = .ok (.aload_n 0, 1) := by decide +kernel
theorem dX6_isKept_72 : decode cX6_isKept 72 = .ok (.iload_n 3, 1) := by decide +kernel
theorem dX6_isKept_73 : decode cX6_isKept 73 = .ok (.iconst 1, 1) := by decide +kernel
theorem dX6_isKept_74 : decode cX6_isKept 74 = .ok (.invokevirtual 57, 3) := by decide +kernel
theorem dX6_isKept_77 : decode cX6_isKept 77 = .ok (.iload_n 1, 1) := by decide +kernel
theorem dX6_isKept_78 : decode cX6_isKept 78 = .ok (.if_icmp .ne 16, 3) := by decide +kernel
theorem dX6_isKept_81 : decode cX6_isKept 81 = .ok (.aload_n 0, 1) := by decide +kernel
theorem dX6_isKept_82 : decode cX6_isKept 82 = .ok (.iload_n 3, 1) := by decide +kernel
theorem dX6_isKept_83 : decode cX6_isKept 83 = .ok (.iconst 4, 1) := by decide +kernel
theorem dX6_isKept_84 : decode cX6_isKept 84 = .ok (.invokevirtual 57, 3) := by decide +kernel
theorem dX6_isKept_87 : decode cX6_isKept 87 = .ok (.ifCond .ne 7, 3) := by decide +kernel
theorem dX6_isKept_90 : decode cX6_isKept 90 = .ok (.iconst 1, 1) := by decide +kernel
theorem dX6_isKept_91 : decode cX6_isKept 91 = .ok (.goto 4, 3) := by decide +kernel
theorem dX6_isKept_94 : decode cX6_isKept 94 = .ok (.iconst 0, 1) := by decide +kernel
theorem dX6_isKept_95 : decode cX6_isKept 95 = .ok (.istore_n 2, 1) := by decide +kernel
theorem dX6_isKept_96 : decode cX6_isKept 96 = .ok (.iinc 3 1, 3) := by decide +kernel
theorem dX6_isKept_99 : decode cX6_isKept 99 = .ok (.goto (-53), 3) := by decide +kernel
theorem dX6_isKept_102 : decode cX6_isKept 102 = .ok (.iload_n 2, 1) := by decide +kernel
theorem dX6_isKept_103 : decode cX6_isKept 103 = .ok (.ireturn, 1) := by decide +kernel
theorem dX6_canSubmit_0 : decode cX6_canSubmit 0 = .ok (.aload_n 0, 1) := by decide +kernel
theorem dX6_canSubmit_1 : decode cX6_canSubmit 1 = .ok (.getfield 7, 3) := by decide +kernel
theorem dX6_canSubmit_4 : decode cX6_canSubmit 4 = .ok (.bipush 82, 2) := by decide +kernel
theorem dX6_canSubmit_6 : decode cX6_canSubmit 6 = .ok (.iaload, 1) := by decide +kernel
theorem dX6_canSubmit_7 : decode cX6_canSubmit 7 = .ok (.bipush 12, 2) := by decide +kernel
theorem dX6_canSubmit_9 : decode cX6_canSubmit 9 = .ok (.if_icmp .ge 20, 3) := by decide +kernel
theorem dX6_canSubmit_12 : decode cX6_canSubmit 12 = .ok (.iload_n 1, 1) := by decide +kernel
theorem dX6_canSubmit_13 : decode cX6_canSubmit 13 = .ok (.iconst 2, 1) := by decide +kernel
theorem dX6_canSubmit_14 : decode cX6_canSubmit 14 = .ok (.if_icmp .ne 11, 3) := by decide +kernel
theorem dX6_canSubmit_17 : decode cX6_canSubmit 17 = .ok (.aload_n 0, 1) := by decide +kernel
theorem dX6_canSubmit_18 : decode cX6_canSubmit 18 = .ok (.iload_n 2, 1) := by decide +kernel
theorem dX6_canSubmit_19 : decode cX6_canSubmit 19 = .ok (.invokevirtual 109, 3) := by decide +kernel
theorem dX6_canSubmit_22 : decode cX6_canSubmit 22 = .ok (.ifCond .ne 7, 3) := by decide +kernel
theorem dX6_canSubmit_25 : decode cX6_canSubmit 25 = .ok (.iconst 1, 1) := by decide +kernel
theorem dX6_canSubmit_26 : decode cX6_canSubmit 26 = .ok (.goto 4, 3) := by decide +kernel
theorem dX6_canSubmit_29 : decode cX6_canSubmit 29 = .ok (.iconst 0, 1) := by decide +kernel
theorem dX6_canSubmit_30 : decode cX6_canSubmit 30 = .ok (.ireturn, 1) := by decide +kernel
theorem dX6_submitNow_0 : decode cX6_submitNow 0 = .ok (.aload_n 0, 1) := by decide +kernel
theorem dX6_submitNow_1 : decode cX6_submitNow 1 = .ok (.getfield 7, 3) := by decide +kernel
theorem dX6_submitNow_4 : decode cX6_submitNow 4 = .ok (.bipush 82, 2) := by decide +kernel
theorem dX6_submitNow_6 : decode cX6_submitNow 6 = .ok (.iaload, 1) := by decide +kernel
theorem dX6_submitNow_7 : decode cX6_submitNow 7 = .ok (.istore 5, 2) := by decide +kernel
theorem dX6_submitNow_9 : decode cX6_submitNow 9 = .ok (.aload_n 0, 1) := by decide +kernel
theorem dX6_submitNow_10 : decode cX6_submitNow 10 = .ok (.iload 5, 2) := by decide +kernel
theorem dX6_submitNow_12 : decode cX6_submitNow 12 = .ok (.iconst 0, 1) := by decide +kernel
theorem dX6_submitNow_13 : decode cX6_submitNow 13 = .ok (.iload_n 1, 1) := by decide +kernel
theorem dX6_submitNow_14 : decode cX6_submitNow 14 = .ok (.invokevirtual 73, 3) := by decide +kernel
theorem dX6_submitNow_17 : decode cX6_submitNow 17 = .ok (.aload_n 0, 1) := by decide +kernel
theorem dX6_submitNow_18 : decode cX6_submitNow 18 = .ok (.iload 5, 2) := by decide +kernel
theorem dX6_submitNow_20 : decode cX6_submitNow 20 = .ok (.iconst 1, 1) := by decide +kernel
theorem dX6_submitNow_21 : decode cX6_submitNow 21 = .ok (.iload_n 2, 1) := by decide +kernel
theorem dX6_submitNow_22 : decode cX6_submitNow 22 = .ok (.invokevirtual 73, 3) := by decide +kernel
theorem dX6_submitNow_25 : decode cX6_submitNow 25 = .ok (.aload_n 0, 1) := by decide +kernel
theorem dX6_submitNow_26 : decode cX6_submitNow 26 = .ok (.iload 5, 2) := by decide +kernel
theorem dX6_submitNow_28 : decode cX6_submitNow 28 = .ok (.iconst 2, 1) := by decide +kernel
theorem dX6_submitNow_29 : decode cX6_submitNow 29 = .ok (.iload_n 3, 1) := by decide +kernel
theorem dX6_submitNow_30 : decode cX6_submitNow 30 = .ok (.invokevirtual 73, 3) := by decide +kernel
theorem dX6_submitNow_33 : decode cX6_submitNow 33 = .ok (.aload_n 0, 1) := by decide +kernel
theorem dX6_submitNow_34 : decode cX6_submitNow 34 = .ok (.iload 5, 2) := by decide +kernel
theorem dX6_submitNow_36 : decode cX6_submitNow 36 = .ok (.iconst 3, 1) := by decide +kernel
theorem dX6_submitNow_37 : decode cX6_submitNow 37 = .ok (.iload 4, 2) := by decide +kernel
theorem dX6_submitNow_39 : decode cX6_submitNow 39 = .ok (.invokevirtual 73, 3) := by decide +kernel
theorem dX6_submitNow_42 : decode cX6_submitNow 42 = .ok (.aload_n 0, 1) := by decide +kernel
theorem dX6_submitNow_43 : decode cX6_submitNow 43 = .ok (.iload 5, 2) := by decide +kernel
theorem dX6_submitNow_45 : decode cX6_submitNow 45 = .ok (.iconst 4, 1) := by decide +kernel
theorem dX6_submitNow_46 : decode cX6_submitNow 46 = .ok (.iconst 0, 1) := by decide +kernel
theorem dX6_submitNow_47 : decode cX6_submitNow 47 = .ok (.invokevirtual 73, 3) := by decide +kernel
theorem dX6_submitNow_50 : decode cX6_submitNow 50 = .ok (.aload_n 0, 1) := by decide +kernel
theorem dX6_submitNow_51 : decode cX6_submitNow 51 = .ok (.iload 5, 2) := by decide +kernel
theorem dX6_submitNow_53 : decode cX6_submitNow 53 = .ok (.iconst 5, 1) := by decide +kernel
theorem dX6_submitNow_54 : decode cX6_submitNow 54 = .ok (.iconst 0, 1) := by decide +kernel
theorem dX6_submitNow_55 : decode cX6_submitNow 55 = .ok (.invokevirtual 73, 3) := by decide +kernel
theorem dX6_submitNow_58 : decode cX6_submitNow 58 = .ok (.aload_n 0, 1) := by decide +kernel
theorem dX6_submitNow_59 : decode cX6_submitNow 59 = .ok (.iload 5, 2) := by decide +kernel
theorem dX6_submitNow_61 : decode cX6_submitNow 61 = .ok (.bipush 6, 2) := by decide +kernel
theorem dX6_submitNow_63 : decode cX6_submitNow 63 = .ok (.iconst (-1), 1) := by decide +kernel
theorem dX6_submitNow_64 : decode cX6_submitNow 64 = .ok (.invokevirtual 73, 3) := by decide +kernel
theorem dX6_submitNow_67 : decode cX6_submitNow 67 = .ok (.aload_n 0, 1) := by decide +kernel
theorem dX6_submitNow_68 : decode cX6_submitNow 68 = .ok (.iload 5, 2) := by decide +kernel
theorem dX6_submitNow_70 : decode cX6_submitNow 70 = .ok (.bipush 7, 2) := by decide +kernel
theorem dX6_submitNow_72 : decode cX6_submitNow 72 = .ok (.iconst 0, 1) := by decide +kernel
theorem dX6_submitNow_73 : decode cX6_submitNow 73 = .ok (.invokevirtual 73, 3) := by decide +kernel
theorem dX6_submitNow_76 : decode cX6_submitNow 76 = .ok (.aload_n 0, 1) := by decide +kernel
theorem dX6_submitNow_77 : decode cX6_submitNow 77 = .ok (.getfield 7, 3) := by decide +kernel
theorem dX6_submitNow_80 : decode cX6_submitNow 80 = .ok (.bipush 82, 2) := by decide +kernel
theorem dX6_submitNow_82 : decode cX6_submitNow 82 = .ok (.dup2, 1) := by decide +kernel
theorem dX6_submitNow_83 : decode cX6_submitNow 83 = .ok (.iaload, 1) := by decide +kernel
theorem dX6_submitNow_84 : decode cX6_submitNow 84 = .ok (.iconst 1, 1) := by decide +kernel
theorem dX6_submitNow_85 : decode cX6_submitNow 85 = .ok (.iadd, 1) := by decide +kernel
theorem dX6_submitNow_86 : decode cX6_submitNow 86 = .ok (.iastore, 1) := by decide +kernel
theorem dX6_submitNow_87 : decode cX6_submitNow 87 = .ok (.iload 5, 2) := by decide +kernel
theorem dX6_submitNow_89 : decode cX6_submitNow 89 = .ok (.ireturn, 1) := by decide +kernel
theorem dX6_submit_0 : decode cX6_submit 0 = .ok (.aload_n 0, 1) := by decide +kernel
theorem dX6_submit_1 : decode cX6_submit 1 = .ok (.iconst 0, 1) := by decide +kernel
theorem dX6_submit_2 : decode cX6_submit 2 = .ok (.putfield 38, 3) := by decide +kernel
theorem dX6_submit_5 : decode cX6_submit 5 = .ok (.iload_n 1, 1) := by decide +kernel
theorem dX6_submit_6 : decode cX6_submit 6 = .ok (.iload_n 2, 1) := by decide +kernel
theorem dX6_submit_7 : decode cX6_submit 7 = .ok (.iload_n 3, 1) := by decide +kernel
theorem dX6_submit_8 : decode cX6_submit 8 = .ok (.iload 4, 2) := by decide +kernel
theorem dX6_submit_10 : decode cX6_submit 10 = .ok (.invokestatic 112, 3) := by decide +kernel
theorem dX6_submit_13 : decode cX6_submit 13 = .ok (.ifCond .ne 9, 3) := by decide +kernel
theorem dX6_submit_16 : decode cX6_submit 16 = .ok (.aload_n 0, 1) := by decide +kernel
theorem dX6_submit_17 : decode cX6_submit 17 = .ok (.iconst 1, 1) := by decide +kernel
theorem dX6_submit_18 : decode cX6_submit 18 = .ok (.invokevirtual 53, 3) := by decide +kernel
theorem dX6_submit_21 : decode cX6_submit 21 = .ok (.ireturn, 1) := by decide +kernel
theorem dX6_submit_22 : decode cX6_submit 22 = .ok (.aload_n 0, 1) := by decide +kernel
theorem dX6_submit_23 : decode cX6_submit 23 = .ok (.iload_n 1, 1) := by decide +kernel
theorem dX6_submit_24 : decode cX6_submit 24 = .ok (.iload_n 2, 1) := by decide +kernel
theorem dX6_submit_25 : decode cX6_submit 25 = .ok (.invokevirtual 116, 3) := by decide +kernel
theorem dX6_submit_28 : decode cX6_submit 28 = .ok (.ifCond .ne 9, 3) := by decide +kernel
theorem dX6_submit_31 : decode cX6_submit 31 = .ok (.aload_n 0, 1) := by decide +kernel
theorem dX6_submit_32 : decode cX6_submit 32 = .ok (.iconst 2, 1) := by decide +kernel
theorem dX6_submit_33 : decode cX6_submit 33 = .ok (.invokevirtual 53, 3) := by decide +kernel
theorem dX6_submit_36 : decode cX6_submit 36 = .ok (.ireturn, 1) := by decide +kernel
theorem dX6_submit_37 : decode cX6_submit 37 = .ok (.aload_n 0, 1) := by decide +kernel
theorem dX6_submit_38 : decode cX6_submit 38 = .ok (.invokevirtual 120, 3) := by decide +kernel
theorem dX6_submit_41 : decode cX6_submit 41 = .ok (.aload_n 0, 1) := by decide +kernel
theorem dX6_submit_42 : decode cX6_submit 42 = .ok (.iload_n 1, 1) := by decide +kernel
theorem dX6_submit_43 : decode cX6_submit 43 = .ok (.iload_n 2, 1) := by decide +kernel
theorem dX6_submit_44 : decode cX6_submit 44 = .ok (.iload_n 3, 1) := by decide +kernel
theorem dX6_submit_45 : decode cX6_submit 45 = .ok (.iload 4, 2) := by decide +kernel
theorem dX6_submit_47 : decode cX6_submit 47 = .ok (.invokevirtual 123, 3) := by decide +kernel
theorem dX6_submit_50 : decode cX6_submit 50 = .ok (.ireturn, 1) := by decide +kernel
theorem dX6_cancel_0 : decode cX6_cancel 0 = .ok (.aload_n 0, 1) := by decide +kernel
theorem dX6_cancel_1 : decode cX6_cancel 1 = .ok (.iconst 0, 1) := by decide +kernel
theorem dX6_cancel_2 : decode cX6_cancel 2 = .ok (.putfield 38, 3) := by decide +kernel
theorem dX6_cancel_5 : decode cX6_cancel 5 = .ok (.aload_n 0, 1) := by decide +kernel
theorem dX6_cancel_6 : decode cX6_cancel 6 = .ok (.iload_n 1, 1) := by decide +kernel
theorem dX6_cancel_7 : decode cX6_cancel 7 = .ok (.invokevirtual 127, 3) := by decide +kernel
theorem dX6_cancel_10 : decode cX6_cancel 10 = .ok (.ifCond .ne 9, 3) := by decide +kernel
theorem dX6_cancel_13 : decode cX6_cancel 13 = .ok (.aload_n 0, 1) := by decide +kernel
theorem dX6_cancel_14 : decode cX6_cancel 14 = .ok (.iconst 1, 1) := by decide +kernel
theorem dX6_cancel_15 : decode cX6_cancel 15 = .ok (.invokevirtual 53, 3) := by decide +kernel
theorem dX6_cancel_18 : decode cX6_cancel 18 = .ok (.ireturn, 1) := by decide +kernel
theorem dX6_cancel_19 : decode cX6_cancel 19 = .ok (.aload_n 0, 1) := by decide +kernel
theorem dX6_cancel_20 : decode cX6_cancel 20 = .ok (.iload_n 1, 1) := by decide +kernel
theorem dX6_cancel_21 : decode cX6_cancel 21 = .ok (.iconst 4, 1) := by decide +kernel
theorem dX6_cancel_22 : decode cX6_cancel 22 = .ok (.invokevirtual 57, 3) := by decide +kernel
theorem dX6_cancel_25 : decode cX6_cancel 25 = .ok (.iconst 1, 1) := by decide +kernel
theorem dX6_cancel_26 : decode cX6_cancel 26 = .ok (.if_icmp .le 9, 3) := by decide +kernel
theorem dX6_cancel_29 : decode cX6_cancel 29 = .ok (.aload_n 0, 1) := by decide +kernel
theorem dX6_cancel_30 : decode cX6_cancel 30 = .ok (.iconst 2, 1) := by decide +kernel
theorem dX6_cancel_31 : decode cX6_cancel 31 = .ok (.invokevirtual 53, 3) := by decide +kernel
theorem dX6_cancel_34 : decode cX6_cancel 34 = .ok (.ireturn, 1) := by decide +kernel
theorem dX6_cancel_35 : decode cX6_cancel 35 = .ok (.aload_n 0, 1) := by decide +kernel
theorem dX6_cancel_36 : decode cX6_cancel 36 = .ok (.invokevirtual 120, 3) := by decide +kernel
theorem dX6_cancel_39 : decode cX6_cancel 39 = .ok (.aload_n 0, 1) := by decide +kernel
theorem dX6_cancel_40 : decode cX6_cancel 40 = .ok (.iload_n 1, 1) := by decide +kernel
theorem dX6_cancel_41 : decode cX6_cancel 41 = .ok (.iconst 4, 1) := by decide +kernel
theorem dX6_cancel_42 : decode cX6_cancel 42 = .ok (.invokevirtual 57, 3) := by decide +kernel
theorem dX6_cancel_45 : decode cX6_cancel 45 = .ok (.iconst 1, 1) := by decide +kernel
theorem dX6_cancel_46 : decode cX6_cancel 46 = .ok (.if_icmp .ne 8, 3) := by decide +kernel
theorem dX6_cancel_49 : decode cX6_cancel 49 = .ok (.aload_n 0, 1) := by decide +kernel
theorem dX6_cancel_50 : decode cX6_cancel 50 = .ok (.iload_n 1, 1) := by decide +kernel
theorem dX6_cancel_51 : decode cX6_cancel 51 = .ok (.invokevirtual 91, 3) := by decide +kernel
theorem dX6_cancel_54 : decode cX6_cancel 54 = .ok (.aload_n 0, 1) := by decide +kernel
theorem dX6_cancel_55 : decode cX6_cancel 55 = .ok (.iload_n 1, 1) := by decide +kernel
theorem dX6_cancel_56 : decode cX6_cancel 56 = .ok (.iconst 4, 1) := by decide +kernel
theorem dX6_cancel_57 : decode cX6_cancel 57 = .ok (.iconst 3, 1) := by decide +kernel
theorem dX6_cancel_58 : decode cX6_cancel 58 = .ok (.invokevirtual 73, 3) := by decide +kernel
theorem dX6_cancel_61 : decode cX6_cancel 61 = .ok (.aload_n 0, 1) := by decide +kernel
theorem dX6_cancel_62 : decode cX6_cancel 62 = .ok (.iload_n 1, 1) := by decide +kernel
theorem dX6_cancel_63 : decode cX6_cancel 63 = .ok (.iconst 5, 1) := by decide +kernel
theorem dX6_cancel_64 : decode cX6_cancel 64 = .ok (.invokevirtual 57, 3) := by decide +kernel
theorem dX6_cancel_67 : decode cX6_cancel 67 = .ok (.ireturn, 1) := by decide +kernel
theorem dX6_setSticker_0 : decode cX6_setSticker 0 = .ok (.aload_n 0, 1) := by decide +kernel
theorem dX6_setSticker_1 : decode cX6_setSticker 1 = .ok (.iconst 0, 1) := by decide +kernel
theorem dX6_setSticker_2 : decode cX6_setSticker 2 = .ok (.putfield 38, 3) := by decide +kernel
theorem dX6_setSticker_5 : decode cX6_setSticker 5 = .ok (.iload_n 1, 1) := by decide +kernel
theorem dX6_setSticker_6 : decode cX6_setSticker 6 = .ok (.invokestatic 130, 3) := by decide +kernel
theorem dX6_setSticker_9 : decode cX6_setSticker 9 = .ok (.ifCond .ne 9, 3) := by decide +kernel
theorem dX6_setSticker_12 : decode cX6_setSticker 12 = .ok (.aload_n 0, 1) := by decide +kernel
theorem dX6_setSticker_13 : decode cX6_setSticker 13 = .ok (.iconst 1, 1) := by decide +kernel
theorem dX6_setSticker_14 : decode cX6_setSticker 14 = .ok (.invokevirtual 53, 3) := by decide +kernel
theorem dX6_setSticker_17 : decode cX6_setSticker 17 = .ok (.ireturn, 1) := by decide +kernel
theorem dX6_setSticker_18 : decode cX6_setSticker 18 = .ok (.iload_n 2, 1) := by decide +kernel
theorem dX6_setSticker_19 : decode cX6_setSticker 19 = .ok (.iconst 0, 1) := by decide +kernel
theorem dX6_setSticker_20 : decode cX6_setSticker 20 = .ok (.bipush 99, 2) := by decide +kernel
theorem dX6_setSticker_22 : decode cX6_setSticker 22 = .ok (.invokestatic 42, 3) := by decide +kernel
theorem dX6_setSticker_25 : decode cX6_setSticker 25 = .ok (.ifCond .ne 9, 3) := by decide +kernel
theorem dX6_setSticker_28 : decode cX6_setSticker 28 = .ok (.aload_n 0, 1) := by decide +kernel
theorem dX6_setSticker_29 : decode cX6_setSticker 29 = .ok (.iconst 2, 1) := by decide +kernel
theorem dX6_setSticker_30 : decode cX6_setSticker 30 = .ok (.invokevirtual 53, 3) := by decide +kernel
theorem dX6_setSticker_33 : decode cX6_setSticker 33 = .ok (.ireturn, 1) := by decide +kernel
theorem dX6_setSticker_34 : decode cX6_setSticker 34 = .ok (.aload_n 0, 1) := by decide +kernel
theorem dX6_setSticker_35 : decode cX6_setSticker 35 = .ok (.invokevirtual 120, 3) := by decide +kernel
theorem dX6_setSticker_38 : decode cX6_setSticker 38 = .ok (.aload_n 0, 1) := by decide +kernel
theorem dX6_setSticker_39 : decode cX6_setSticker 39 = .ok (.iload_n 1, 1) := by decide +kernel
theorem dX6_setSticker_40 : decode cX6_setSticker 40 = .ok (.iconst 1, 1) := by decide +kernel
theorem dX6_setSticker_41 : decode cX6_setSticker 41 = .ok (.invokevirtual 46, 3) := by decide +kernel
theorem dX6_setSticker_44 : decode cX6_setSticker 44 = .ok (.istore_n 3, 1) := by decide +kernel
theorem dX6_setSticker_45 : decode cX6_setSticker 45 = .ok (.aload_n 0, 1) := by decide +kernel
theorem dX6_setSticker_46 : decode cX6_setSticker 46 = .ok (.iload_n 1, 1) := by decide +kernel
theorem dX6_setSticker_47 : decode cX6_setSticker 47 = .ok (.iconst 1, 1) := by decide +kernel
theorem dX6_setSticker_48 : decode cX6_setSticker 48 = .ok (.iload_n 2, 1) := by decide +kernel
theorem dX6_setSticker_49 : decode cX6_setSticker 49 = .ok (.invokevirtual 34, 3) := by decide +kernel
theorem dX6_setSticker_52 : decode cX6_setSticker 52 = .ok (.iload_n 3, 1) := by decide +kernel
theorem dX6_setSticker_53 : decode cX6_setSticker 53 = .ok (.ireturn, 1) := by decide +kernel
theorem dX6_setRing_0 : decode cX6_setRing 0 = .ok (.aload_n 0, 1) := by decide +kernel
theorem dX6_setRing_1 : decode cX6_setRing 1 = .ok (.iload_n 1, 1) := by decide +kernel
theorem dX6_setRing_2 : decode cX6_setRing 2 = .ok (.invokestatic 130, 3) := by decide +kernel
theorem dX6_setRing_5 : decode cX6_setRing 5 = .ok (.ifCond .eq 19, 3) := by decide +kernel
theorem dX6_setRing_8 : decode cX6_setRing 8 = .ok (.aload_n 0, 1) := by decide +kernel
theorem dX6_setRing_9 : decode cX6_setRing 9 = .ok (.iload_n 1, 1) := by decide +kernel
theorem dX6_setRing_10 : decode cX6_setRing 10 = .ok (.invokevirtual 60, 3) := by decide +kernel
theorem dX6_setRing_13 : decode cX6_setRing 13 = .ok (.ifCond .eq 7, 3) := by decide +kernel
theorem dX6_setRing_16 : decode cX6_setRing 16 = .ok (.iconst 0, 1) := by decide +kernel
theorem dX6_setRing_17 : decode cX6_setRing 17 = .ok (.goto 8, 3) := by decide +kernel
theorem dX6_setRing_20 : decode cX6_setRing 20 = .ok (.iconst 2, 1) := by decide +kernel
theorem dX6_setRing_21 : decode cX6_setRing 21 = .ok (.goto 4, 3) := by decide +kernel
theorem dX6_setRing_24 : decode cX6_setRing 24 = .ok (.iconst 1, 1) := by decide +kernel
theorem dX6_setRing_25 : decode cX6_setRing 25 = .ok (.putfield 38, 3) := by decide +kernel
theorem dX6_setRing_28 : decode cX6_setRing 28 = .ok (.aload_n 0, 1) := by decide +kernel
theorem dX6_setRing_29 : decode cX6_setRing 29 = .ok (.getfield 38, 3) := by decide +kernel
theorem dX6_setRing_32 : decode cX6_setRing 32 = .ok (.ifCond .le 5, 3) := by decide +kernel
theorem dX6_setRing_35 : decode cX6_setRing 35 = .ok (.iconst 0, 1) := by decide +kernel
theorem dX6_setRing_36 : decode cX6_setRing 36 = .ok (.ireturn, 1) := by decide +kernel
theorem dX6_setRing_37 : decode cX6_setRing 37 = .ok (.aload_n 0, 1) := by decide +kernel
theorem dX6_setRing_38 : decode cX6_setRing 38 = .ok (.invokevirtual 120, 3) := by decide +kernel
theorem dX6_setRing_41 : decode cX6_setRing 41 = .ok (.aload_n 0, 1) := by decide +kernel
theorem dX6_setRing_42 : decode cX6_setRing 42 = .ok (.iload_n 1, 1) := by decide +kernel
theorem dX6_setRing_43 : decode cX6_setRing 43 = .ok (.iconst 2, 1) := by decide +kernel
theorem dX6_setRing_44 : decode cX6_setRing 44 = .ok (.invokevirtual 46, 3) := by decide +kernel
theorem dX6_setRing_47 : decode cX6_setRing 47 = .ok (.iconst 1, 1) := by decide +kernel
theorem dX6_setRing_48 : decode cX6_setRing 48 = .ok (.if_icmp .ne 7, 3) := by decide +kernel
theorem dX6_setRing_51 : decode cX6_setRing 51 = .ok (.iconst 1, 1) := by decide +kernel
theorem dX6_setRing_52 : decode cX6_setRing 52 = .ok (.goto 4, 3) := by decide +kernel
theorem dX6_setRing_55 : decode cX6_setRing 55 = .ok (.iconst 0, 1) := by decide +kernel
theorem dX6_setRing_56 : decode cX6_setRing 56 = .ok (.istore_n 3, 1) := by decide +kernel
theorem dX6_setRing_57 : decode cX6_setRing 57 = .ok (.aload_n 0, 1) := by decide +kernel
theorem dX6_setRing_58 : decode cX6_setRing 58 = .ok (.iload_n 1, 1) := by decide +kernel
theorem dX6_setRing_59 : decode cX6_setRing 59 = .ok (.iconst 2, 1) := by decide +kernel
theorem dX6_setRing_60 : decode cX6_setRing 60 = .ok (.iload_n 2, 1) := by decide +kernel
theorem dX6_setRing_61 : decode cX6_setRing 61 = .ok (.ifCond .eq 7, 3) := by decide +kernel
theorem dX6_setRing_64 : decode cX6_setRing 64 = .ok (.iconst 1, 1) := by decide +kernel
theorem dX6_setRing_65 : decode cX6_setRing 65 = .ok (.goto 4, 3) := by decide +kernel
theorem dX6_setRing_68 : decode cX6_setRing 68 = .ok (.iconst 0, 1) := by decide +kernel
theorem dX6_setRing_69 : decode cX6_setRing 69 = .ok (.invokevirtual 34, 3) := by decide +kernel
theorem dX6_setRing_72 : decode cX6_setRing 72 = .ok (.iload_n 3, 1) := by decide +kernel
theorem dX6_setRing_73 : decode cX6_setRing 73 = .ok (.ireturn, 1) := by decide +kernel
theorem dX6_pass_0 : decode cX6_pass 0 = .ok (.aload_n 0, 1) := by decide +kernel
theorem dX6_pass_1 : decode cX6_pass 1 = .ok (.iconst 0, 1) := by decide +kernel
theorem dX6_pass_2 : decode cX6_pass 2 = .ok (.putfield 38, 3) := by decide +kernel
theorem dX6_pass_5 : decode cX6_pass 5 = .ok (.iload_n 1, 1) := by decide +kernel
theorem dX6_pass_6 : decode cX6_pass 6 = .ok (.iconst 1, 1) := by decide +kernel
theorem dX6_pass_7 : decode cX6_pass 7 = .ok (.bipush 99, 2) := by decide +kernel
theorem dX6_pass_9 : decode cX6_pass 9 = .ok (.invokestatic 42, 3) := by decide +kernel
theorem dX6_pass_12 : decode cX6_pass 12 = .ok (.ifCond .ne 9, 3) := by decide +kernel
theorem dX6_pass_15 : decode cX6_pass 15 = .ok (.aload_n 0, 1) := by decide +kernel
theorem dX6_pass_16 : decode cX6_pass 16 = .ok (.iconst 1, 1) := by decide +kernel
theorem dX6_pass_17 : decode cX6_pass 17 = .ok (.invokevirtual 53, 3) := by decide +kernel
theorem dX6_pass_20 : decode cX6_pass 20 = .ok (.ireturn, 1) := by decide +kernel
theorem dX6_pass_21 : decode cX6_pass 21 = .ok (.aload_n 0, 1) := by decide +kernel
theorem dX6_pass_22 : decode cX6_pass 22 = .ok (.invokevirtual 120, 3) := by decide +kernel
theorem dX6_pass_25 : decode cX6_pass 25 = .ok (.aload_n 0, 1) := by decide +kernel
theorem dX6_pass_26 : decode cX6_pass 26 = .ok (.iload_n 1, 1) := by decide +kernel
theorem dX6_pass_27 : decode cX6_pass 27 = .ok (.invokevirtual 133, 3) := by decide +kernel
theorem dX6_pass_30 : decode cX6_pass 30 = .ok (.ireturn, 1) := by decide +kernel
theorem dX6_nextDay_0 : decode cX6_nextDay 0 = .ok (.aload_n 0, 1) := by decide +kernel
theorem dX6_nextDay_1 : decode cX6_nextDay 1 = .ok (.iconst 0, 1) := by decide +kernel
theorem dX6_nextDay_2 : decode cX6_nextDay 2 = .ok (.putfield 38, 3) := by decide +kernel
theorem dX6_nextDay_5 : decode cX6_nextDay 5 = .ok (.aload_n 0, 1) := by decide +kernel
theorem dX6_nextDay_6 : decode cX6_nextDay 6 = .ok (.getfield 7, 3) := by decide +kernel
theorem dX6_nextDay_9 : decode cX6_nextDay 9 = .ok (.iconst 0, 1) := by decide +kernel
theorem dX6_nextDay_10 : decode cX6_nextDay 10 = .ok (.iaload, 1) := by decide +kernel
theorem dX6_nextDay_11 : decode cX6_nextDay 11 = .ok (.sipush 999, 3) := by decide +kernel
theorem dX6_nextDay_14 : decode cX6_nextDay 14 = .ok (.if_icmp .ne 9, 3) := by decide +kernel
theorem dX6_nextDay_17 : decode cX6_nextDay 17 = .ok (.aload_n 0, 1) := by decide +kernel
theorem dX6_nextDay_18 : decode cX6_nextDay 18 = .ok (.iconst 1, 1) := by decide +kernel
theorem dX6_nextDay_19 : decode cX6_nextDay 19 = .ok (.invokevirtual 53, 3) := by decide +kernel
theorem dX6_nextDay_22 : decode cX6_nextDay 22 = .ok (.ireturn, 1) := by decide +kernel
theorem dX6_nextDay_23 : decode cX6_nextDay 23 = .ok (.aload_n 0, 1) := by decide +kernel
theorem dX6_nextDay_24 : decode cX6_nextDay 24 = .ok (.invokevirtual 120, 3) := by decide +kernel
theorem dX6_nextDay_27 : decode cX6_nextDay 27 = .ok (.aload_n 0, 1) := by decide +kernel
theorem dX6_nextDay_28 : decode cX6_nextDay 28 = .ok (.getfield 7, 3) := by decide +kernel
theorem dX6_nextDay_31 : decode cX6_nextDay 31 = .ok (.iconst 0, 1) := by decide +kernel
theorem dX6_nextDay_32 : decode cX6_nextDay 32 = .ok (.dup2, 1) := by decide +kernel
theorem dX6_nextDay_33 : decode cX6_nextDay 33 = .ok (.iaload, 1) := by decide +kernel
theorem dX6_nextDay_34 : decode cX6_nextDay 34 = .ok (.iconst 1, 1) := by decide +kernel
theorem dX6_nextDay_35 : decode cX6_nextDay 35 = .ok (.iadd, 1) := by decide +kernel
theorem dX6_nextDay_36 : decode cX6_nextDay 36 = .ok (.iastore, 1) := by decide +kernel
theorem dX6_nextDay_37 : decode cX6_nextDay 37 = .ok (.aload_n 0, 1) := by decide +kernel
theorem dX6_nextDay_38 : decode cX6_nextDay 38 = .ok (.getfield 7, 3) := by decide +kernel
theorem dX6_nextDay_41 : decode cX6_nextDay 41 = .ok (.iconst 0, 1) := by decide +kernel
theorem dX6_nextDay_42 : decode cX6_nextDay 42 = .ok (.iaload, 1) := by decide +kernel
theorem dX6_nextDay_43 : decode cX6_nextDay 43 = .ok (.ireturn, 1) := by decide +kernel
theorem dX6_set_0 : decode cX6_set 0 = .ok (.aload_n 0, 1) := by decide +kernel
theorem dX6_set_1 : decode cX6_set 1 = .ok (.iconst 0, 1) := by decide +kernel
theorem dX6_set_2 : decode cX6_set 2 = .ok (.putfield 38, 3) := by decide +kernel
theorem dX6_set_5 : decode cX6_set 5 = .ok (.iload_n 1, 1) := by decide +kernel
theorem dX6_set_6 : decode cX6_set 6 = .ok (.iconst 0, 1) := by decide +kernel
theorem dX6_set_7 : decode cX6_set 7 = .ok (.iconst 1, 1) := by decide +kernel
theorem dX6_set_8 : decode cX6_set 8 = .ok (.invokestatic 42, 3) := by decide +kernel
theorem dX6_set_11 : decode cX6_set 11 = .ok (.ifCond .ne 9, 3) := by decide +kernel
theorem dX6_set_14 : decode cX6_set 14 = .ok (.aload_n 0, 1) := by decide +kernel
theorem dX6_set_15 : decode cX6_set 15 = .ok (.iconst 1, 1) := by decide +kernel
theorem dX6_set_16 : decode cX6_set 16 = .ok (.invokevirtual 53, 3) := by decide +kernel
theorem dX6_set_19 : decode cX6_set 19 = .ok (.ireturn, 1) := by decide +kernel
theorem dX6_set_20 : decode cX6_set 20 = .ok (.iload_n 2, 1) := by decide +kernel
theorem dX6_set_21 : decode cX6_set 21 = .ok (.iconst 0, 1) := by decide +kernel
theorem dX6_set_22 : decode cX6_set 22 = .ok (.iload_n 1, 1) := by decide +kernel
theorem dX6_set_23 : decode cX6_set 23 = .ok (.ifCond .ne 8, 3) := by decide +kernel
theorem dX6_set_26 : decode cX6_set 26 = .ok (.bipush 9, 2) := by decide +kernel
theorem dX6_set_28 : decode cX6_set 28 = .ok (.goto 5, 3) := by decide +kernel
theorem dX6_set_31 : decode cX6_set 31 = .ok (.bipush 99, 2) := by decide +kernel
theorem dX6_set_33 : decode cX6_set 33 = .ok (.invokestatic 42, 3) := by decide +kernel
theorem dX6_set_36 : decode cX6_set 36 = .ok (.ifCond .ne 9, 3) := by decide +kernel
theorem dX6_set_39 : decode cX6_set 39 = .ok (.aload_n 0, 1) := by decide +kernel
theorem dX6_set_40 : decode cX6_set 40 = .ok (.iconst 2, 1) := by decide +kernel
theorem dX6_set_41 : decode cX6_set 41 = .ok (.invokevirtual 53, 3) := by decide +kernel
theorem dX6_set_44 : decode cX6_set 44 = .ok (.ireturn, 1) := by decide +kernel
theorem dX6_set_45 : decode cX6_set 45 = .ok (.aload_n 0, 1) := by decide +kernel
theorem dX6_set_46 : decode cX6_set 46 = .ok (.invokevirtual 120, 3) := by decide +kernel
theorem dX6_set_49 : decode cX6_set 49 = .ok (.aload_n 0, 1) := by decide +kernel
theorem dX6_set_50 : decode cX6_set 50 = .ok (.getfield 7, 3) := by decide +kernel
theorem dX6_set_53 : decode cX6_set 53 = .ok (.bipush 8, 2) := by decide +kernel
theorem dX6_set_55 : decode cX6_set 55 = .ok (.iload_n 1, 1) := by decide +kernel
theorem dX6_set_56 : decode cX6_set 56 = .ok (.iadd, 1) := by decide +kernel
theorem dX6_set_57 : decode cX6_set 57 = .ok (.iaload, 1) := by decide +kernel
theorem dX6_set_58 : decode cX6_set 58 = .ok (.istore_n 3, 1) := by decide +kernel
theorem dX6_set_59 : decode cX6_set 59 = .ok (.aload_n 0, 1) := by decide +kernel
theorem dX6_set_60 : decode cX6_set 60 = .ok (.getfield 7, 3) := by decide +kernel
theorem dX6_set_63 : decode cX6_set 63 = .ok (.bipush 8, 2) := by decide +kernel
theorem dX6_set_65 : decode cX6_set 65 = .ok (.iload_n 1, 1) := by decide +kernel
theorem dX6_set_66 : decode cX6_set 66 = .ok (.iadd, 1) := by decide +kernel
theorem dX6_set_67 : decode cX6_set 67 = .ok (.iload_n 2, 1) := by decide +kernel
theorem dX6_set_68 : decode cX6_set 68 = .ok (.iastore, 1) := by decide +kernel
theorem dX6_set_69 : decode cX6_set 69 = .ok (.iload_n 3, 1) := by decide +kernel
theorem dX6_set_70 : decode cX6_set 70 = .ok (.ireturn, 1) := by decide +kernel
theorem dX6_appendText_0 : decode cX6_appendText 0 = .ok (.aload_n 0, 1) := by decide +kernel
theorem dX6_appendText_1 : decode cX6_appendText 1 = .ok (.iconst 0, 1) := by decide +kernel
theorem dX6_appendText_2 : decode cX6_appendText 2 = .ok (.putfield 38, 3) := by decide +kernel
theorem dX6_appendText_5 : decode cX6_appendText 5 = .ok (.iload_n 1, 1) := by decide +kernel
theorem dX6_appendText_6 : decode cX6_appendText 6 = .ok (.bipush 32, 2) := by decide +kernel
theorem dX6_appendText_8 : decode cX6_appendText 8 = .ok (.bipush 126, 2) := by decide +kernel
theorem dX6_appendText_10 : decode cX6_appendText 10 = .ok (.invokestatic 42, 3) := by decide +kernel
theorem dX6_appendText_13 : decode cX6_appendText 13 = .ok (.ifCond .ne 9, 3) := by decide +kernel
theorem dX6_appendText_16 : decode cX6_appendText 16 = .ok (.aload_n 0, 1) := by decide +kernel
theorem dX6_appendText_17 : decode cX6_appendText 17 = .ok (.iconst 1, 1) := by decide +kernel
theorem dX6_appendText_18 : decode cX6_appendText 18 = .ok (.invokevirtual 53, 3) := by decide +kernel
theorem dX6_appendText_21 : decode cX6_appendText 21 = .ok (.ireturn, 1) := by decide +kernel
theorem dX6_appendText_22 : decode cX6_appendText 22 = .ok (.aload_n 0, 1) := by decide +kernel
theorem dX6_appendText_23 : decode cX6_appendText 23 = .ok (.getfield 136, 3) := by decide +kernel
theorem dX6_appendText_26 : decode cX6_appendText 26 = .ok (.bipush 80, 2) := by decide +kernel
theorem dX6_appendText_28 : decode cX6_appendText 28 = .ok (.if_icmp .ne 9, 3) := by decide +kernel
theorem dX6_appendText_31 : decode cX6_appendText 31 = .ok (.aload_n 0, 1) := by decide +kernel
theorem dX6_appendText_32 : decode cX6_appendText 32 = .ok (.iconst 2, 1) := by decide +kernel
theorem dX6_appendText_33 : decode cX6_appendText 33 = .ok (.invokevirtual 53, 3) := by decide +kernel
theorem dX6_appendText_36 : decode cX6_appendText 36 = .ok (.ireturn, 1) := by decide +kernel
theorem dX6_appendText_37 : decode cX6_appendText 37 = .ok (.aload_n 0, 1) := by decide +kernel
theorem dX6_appendText_38 : decode cX6_appendText 38 = .ok (.getfield 19, 3) := by decide +kernel
theorem dX6_appendText_41 : decode cX6_appendText 41 = .ok (.aload_n 0, 1) := by decide +kernel
theorem dX6_appendText_42 : decode cX6_appendText 42 = .ok (.getfield 136, 3) := by decide +kernel
theorem dX6_appendText_45 : decode cX6_appendText 45 = .ok (.iload_n 1, 1) := by decide +kernel
theorem dX6_appendText_46 : decode cX6_appendText 46 = .ok (.iastore, 1) := by decide +kernel
theorem dX6_appendText_47 : decode cX6_appendText 47 = .ok (.aload_n 0, 1) := by decide +kernel
theorem dX6_appendText_48 : decode cX6_appendText 48 = .ok (.dup, 1) := by decide +kernel
theorem dX6_appendText_49 : decode cX6_appendText 49 = .ok (.getfield 136, 3) := by decide +kernel
theorem dX6_appendText_52 : decode cX6_appendText 52 = .ok (.iconst 1, 1) := by decide +kernel
theorem dX6_appendText_53 : decode cX6_appendText 53 = .ok (.iadd, 1) := by decide +kernel
theorem dX6_appendText_54 : decode cX6_appendText 54 = .ok (.putfield 136, 3) := by decide +kernel
theorem dX6_appendText_57 : decode cX6_appendText 57 = .ok (.aload_n 0, 1) := by decide +kernel
theorem dX6_appendText_58 : decode cX6_appendText 58 = .ok (.getfield 136, 3) := by decide +kernel
theorem dX6_appendText_61 : decode cX6_appendText 61 = .ok (.ireturn, 1) := by decide +kernel
theorem dX6_clearText_0 : decode cX6_clearText 0 = .ok (.aload_n 0, 1) := by decide +kernel
theorem dX6_clearText_1 : decode cX6_clearText 1 = .ok (.iconst 0, 1) := by decide +kernel
theorem dX6_clearText_2 : decode cX6_clearText 2 = .ok (.putfield 38, 3) := by decide +kernel
theorem dX6_clearText_5 : decode cX6_clearText 5 = .ok (.aload_n 0, 1) := by decide +kernel
theorem dX6_clearText_6 : decode cX6_clearText 6 = .ok (.getfield 136, 3) := by decide +kernel
theorem dX6_clearText_9 : decode cX6_clearText 9 = .ok (.istore_n 1, 1) := by decide +kernel
theorem dX6_clearText_10 : decode cX6_clearText 10 = .ok (.aload_n 0, 1) := by decide +kernel
theorem dX6_clearText_11 : decode cX6_clearText 11 = .ok (.iconst 0, 1) := by decide +kernel
theorem dX6_clearText_12 : decode cX6_clearText 12 = .ok (.putfield 136, 3) := by decide +kernel
theorem dX6_clearText_15 : decode cX6_clearText 15 = .ok (.iload_n 1, 1) := by decide +kernel
theorem dX6_clearText_16 : decode cX6_clearText 16 = .ok (.ireturn, 1) := by decide +kernel
theorem dX6_sign_0 : decode cX6_sign 0 = .ok (.aload_n 0, 1) := by decide +kernel
theorem dX6_sign_1 : decode cX6_sign 1 = .ok (.getfield 139, 3) := by decide +kernel
theorem dX6_sign_4 : decode cX6_sign 4 = .ok (.aload_n 0, 1) := by decide +kernel
theorem dX6_sign_5 : decode cX6_sign 5 = .ok (.getfield 136, 3) := by decide +kernel
theorem dX6_sign_8 : decode cX6_sign 8 = .ok (.if_icmp .ge 15, 3) := by decide +kernel
theorem dX6_sign_11 : decode cX6_sign 11 = .ok (.aload_n 0, 1) := by decide +kernel
theorem dX6_sign_12 : decode cX6_sign 12 = .ok (.getfield 19, 3) := by decide +kernel
theorem dX6_sign_15 : decode cX6_sign 15 = .ok (.aload_n 0, 1) := by decide +kernel
theorem dX6_sign_16 : decode cX6_sign 16 = .ok (.getfield 139, 3) := by decide +kernel
theorem dX6_sign_19 : decode cX6_sign 19 = .ok (.iaload, 1) := by decide +kernel
theorem dX6_sign_20 : decode cX6_sign 20 = .ok (.goto 4, 3) := by decide +kernel
theorem dX6_sign_23 : decode cX6_sign 23 = .ok (.iconst 0, 1) := by decide +kernel
theorem dX6_sign_24 : decode cX6_sign 24 = .ok (.ireturn, 1) := by decide +kernel
theorem dX6_takes_0 : decode cX6_takes 0 = .ok (.aload_n 0, 1) := by decide +kernel
theorem dX6_takes_1 : decode cX6_takes 1 = .ok (.invokevirtual 142, 3) := by decide +kernel
theorem dX6_takes_4 : decode cX6_takes 4 = .ok (.iload_n 1, 1) := by decide +kernel
theorem dX6_takes_5 : decode cX6_takes 5 = .ok (.if_icmp .ne 7, 3) := by decide +kernel
theorem dX6_takes_8 : decode cX6_takes 8 = .ok (.iconst 1, 1) := by decide +kernel
theorem dX6_takes_9 : decode cX6_takes 9 = .ok (.goto 4, 3) := by decide +kernel
theorem dX6_takes_12 : decode cX6_takes 12 = .ok (.iconst 0, 1) := by decide +kernel
theorem dX6_takes_13 : decode cX6_takes 13 = .ok (.istore_n 2, 1) := by decide +kernel
theorem dX6_takes_14 : decode cX6_takes 14 = .ok (.aload_n 0, 1) := by decide +kernel
theorem dX6_takes_15 : decode cX6_takes 15 = .ok (.dup, 1) := by decide +kernel
theorem dX6_takes_16 : decode cX6_takes 16 = .ok (.getfield 139, 3) := by decide +kernel
theorem dX6_takes_19 : decode cX6_takes 19 = .ok (.iload_n 2, 1) := by decide +kernel
theorem dX6_takes_20 : decode cX6_takes 20 = .ok (.ifCond .eq 7, 3) := by decide +kernel
theorem dX6_takes_23 : decode cX6_takes 23 = .ok (.iconst 1, 1) := by decide +kernel
theorem dX6_takes_24 : decode cX6_takes 24 = .ok (.goto 4, 3) := by decide +kernel
theorem dX6_takes_27 : decode cX6_takes 27 = .ok (.iconst 0, 1) := by decide +kernel
theorem dX6_takes_28 : decode cX6_takes 28 = .ok (.iadd, 1) := by decide +kernel
theorem dX6_takes_29 : decode cX6_takes 29 = .ok (.putfield 139, 3) := by decide +kernel
theorem dX6_takes_32 : decode cX6_takes 32 = .ok (.iload_n 2, 1) := by decide +kernel
theorem dX6_takes_33 : decode cX6_takes 33 = .ok (.ireturn, 1) := by decide +kernel
theorem dX6_readsNumber_0 : decode cX6_readsNumber 0 = .ok (.aload_n 0, 1) := by decide +kernel
theorem dX6_readsNumber_1 : decode cX6_readsNumber 1 = .ok (.iconst 0, 1) := by decide +kernel
theorem dX6_readsNumber_2 : decode cX6_readsNumber 2 = .ok (.putfield 145, 3) := by decide +kernel
theorem dX6_readsNumber_5 : decode cX6_readsNumber 5 = .ok (.aload_n 0, 1) := by decide +kernel
theorem dX6_readsNumber_6 : decode cX6_readsNumber 6 = .ok (.invokevirtual 142, 3) := by decide +kernel
theorem dX6_readsNumber_9 : decode cX6_readsNumber 9 = .ok (.aload_n 0, 1) := by decide +kernel
theorem dX6_readsNumber_10 : decode cX6_readsNumber 10 = .ok (.getfield 145, 3) := by decide +kernel
theorem dX6_readsNumber_13 : decode cX6_readsNumber 13 = .ok (.ifCond .ne 8, 3) := by decide +kernel
theorem dX6_readsNumber_16 : decode cX6_readsNumber 16 = .ok (.bipush 49, 2) := by decide +kernel
theorem dX6_readsNumber_18 : decode cX6_readsNumber 18 = .ok (.goto 5, 3) := by decide +kernel
theorem dX6_readsNumber_21 : decode cX6_readsNumber 21 = .ok (.bipush 48, 2) := by decide +kernel
theorem dX6_readsNumber_23 : decode cX6_readsNumber 23 = .ok (.bipush 57, 2) := by decide +kernel
theorem dX6_readsNumber_25 : decode cX6_readsNumber 25 = .ok (.invokestatic 42, 3) := by decide +kernel
theorem dX6_readsNumber_28 : decode cX6_readsNumber 28 = .ok (.ifCond .eq 54, 3) := by decide +kernel
theorem dX6_readsNumber_31 : decode cX6_readsNumber 31 = .ok (.bipush 10, 2) := by decide +kernel
theorem dX6_readsNumber_33 : decode cX6_readsNumber 33 = .ok (.aload_n 0, 1) := by decide +kernel
theorem dX6_readsNumber_34 : decode cX6_readsNumber 34 = .ok (.getfield 145, 3) := by decide +kernel
theorem dX6_readsNumber_37 : decode cX6_readsNumber 37 = .ok (.imul, 1) := by decide +kernel
theorem dX6_readsNumber_38 : decode cX6_readsNumber 38 = .ok (.aload_n 0, 1) := by decide +kernel
theorem dX6_readsNumber_39 : decode cX6_readsNumber 39 = .ok (.invokevirtual 142, 3) := by decide +kernel
theorem dX6_readsNumber_42 : decode cX6_readsNumber 42 = .ok (.iadd, 1) := by decide +kernel
theorem dX6_readsNumber_43 : decode cX6_readsNumber 43 = .ok (.bipush 48, 2) := by decide +kernel
theorem dX6_readsNumber_45 : decode cX6_readsNumber 45 = .ok (.isub, 1) := by decide +kernel
theorem dX6_readsNumber_46 : decode cX6_readsNumber 46 = .ok (.iload_n 1, 1) := by decide +kernel
theorem dX6_readsNumber_47 : decode cX6_readsNumber 47 = .ok (.if_icmp .gt 35, 3) := by decide +kernel
theorem dX6_readsNumber_50 : decode cX6_readsNumber 50 = .ok (.aload_n 0, 1) := by decide +kernel
theorem dX6_readsNumber_51 : decode cX6_readsNumber 51 = .ok (.bipush 10, 2) := by decide +kernel
theorem dX6_readsNumber_53 : decode cX6_readsNumber 53 = .ok (.aload_n 0, 1) := by decide +kernel
theorem dX6_readsNumber_54 : decode cX6_readsNumber 54 = .ok (.getfield 145, 3) := by decide +kernel
theorem dX6_readsNumber_57 : decode cX6_readsNumber 57 = .ok (.imul, 1) := by decide +kernel
theorem dX6_readsNumber_58 : decode cX6_readsNumber 58 = .ok (.aload_n 0, 1) := by decide +kernel
theorem dX6_readsNumber_59 : decode cX6_readsNumber 59 = .ok (.invokevirtual 142, 3) := by decide +kernel
theorem dX6_readsNumber_62 : decode cX6_readsNumber 62 = .ok (.iadd, 1) := by decide +kernel
theorem dX6_readsNumber_63 : decode cX6_readsNumber 63 = .ok (.bipush 48, 2) := by decide +kernel
theorem dX6_readsNumber_65 : decode cX6_readsNumber 65 = .ok (.isub, 1) := by decide +kernel
theorem dX6_readsNumber_66 : decode cX6_readsNumber 66 = .ok (.putfield 145, 3) := by decide +kernel
theorem dX6_readsNumber_69 : decode cX6_readsNumber 69 = .ok (.aload_n 0, 1) := by decide +kernel
theorem dX6_readsNumber_70 : decode cX6_readsNumber 70 = .ok (.dup, 1) := by decide +kernel
theorem dX6_readsNumber_71 : decode cX6_readsNumber 71 = .ok (.getfield 139, 3) := by decide +kernel
theorem dX6_readsNumber_74 : decode cX6_readsNumber 74 = .ok (.iconst 1, 1) := by decide +kernel
theorem dX6_readsNumber_75 : decode cX6_readsNumber 75 = .ok (.iadd, 1) := by decide +kernel
theorem dX6_readsNumber_76 : decode cX6_readsNumber 76 = .ok (.putfield 139, 3) := by decide +kernel
theorem dX6_readsNumber_79 : decode cX6_readsNumber 79 = .ok (.goto (-74), 3) := by decide +kernel
theorem dX6_readsNumber_82 : decode cX6_readsNumber 82 = .ok (.aload_n 0, 1) := by decide +kernel
theorem dX6_readsNumber_83 : decode cX6_readsNumber 83 = .ok (.getfield 145, 3) := by decide +kernel
theorem dX6_readsNumber_86 : decode cX6_readsNumber 86 = .ok (.ifCond .le 7, 3) := by decide +kernel
theorem dX6_readsNumber_89 : decode cX6_readsNumber 89 = .ok (.iconst 1, 1) := by decide +kernel
theorem dX6_readsNumber_90 : decode cX6_readsNumber 90 = .ok (.goto 4, 3) := by decide +kernel
theorem dX6_readsNumber_93 : decode cX6_readsNumber 93 = .ok (.iconst 0, 1) := by decide +kernel
theorem dX6_readsNumber_94 : decode cX6_readsNumber 94 = .ok (.ireturn, 1) := by decide +kernel
theorem dX6_readsJob_0 : decode cX6_readsJob 0 = .ok (.aload_n 0, 1) := by decide +kernel
theorem dX6_readsJob_1 : decode cX6_readsJob 1 = .ok (.bipush 99, 2) := by decide +kernel
theorem dX6_readsJob_3 : decode cX6_readsJob 3 = .ok (.invokevirtual 148, 3) := by decide +kernel
theorem dX6_readsJob_6 : decode cX6_readsJob 6 = .ok (.ifCond .ne 5, 3) := by decide +kernel
theorem dX6_readsJob_9 : decode cX6_readsJob 9 = .ok (.iconst 0, 1) := by decide +kernel
theorem dX6_readsJob_10 : decode cX6_readsJob 10 = .ok (.ireturn, 1) := by decide +kernel
theorem dX6_readsJob_11 : decode cX6_readsJob 11 = .ok (.aload_n 0, 1) := by decide +kernel
theorem dX6_readsJob_12 : decode cX6_readsJob 12 = .ok (.getfield 25, 3) := by decide +kernel
theorem dX6_readsJob_15 : decode cX6_readsJob 15 = .ok (.aload_n 0, 1) := by decide +kernel
theorem dX6_readsJob_16 : decode cX6_readsJob 16 = .ok (.getfield 151, 3) := by decide +kernel
theorem dX6_readsJob_19 : decode cX6_readsJob 19 = .ok (.aload_n 0, 1) := by decide +kernel
theorem dX6_readsJob_20 : decode cX6_readsJob 20 = .ok (.getfield 145, 3) := by decide +kernel
theorem dX6_readsJob_23 : decode cX6_readsJob 23 = .ok (.iastore, 1) := by decide +kernel
theorem dX6_readsJob_24 : decode cX6_readsJob 24 = .ok (.aload_n 0, 1) := by decide +kernel
theorem dX6_readsJob_25 : decode cX6_readsJob 25 = .ok (.bipush 42, 2) := by decide +kernel
theorem dX6_readsJob_27 : decode cX6_readsJob 27 = .ok (.invokevirtual 154, 3) := by decide +kernel
theorem dX6_readsJob_30 : decode cX6_readsJob 30 = .ok (.ifCond .eq 12, 3) := by decide +kernel
theorem dX6_readsJob_33 : decode cX6_readsJob 33 = .ok (.aload_n 0, 1) := by decide +kernel
theorem dX6_readsJob_34 : decode cX6_readsJob 34 = .ok (.bipush 20, 2) := by decide +kernel
theorem dX6_readsJob_36 : decode cX6_readsJob 36 = .ok (.invokevirtual 148, 3) := by decide +kernel
theorem dX6_readsJob_39 : decode cX6_readsJob 39 = .ok (.ifCond .ne 5, 3) := by decide +kernel
theorem dX6_readsJob_42 : decode cX6_readsJob 42 = .ok (.iconst 0, 1) := by decide +kernel
theorem dX6_readsJob_43 : decode cX6_readsJob 43 = .ok (.ireturn, 1) := by decide +kernel
theorem dX6_readsJob_44 : decode cX6_readsJob 44 = .ok (.aload_n 0, 1) := by decide +kernel
theorem dX6_readsJob_45 : decode cX6_readsJob 45 = .ok (.getfield 28, 3) := by decide +kernel
theorem dX6_readsJob_48 : decode cX6_readsJob 48 = .ok (.aload_n 0, 1) := by decide +kernel
theorem dX6_readsJob_49 : decode cX6_readsJob 49 = .ok (.getfield 151, 3) := by decide +kernel
theorem dX6_readsJob_52 : decode cX6_readsJob 52 = .ok (.aload_n 0, 1) := by decide +kernel
theorem dX6_readsJob_53 : decode cX6_readsJob 53 = .ok (.getfield 145, 3) := by decide +kernel
theorem dX6_readsJob_56 : decode cX6_readsJob 56 = .ok (.iastore, 1) := by decide +kernel
theorem dX6_readsJob_57 : decode cX6_readsJob 57 = .ok (.aload_n 0, 1) := by decide +kernel
theorem dX6_readsJob_58 : decode cX6_readsJob 58 = .ok (.getfield 31, 3) := by decide +kernel
theorem dX6_readsJob_61 : decode cX6_readsJob 61 = .ok (.aload_n 0, 1) := by decide +kernel
theorem dX6_readsJob_62 : decode cX6_readsJob 62 = .ok (.getfield 151, 3) := by decide +kernel
theorem dX6_readsJob_65 : decode cX6_readsJob 65 = .ok (.iconst 0, 1) := by decide +kernel
theorem dX6_readsJob_66 : decode cX6_readsJob 66 = .ok (.iastore, 1) := by decide +kernel
theorem dX6_readsJob_67 : decode cX6_readsJob 67 = .ok (.aload_n 0, 1) := by decide +kernel
theorem dX6_readsJob_68 : decode cX6_readsJob 68 = .ok (.bipush 33, 2) := by decide +kernel
theorem dX6_readsJob_70 : decode cX6_readsJob 70 = .ok (.invokevirtual 154, 3) := by decide +kernel
theorem dX6_readsJob_73 : decode cX6_readsJob 73 = .ok (.ifCond .ne 5, 3) := by decide +kernel
theorem dX6_readsJob_76 : decode cX6_readsJob 76 = .ok (.iconst 1, 1) := by decide +kernel
theorem dX6_readsJob_77 : decode cX6_readsJob 77 = .ok (.ireturn, 1) := by decide +kernel
theorem dX6_readsJob_78 : decode cX6_readsJob 78 = .ok (.aload_n 0, 1) := by decide +kernel
theorem dX6_readsJob_79 : decode cX6_readsJob 79 = .ok (.invokevirtual 142, 3) := by decide +kernel
theorem dX6_readsJob_82 : decode cX6_readsJob 82 = .ok (.bipush 48, 2) := by decide +kernel
theorem dX6_readsJob_84 : decode cX6_readsJob 84 = .ok (.bipush 57, 2) := by decide +kernel
theorem dX6_readsJob_86 : decode cX6_readsJob 86 = .ok (.invokestatic 42, 3) := by decide +kernel
theorem dX6_readsJob_89 : decode cX6_readsJob 89 = .ok (.istore_n 1, 1) := by decide +kernel
theorem dX6_readsJob_90 : decode cX6_readsJob 90 = .ok (.aload_n 0, 1) := by decide +kernel
theorem dX6_readsJob_91 : decode cX6_readsJob 91 = .ok (.getfield 31, 3) := by decide +kernel
theorem dX6_readsJob_94 : decode cX6_readsJob 94 = .ok (.aload_n 0, 1) := by decide +kernel
theorem dX6_readsJob_95 : decode cX6_readsJob 95 = .ok (.getfield 151, 3) := by decide +kernel
theorem dX6_readsJob_98 : decode cX6_readsJob 98 = .ok (.iload_n 1, 1) := by decide +kernel
theorem dX6_readsJob_99 : decode cX6_readsJob 99 = .ok (.ifCond .eq 13, 3) := by decide +kernel
theorem dX6_readsJob_102 : decode cX6_readsJob 102 = .ok (.aload_n 0, 1) := by decide +kernel
theorem dX6_readsJob_103 : decode cX6_readsJob 103 = .ok (.invokevirtual 142, 3) := by decide +kernel
theorem dX6_readsJob_106 : decode cX6_readsJob 106 = .ok (.bipush 48, 2) := by decide +kernel
theorem dX6_readsJob_108 : decode cX6_readsJob 108 = .ok (.isub, 1) := by decide +kernel
theorem dX6_readsJob_109 : decode cX6_readsJob 109 = .ok (.goto 4, 3) := by decide +kernel
theorem dX6_readsJob_112 : decode cX6_readsJob 112 = .ok (.iconst 0, 1) := by decide +kernel
theorem dX6_readsJob_113 : decode cX6_readsJob 113 = .ok (.iastore, 1) := by decide +kernel
theorem dX6_readsJob_114 : decode cX6_readsJob 114 = .ok (.aload_n 0, 1) := by decide +kernel
theorem dX6_readsJob_115 : decode cX6_readsJob 115 = .ok (.dup, 1) := by decide +kernel
theorem dX6_readsJob_116 : decode cX6_readsJob 116 = .ok (.getfield 139, 3) := by decide +kernel
theorem dX6_readsJob_119 : decode cX6_readsJob 119 = .ok (.iload_n 1, 1) := by decide +kernel
theorem dX6_readsJob_120 : decode cX6_readsJob 120 = .ok (.ifCond .eq 7, 3) := by decide +kernel
theorem dX6_readsJob_123 : decode cX6_readsJob 123 = .ok (.iconst 1, 1) := by decide +kernel
theorem dX6_readsJob_124 : decode cX6_readsJob 124 = .ok (.goto 4, 3) := by decide +kernel
theorem dX6_readsJob_127 : decode cX6_readsJob 127 = .ok (.iconst 0, 1) := by decide +kernel
theorem dX6_readsJob_128 : decode cX6_readsJob 128 = .ok (.iadd, 1) := by decide +kernel
theorem dX6_readsJob_129 : decode cX6_readsJob 129 = .ok (.putfield 139, 3) := by decide +kernel
theorem dX6_readsJob_132 : decode cX6_readsJob 132 = .ok (.iload_n 1, 1) := by decide +kernel
theorem dX6_readsJob_133 : decode cX6_readsJob 133 = .ok (.ireturn, 1) := by decide +kernel
theorem dX6_readsMinutes_0 : decode cX6_readsMinutes 0 = .ok (.aload_n 0, 1) := by decide +kernel
theorem dX6_readsMinutes_1 : decode cX6_readsMinutes 1 = .ok (.bipush 99, 2) := by decide +kernel
theorem dX6_readsMinutes_3 : decode cX6_readsMinutes 3 = .ok (.invokevirtual 148, 3) := by decide +kernel
theorem dX6_readsMinutes_6 : decode cX6_readsMinutes 6 = .ok (.istore_n 1, 1) := by decide +kernel
theorem dX6_readsMinutes_7 : decode cX6_readsMinutes 7 = .ok (.aload_n 0, 1) := by decide +kernel
theorem dX6_readsMinutes_8 : decode cX6_readsMinutes 8 = .ok (.getfield 25, 3) := by decide +kernel
theorem dX6_readsMinutes_11 : decode cX6_readsMinutes 11 = .ok (.aload_n 0, 1) := by decide +kernel
theorem dX6_readsMinutes_12 : decode cX6_readsMinutes 12 = .ok (.getfield 151, 3) := by decide +kernel
theorem dX6_readsMinutes_15 : decode cX6_readsMinutes 15 = .ok (.aload_n 0, 1) := by decide +kernel
theorem dX6_readsMinutes_16 : decode cX6_readsMinutes 16 = .ok (.getfield 145, 3) := by decide +kernel
theorem dX6_readsMinutes_19 : decode cX6_readsMinutes 19 = .ok (.iastore, 1) := by decide +kernel
theorem dX6_readsMinutes_20 : decode cX6_readsMinutes 20 = .ok (.iload_n 1, 1) := by decide +kernel
theorem dX6_readsMinutes_21 : decode cX6_readsMinutes 21 = .ok (.ireturn, 1) := by decide +kernel
theorem dX6_readsCommand_0 : decode cX6_readsCommand 0 = .ok (.aload_n 0, 1) := by decide +kernel
theorem dX6_readsCommand_1 : decode cX6_readsCommand 1 = .ok (.invokevirtual 142, 3) := by decide +kernel
theorem dX6_readsCommand_4 : decode cX6_readsCommand 4 = .ok (.istore_n 1, 1) := by decide +kernel
theorem dX6_readsCommand_5 : decode cX6_readsCommand 5 = .ok (.iload_n 1, 1) := by decide +kernel
theorem dX6_readsCommand_6 : decode cX6_readsCommand 6 = .ok (.bipush 114, 2) := by decide +kernel
theorem dX6_readsCommand_8 : decode cX6_readsCommand 8 = .ok (.if_icmp .eq 15, 3) := by decide +kernel
theorem dX6_readsCommand_11 : decode cX6_readsCommand 11 = .ok (.iload_n 1, 1) := by decide +kernel
theorem dX6_readsCommand_12 : decode cX6_readsCommand 12 = .ok (.bipush 119, 2) := by decide +kernel
theorem dX6_readsCommand_14 : decode cX6_readsCommand 14 = .ok (.if_icmp .eq 9, 3) := by decide +kernel
theorem dX6_readsCommand_17 : decode cX6_readsCommand 17 = .ok (.iload_n 1, 1) := by decide +kernel
theorem dX6_readsCommand_18 : decode cX6_readsCommand 18 = .ok (.bipush 99, 2) := by decide +kernel
theorem dX6_readsCommand_20 : decode cX6_readsCommand 20 = .ok (.if_icmp .ne 7, 3) := by decide +kernel
theorem dX6_readsCommand_23 : decode cX6_readsCommand 23 = .ok (.iconst 1, 1) := by decide +kernel
theorem dX6_readsCommand_24 : decode cX6_readsCommand 24 = .ok (.goto 4, 3) := by decide +kernel
theorem dX6_readsCommand_27 : decode cX6_readsCommand 27 = .ok (.iconst 0, 1) := by decide +kernel
theorem dX6_readsCommand_28 : decode cX6_readsCommand 28 = .ok (.istore_n 2, 1) := by decide +kernel
theorem dX6_readsCommand_29 : decode cX6_readsCommand 29 = .ok (.iload_n 2, 1) := by decide +kernel
theorem dX6_readsCommand_30 : decode cX6_readsCommand 30 = .ok (.ifCond .ne 17, 3) := by decide +kernel
theorem dX6_readsCommand_33 : decode cX6_readsCommand 33 = .ok (.iload_n 1, 1) := by decide +kernel
theorem dX6_readsCommand_34 : decode cX6_readsCommand 34 = .ok (.bipush 116, 2) := by decide +kernel
theorem dX6_readsCommand_36 : decode cX6_readsCommand 36 = .ok (.if_icmp .eq 11, 3) := by decide +kernel
theorem dX6_readsCommand_39 : decode cX6_readsCommand 39 = .ok (.iload_n 1, 1) := by decide +kernel
theorem dX6_readsCommand_40 : decode cX6_readsCommand 40 = .ok (.bipush 100, 2) := by decide +kernel
theorem dX6_readsCommand_42 : decode cX6_readsCommand 42 = .ok (.if_icmp .eq 5, 3) := by decide +kernel
theorem dX6_readsCommand_45 : decode cX6_readsCommand 45 = .ok (.iconst 0, 1) := by decide +kernel
theorem dX6_readsCommand_46 : decode cX6_readsCommand 46 = .ok (.ireturn, 1) := by decide +kernel
theorem dX6_readsCommand_47 : decode cX6_readsCommand 47 = .ok (.aload_n 0, 1) := by decide +kernel
theorem dX6_readsCommand_48 : decode cX6_readsCommand 48 = .ok (.dup, 1) := by decide +kernel
theorem dX6_readsCommand_49 : decode cX6_readsCommand 49 = .ok (.getfield 139, 3) := by decide +kernel
theorem dX6_readsCommand_52 : decode cX6_readsCommand 52 = .ok (.iconst 1, 1) := by decide +kernel
theorem dX6_readsCommand_53 : decode cX6_readsCommand 53 = .ok (.iadd, 1) := by decide +kernel
theorem dX6_readsCommand_54 : decode cX6_readsCommand 54 = .ok (.putfield 139, 3) := by decide +kernel
theorem dX6_readsCommand_57 : decode cX6_readsCommand 57 = .ok (.iload_n 2, 1) := by decide +kernel
theorem dX6_readsCommand_58 : decode cX6_readsCommand 58 = .ok (.ifCond .eq 10, 3) := by decide +kernel
theorem dX6_readsCommand_61 : decode cX6_readsCommand 61 = .ok (.aload_n 0, 1) := by decide +kernel
theorem dX6_readsCommand_62 : decode cX6_readsCommand 62 = .ok (.invokevirtual 157, 3) := by decide +kernel
theorem dX6_readsCommand_65 : decode cX6_readsCommand 65 = .ok (.goto 21, 3) := by decide +kernel
theorem dX6_readsCommand_68 : decode cX6_readsCommand 68 = .ok (.iload_n 1, 1) := by decide +kernel
theorem dX6_readsCommand_69 : decode cX6_readsCommand 69 = .ok (.bipush 100, 2) := by decide +kernel
theorem dX6_readsCommand_71 : decode cX6_readsCommand 71 = .ok (.if_icmp .eq 10, 3) := by decide +kernel
theorem dX6_readsCommand_74 : decode cX6_readsCommand 74 = .ok (.aload_n 0, 1) := by decide +kernel
theorem dX6_readsCommand_75 : decode cX6_readsCommand 75 = .ok (.invokevirtual 161, 3) := by decide +kernel
theorem dX6_readsCommand_78 : decode cX6_readsCommand 78 = .ok (.ifCond .eq 7, 3) := by decide +kernel
theorem dX6_readsCommand_81 : decode cX6_readsCommand 81 = .ok (.iconst 1, 1) := by decide +kernel
theorem dX6_readsCommand_82 : decode cX6_readsCommand 82 = .ok (.goto 4, 3) := by decide +kernel
theorem dX6_readsCommand_85 : decode cX6_readsCommand 85 = .ok (.iconst 0, 1) := by decide +kernel
theorem dX6_readsCommand_86 : decode cX6_readsCommand 86 = .ok (.istore_n 3, 1) := by decide +kernel
theorem dX6_readsCommand_87 : decode cX6_readsCommand 87 = .ok (.iload_n 3, 1) := by decide +kernel
theorem dX6_readsCommand_88 : decode cX6_readsCommand 88 = .ok (.ifCond .eq 23, 3) := by decide +kernel
theorem dX6_readsCommand_91 : decode cX6_readsCommand 91 = .ok (.aload_n 0, 1) := by decide +kernel
theorem dX6_readsCommand_92 : decode cX6_readsCommand 92 = .ok (.getfield 22, 3) := by decide +kernel
theorem dX6_readsCommand_95 : decode cX6_readsCommand 95 = .ok (.aload_n 0, 1) := by decide +kernel
theorem dX6_readsCommand_96 : decode cX6_readsCommand 96 = .ok (.getfield 151, 3) := by decide +kernel
theorem dX6_readsCommand_99 : decode cX6_readsCommand 99 = .ok (.iload_n 1, 1) := by decide +kernel
theorem dX6_readsCommand_100 : decode cX6_readsCommand 100 = .ok (.iastore, 1) := by decide +kernel
theorem dX6_readsCommand_101 : decode cX6_readsCommand 101 = .ok (.aload_n 0, 1) := by decide +kernel
theorem dX6_readsCommand_102 : decode cX6_readsCommand 102 = .ok (.dup, 1) := by decide +kernel
theorem dX6_readsCommand_103 : decode cX6_readsCommand 103 = .ok (.getfield 151, 3) := by decide +kernel
theorem dX6_readsCommand_106 : decode cX6_readsCommand 106 = .ok (.iconst 1, 1) := by decide +kernel
theorem dX6_readsCommand_107 : decode cX6_readsCommand 107 = .ok (.iadd, 1) := by decide +kernel
theorem dX6_readsCommand_108 : decode cX6_readsCommand 108 = .ok (.putfield 151, 3) := by decide +kernel
theorem dX6_readsCommand_111 : decode cX6_readsCommand 111 = .ok (.iload_n 3, 1) := by decide +kernel
theorem dX6_readsCommand_112 : decode cX6_readsCommand 112 = .ok (.ireturn, 1) := by decide +kernel
theorem dX6_isValid_0 : decode cX6_isValid 0 = .ok (.aload_n 0, 1) := by decide +kernel
theorem dX6_isValid_1 : decode cX6_isValid 1 = .ok (.iconst 0, 1) := by decide +kernel
theorem dX6_isValid_2 : decode cX6_isValid 2 = .ok (.putfield 139, 3) := by decide +kernel
theorem dX6_isValid_5 : decode cX6_isValid 5 = .ok (.aload_n 0, 1) := by decide +kernel
theorem dX6_isValid_6 : decode cX6_isValid 6 = .ok (.iconst 0, 1) := by decide +kernel
theorem dX6_isValid_7 : decode cX6_isValid 7 = .ok (.putfield 151, 3) := by decide +kernel
theorem dX6_isValid_10 : decode cX6_isValid 10 = .ok (.aload_n 0, 1) := by decide +kernel
theorem dX6_isValid_11 : decode cX6_isValid 11 = .ok (.invokevirtual 164, 3) := by decide +kernel
theorem dX6_isValid_14 : decode cX6_isValid 14 = .ok (.istore_n 1, 1) := by decide +kernel
theorem dX6_isValid_15 : decode cX6_isValid 15 = .ok (.iload_n 1, 1) := by decide +kernel
theorem dX6_isValid_16 : decode cX6_isValid 16 = .ok (.ifCond .eq 20, 3) := by decide +kernel
theorem dX6_isValid_19 : decode cX6_isValid 19 = .ok (.aload_n 0, 1) := by decide +kernel
theorem dX6_isValid_20 : decode cX6_isValid 20 = .ok (.bipush 59, 2) := by decide +kernel
theorem dX6_isValid_22 : decode cX6_isValid 22 = .ok (.invokevirtual 154, 3) := by decide +kernel
theorem dX6_isValid_25 : decode cX6_isValid 25 = .ok (.ifCond .eq 11, 3) := by decide +kernel
theorem dX6_isValid_28 : decode cX6_isValid 28 = .ok (.aload_n 0, 1) := by decide +kernel
theorem dX6_isValid_29 : decode cX6_isValid 29 = .ok (.invokevirtual 164, 3) := by decide +kernel
theorem dX6_isValid_32 : decode cX6_isValid 32 = .ok (.istore_n 1, 1) := by decide +kernel
theorem dX6_isValid_33 : decode cX6_isValid 33 = .ok (.goto (-18), 3) := by decide +kernel
theorem dX6_isValid_36 : decode cX6_isValid 36 = .ok (.iload_n 1, 1) := by decide +kernel
theorem dX6_isValid_37 : decode cX6_isValid 37 = .ok (.ifCond .eq 18, 3) := by decide +kernel
theorem dX6_isValid_40 : decode cX6_isValid 40 = .ok (.aload_n 0, 1) := by decide +kernel
theorem dX6_isValid_41 : decode cX6_isValid 41 = .ok (.getfield 139, 3) := by decide +kernel
theorem dX6_isValid_44 : decode cX6_isValid 44 = .ok (.aload_n 0, 1) := by decide +kernel
theorem dX6_isValid_45 : decode cX6_isValid 45 = .ok (.getfield 136, 3) := by decide +kernel
theorem dX6_isValid_48 : decode cX6_isValid 48 = .ok (.if_icmp .ne 7, 3) := by decide +kernel
theorem dX6_isValid_51 : decode cX6_isValid 51 = .ok (.iconst 1, 1) := by decide +kernel
theorem dX6_isValid_52 : decode cX6_isValid 52 = .ok (.goto 4, 3) := by decide +kernel
theorem dX6_isValid_55 : decode cX6_isValid 55 = .ok (.iconst 0, 1) := by decide +kernel
theorem dX6_isValid_56 : decode cX6_isValid 56 = .ok (.ireturn, 1) := by decide +kernel
theorem dX6_errorPosition_0 : decode cX6_errorPosition 0 = .ok (.aload_n 0, 1) := by decide +kernel
theorem dX6_errorPosition_1 : decode cX6_errorPosition 1 = .ok (.iconst 0, 1) := by decide +kernel
theorem dX6_errorPosition_2 : decode cX6_errorPosition 2 = .ok (.putfield 38, 3) := by decide +kernel
theorem dX6_errorPosition_5 : decode cX6_errorPosition 5 = .ok (.aload_n 0, 1) := by decide +kernel
theorem dX6_errorPosition_6 : decode cX6_errorPosition 6 = .ok (.invokevirtual 167, 3) := by decide +kernel
theorem dX6_errorPosition_9 : decode cX6_errorPosition 9 = .ok (.ifCond .eq 7, 3) := by decide +kernel
theorem dX6_errorPosition_12 : decode cX6_errorPosition 12 = .ok (.iconst (-1), 1) := by decide +kernel
theorem dX6_errorPosition_13 : decode cX6_errorPosition 13 = .ok (.goto 7, 3) := by decide +kernel
theorem dX6_errorPosition_16 : decode cX6_errorPosition 16 = .ok (.aload_n 0, 1) := by decide +kernel
theorem dX6_errorPosition_17 : decode cX6_errorPosition 17 = .ok (.getfield 139, 3) := by decide +kernel
theorem dX6_errorPosition_20 : decode cX6_errorPosition 20 = .ok (.ireturn, 1) := by decide +kernel
theorem dX6_kindOf_0 : decode cX6_kindOf 0 = .ok (.iload_n 0, 1) := by decide +kernel
theorem dX6_kindOf_1 : decode cX6_kindOf 1 = .ok (.bipush 114, 2) := by decide +kernel
theorem dX6_kindOf_3 : decode cX6_kindOf 3 = .ok (.if_icmp .ne 7, 3) := by decide +kernel
theorem dX6_kindOf_6 : decode cX6_kindOf 6 = .ok (.iconst 0, 1) := by decide +kernel
theorem dX6_kindOf_7 : decode cX6_kindOf 7 = .ok (.goto 14, 3) := by decide +kernel
theorem dX6_kindOf_10 : decode cX6_kindOf 10 = .ok (.iload_n 0, 1) := by decide +kernel
theorem dX6_kindOf_11 : decode cX6_kindOf 11 = .ok (.bipush 119, 2) := by decide +kernel
theorem dX6_kindOf_13 : decode cX6_kindOf 13 = .ok (.if_icmp .ne 7, 3) := by decide +kernel
theorem dX6_kindOf_16 : decode cX6_kindOf 16 = .ok (.iconst 1, 1) := by decide +kernel
theorem dX6_kindOf_17 : decode cX6_kindOf 17 = .ok (.goto 4, 3) := by decide +kernel
theorem dX6_kindOf_20 : decode cX6_kindOf 20 = .ok (.iconst 2, 1) := by decide +kernel
theorem dX6_kindOf_21 : decode cX6_kindOf 21 = .ok (.ireturn, 1) := by decide +kernel
theorem dX6_isCarriedOut_0 : decode cX6_isCarriedOut 0 = .ok (.aload_n 0, 1) := by decide +kernel
theorem dX6_isCarriedOut_1 : decode cX6_isCarriedOut 1 = .ok (.getfield 22, 3) := by decide +kernel
theorem dX6_isCarriedOut_4 : decode cX6_isCarriedOut 4 = .ok (.iload_n 1, 1) := by decide +kernel
theorem dX6_isCarriedOut_5 : decode cX6_isCarriedOut 5 = .ok (.iaload, 1) := by decide +kernel
theorem dX6_isCarriedOut_6 : decode cX6_isCarriedOut 6 = .ok (.bipush 116, 2) := by decide +kernel
theorem dX6_isCarriedOut_8 : decode cX6_isCarriedOut 8 = .ok (.if_icmp .ne 16, 3) := by decide +kernel
theorem dX6_isCarriedOut_11 : decode cX6_isCarriedOut 11 = .ok (.aload_n 0, 1) := by decide +kernel
theorem dX6_isCarriedOut_12 : decode cX6_isCarriedOut 12 = .ok (.aload_n 0, 1) := by decide +kernel
theorem dX6_isCarriedOut_13 : decode cX6_isCarriedOut 13 = .ok (.getfield 25, 3) := by decide +kernel
theorem dX6_isCarriedOut_16 : decode cX6_isCarriedOut 16 = .ok (.iload_n 1, 1) := by decide +kernel
theorem dX6_isCarriedOut_17 : decode cX6_isCarriedOut 17 = .ok (.iaload, 1) := by decide +kernel
theorem dX6_isCarriedOut_18 : decode cX6_isCarriedOut 18 = .ok (.invokevirtual 133, 3) := by decide +kernel
theorem dX6_isCarriedOut_21 : decode cX6_isCarriedOut 21 = .ok (.istore_n 2, 1) := by decide +kernel
theorem dX6_isCarriedOut_22 : decode cX6_isCarriedOut 22 = .ok (.iconst 1, 1) := by decide +kernel
theorem dX6_isCarriedOut_23 : decode cX6_isCarriedOut 23 = .ok (.ireturn, 1) := by decide +kernel
theorem dX6_isCarriedOut_24 : decode cX6_isCarriedOut 24 = .ok (.aload_n 0, 1) := by decide +kernel
theorem dX6_isCarriedOut_25 : decode cX6_isCarriedOut 25 = .ok (.getfield 22, 3) := by decide +kernel
theorem dX6_isCarriedOut_28 : decode cX6_isCarriedOut 28 = .ok (.iload_n 1, 1) := by decide +kernel
theorem dX6_isCarriedOut_29 : decode cX6_isCarriedOut 29 = .ok (.iaload, 1) := by decide +kernel
theorem dX6_isCarriedOut_30 : decode cX6_isCarriedOut 30 = .ok (.bipush 100, 2) := by decide +kernel
theorem dX6_isCarriedOut_32 : decode cX6_isCarriedOut 32 = .ok (.if_icmp .ne 41, 3) := by decide +kernel
theorem dX6_isCarriedOut_35 : decode cX6_isCarriedOut 35 = .ok (.aload_n 0, 1) := by decide +kernel
theorem dX6_isCarriedOut_36 : decode cX6_isCarriedOut 36 = .ok (.getfield 7, 3) := by decide +kernel
theorem dX6_isCarriedOut_39 : decode cX6_isCarriedOut 39 = .ok (.iconst 0, 1) := by decide +kernel
theorem dX6_isCarriedOut_40 : decode cX6_isCarriedOut 40 = .ok (.iaload, 1) := by decide +kernel
theorem dX6_isCarriedOut_41 : decode cX6_isCarriedOut 41 = .ok (.sipush 999, 3) := by decide +kernel
theorem dX6_isCarriedOut_44 : decode cX6_isCarriedOut 44 = .ok (.if_icmp .ge 7, 3) := by decide +kernel
theorem dX6_isCarriedOut_47 : decode cX6_isCarriedOut 47 = .ok (.iconst 1, 1) := by decide +kernel
theorem dX6_isCarriedOut_48 : decode cX6_isCarriedOut 48 = .ok (.goto 4, 3) := by decide +kernel
theorem dX6_isCarriedOut_51 : decode cX6_isCarriedOut 51 = .ok (.iconst 0, 1) := by decide +kernel
theorem dX6_isCarriedOut_52 : decode cX6_isCarriedOut 52 = .ok (.istore_n 2, 1) := by decide +kernel
theorem dX6_isCarriedOut_53 : decode cX6_isCarriedOut 53 = .ok (.aload_n 0, 1) := by decide +kernel
theorem dX6_isCarriedOut_54 : decode cX6_isCarriedOut 54 = .ok (.getfield 7, 3) := by decide +kernel
theorem dX6_isCarriedOut_57 : decode cX6_isCarriedOut 57 = .ok (.iconst 0, 1) := by decide +kernel
theorem dX6_isCarriedOut_58 : decode cX6_isCarriedOut 58 = .ok (.dup2, 1) := by decide +kernel
theorem dX6_isCarriedOut_59 : decode cX6_isCarriedOut 59 = .ok (.iaload, 1) := by decide +kernel
theorem dX6_isCarriedOut_60 : decode cX6_isCarriedOut 60 = .ok (.iload_n 2, 1) := by decide +kernel
theorem dX6_isCarriedOut_61 : decode cX6_isCarriedOut 61 = .ok (.ifCond .eq 7, 3) := by decide +kernel
theorem dX6_isCarriedOut_64 : decode cX6_isCarriedOut 64 = .ok (.iconst 1, 1) := by decide +kernel
theorem dX6_isCarriedOut_65 : decode cX6_isCarriedOut 65 = .ok (.goto 4, 3) := by decide +kernel
theorem dX6_isCarriedOut_68 : decode cX6_isCarriedOut 68 = .ok (.iconst 0, 1) := by decide +kernel
theorem dX6_isCarriedOut_69 : decode cX6_isCarriedOut 69 = .ok (.iadd, 1) := by decide +kernel
theorem dX6_isCarriedOut_70 : decode cX6_isCarriedOut 70 = .ok (.iastore, 1) := by decide +kernel
theorem dX6_isCarriedOut_71 : decode cX6_isCarriedOut 71 = .ok (.iload_n 2, 1) := by decide +kernel
theorem dX6_isCarriedOut_72 : decode cX6_isCarriedOut 72 = .ok (.ireturn, 1) := by decide +kernel
theorem dX6_isCarriedOut_73 : decode cX6_isCarriedOut 73 = .ok (.aload_n 0, 1) := by decide +kernel
theorem dX6_isCarriedOut_74 : decode cX6_isCarriedOut 74 = .ok (.aload_n 0, 1) := by decide +kernel
theorem dX6_isCarriedOut_75 : decode cX6_isCarriedOut 75 = .ok (.getfield 22, 3) := by decide +kernel
theorem dX6_isCarriedOut_78 : decode cX6_isCarriedOut 78 = .ok (.iload_n 1, 1) := by decide +kernel
theorem dX6_isCarriedOut_79 : decode cX6_isCarriedOut 79 = .ok (.iaload, 1) := by decide +kernel
theorem dX6_isCarriedOut_80 : decode cX6_isCarriedOut 80 = .ok (.invokestatic 170, 3) := by decide +kernel
theorem dX6_isCarriedOut_83 : decode cX6_isCarriedOut 83 = .ok (.aload_n 0, 1) := by decide +kernel
theorem dX6_isCarriedOut_84 : decode cX6_isCarriedOut 84 = .ok (.getfield 25, 3) := by decide +kernel
theorem dX6_isCarriedOut_87 : decode cX6_isCarriedOut 87 = .ok (.iload_n 1, 1) := by decide +kernel
theorem dX6_isCarriedOut_88 : decode cX6_isCarriedOut 88 = .ok (.iaload, 1) := by decide +kernel
theorem dX6_isCarriedOut_89 : decode cX6_isCarriedOut 89 = .ok (.invokevirtual 116, 3) := by decide +kernel
theorem dX6_isCarriedOut_92 : decode cX6_isCarriedOut 92 = .ok (.istore_n 2, 1) := by decide +kernel
theorem dX6_isCarriedOut_93 : decode cX6_isCarriedOut 93 = .ok (.iload_n 2, 1) := by decide +kernel
theorem dX6_isCarriedOut_94 : decode cX6_isCarriedOut 94 = .ok (.ifCond .eq 35, 3) := by decide +kernel
theorem dX6_isCarriedOut_97 : decode cX6_isCarriedOut 97 = .ok (.aload_n 0, 1) := by decide +kernel
theorem dX6_isCarriedOut_98 : decode cX6_isCarriedOut 98 = .ok (.aload_n 0, 1) := by decide +kernel
theorem dX6_isCarriedOut_99 : decode cX6_isCarriedOut 99 = .ok (.getfield 22, 3) := by decide +kernel
theorem dX6_isCarriedOut_102 : decode cX6_isCarriedOut 102 = .ok (.iload_n 1, 1) := by decide +kernel
theorem dX6_isCarriedOut_103 : decode cX6_isCarriedOut 103 = .ok (.iaload, 1) := by decide +kernel
theorem dX6_isCarriedOut_104 : decode cX6_isCarriedOut 104 = .ok (.invokestatic 170, 3) := by decide +kernel
theorem dX6_isCarriedOut_107 : decode cX6_isCarriedOut 107 = .ok (.aload_n 0, 1) := by decide +kernel
theorem dX6_isCarriedOut_108 : decode cX6_isCarriedOut 108 = .ok (.getfield 25, 3) := by decide +kernel
theorem dX6_isCarriedOut_111 : decode cX6_isCarriedOut 111 = .ok (.iload_n 1, 1) := by decide +kernel
theorem dX6_isCarriedOut_112 : decode cX6_isCarriedOut 112 = .ok (.iaload, 1) := by decide +kernel
theorem dX6_isCarriedOut_113 : decode cX6_isCarriedOut 113 = .ok (.aload_n 0, 1) := by decide +kernel
theorem dX6_isCarriedOut_114 : decode cX6_isCarriedOut 114 = .ok (.getfield 28, 3) := by decide +kernel
theorem dX6_isCarriedOut_117 : decode cX6_isCarriedOut 117 = .ok (.iload_n 1, 1) := by decide +kernel
theorem dX6_isCarriedOut_118 : decode cX6_isCarriedOut 118 = .ok (.iaload, 1) := by decide +kernel
theorem dX6_isCarriedOut_119 : decode cX6_isCarriedOut 119 = .ok (.aload_n 0, 1) := by decide +kernel
theorem dX6_isCarriedOut_120 : decode cX6_isCarriedOut 120 = .ok (.getfield 31, 3) := by decide +kernel
theorem dX6_isCarriedOut_123 : decode cX6_isCarriedOut 123 = .ok (.iload_n 1, 1) := by decide +kernel
theorem dX6_isCarriedOut_124 : decode cX6_isCarriedOut 124 = .ok (.iaload, 1) := by decide +kernel
theorem dX6_isCarriedOut_125 : decode cX6_isCarriedOut 125 = .ok (.invokevirtual 123, 3) := by decide +kernel
theorem dX6_isCarriedOut_128 : decode cX6_isCarriedOut 128 = .ok (.istore_n 3, 1) := by decide +kernel
theorem dX6_isCarriedOut_129 : decode cX6_isCarriedOut 129 = .ok (.iload_n 2, 1) := by decide +kernel
theorem dX6_isCarriedOut_130 : decode cX6_isCarriedOut 130 = .ok (.ireturn, 1) := by decide +kernel
theorem dX6_runText_0 : decode cX6_runText 0 = .ok (.aload_n 0, 1) := by decide +kernel
theorem dX6_runText_1 : decode cX6_runText 1 = .ok (.iconst 0, 1) := by decide +kernel
theorem dX6_runText_2 : decode cX6_runText 2 = .ok (.putfield 38, 3) := by decide +kernel
theorem dX6_runText_5 : decode cX6_runText 5 = .ok (.aload_n 0, 1) := by decide +kernel
theorem dX6_runText_6 : decode cX6_runText 6 = .ok (.invokevirtual 167, 3) := by decide +kernel
theorem dX6_runText_9 : decode cX6_runText 9 = .ok (.ifCond .ne 9, 3) := by decide +kernel
theorem dX6_runText_12 : decode cX6_runText 12 = .ok (.aload_n 0, 1) := by decide +kernel
theorem dX6_runText_13 : decode cX6_runText 13 = .ok (.iconst 1, 1) := by decide +kernel
theorem dX6_runText_14 : decode cX6_runText 14 = .ok (.invokevirtual 53, 3) := by decide +kernel
theorem dX6_runText_17 : decode cX6_runText 17 = .ok (.ireturn, 1) := by decide +kernel
theorem dX6_runText_18 : decode cX6_runText 18 = .ok (.aload_n 0, 1) := by decide +kernel
theorem dX6_runText_19 : decode cX6_runText 19 = .ok (.invokevirtual 120, 3) := by decide +kernel
theorem dX6_runText_22 : decode cX6_runText 22 = .ok (.iconst 0, 1) := by decide +kernel
theorem dX6_runText_23 : decode cX6_runText 23 = .ok (.istore_n 1, 1) := by decide +kernel
theorem dX6_runText_24 : decode cX6_runText 24 = .ok (.iload_n 1, 1) := by decide +kernel
theorem dX6_runText_25 : decode cX6_runText 25 = .ok (.aload_n 0, 1) := by decide +kernel
theorem dX6_runText_26 : decode cX6_runText 26 = .ok (.getfield 151, 3) := by decide +kernel
theorem dX6_runText_29 : decode cX6_runText 29 = .ok (.if_icmp .ge 17, 3) := by decide +kernel
theorem dX6_runText_32 : decode cX6_runText 32 = .ok (.aload_n 0, 1) := by decide +kernel
theorem dX6_runText_33 : decode cX6_runText 33 = .ok (.iload_n 1, 1) := by decide +kernel
theorem dX6_runText_34 : decode cX6_runText 34 = .ok (.invokevirtual 173, 3) := by decide +kernel
theorem dX6_runText_37 : decode cX6_runText 37 = .ok (.ifCond .eq 9, 3) := by decide +kernel
theorem dX6_runText_40 : decode cX6_runText 40 = .ok (.iinc 1 1, 3) := by decide +kernel
theorem dX6_runText_43 : decode cX6_runText 43 = .ok (.goto (-19), 3) := by decide +kernel
theorem dX6_runText_46 : decode cX6_runText 46 = .ok (.iload_n 1, 1) := by decide +kernel
theorem dX6_runText_47 : decode cX6_runText 47 = .ok (.ireturn, 1) := by decide +kernel
theorem dX6_reel_0 : decode cX6_reel 0 = .ok (.aload_n 0, 1) := by decide +kernel
theorem dX6_reel_1 : decode cX6_reel 1 = .ok (.iconst 0, 1) := by decide +kernel
theorem dX6_reel_2 : decode cX6_reel 2 = .ok (.putfield 38, 3) := by decide +kernel
theorem dX6_reel_5 : decode cX6_reel 5 = .ok (.iload_n 1, 1) := by decide +kernel
theorem dX6_reel_6 : decode cX6_reel 6 = .ok (.invokestatic 130, 3) := by decide +kernel
theorem dX6_reel_9 : decode cX6_reel 9 = .ok (.ifCond .ne 9, 3) := by decide +kernel
theorem dX6_reel_12 : decode cX6_reel 12 = .ok (.aload_n 0, 1) := by decide +kernel
theorem dX6_reel_13 : decode cX6_reel 13 = .ok (.iconst 1, 1) := by decide +kernel
theorem dX6_reel_14 : decode cX6_reel 14 = .ok (.invokevirtual 53, 3) := by decide +kernel
theorem dX6_reel_17 : decode cX6_reel 17 = .ok (.ireturn, 1) := by decide +kernel
theorem dX6_reel_18 : decode cX6_reel 18 = .ok (.iload_n 2, 1) := by decide +kernel
theorem dX6_reel_19 : decode cX6_reel 19 = .ok (.bipush 6, 2) := by decide +kernel
theorem dX6_reel_21 : decode cX6_reel 21 = .ok (.if_icmp .ne 19, 3) := by decide +kernel
theorem dX6_reel_24 : decode cX6_reel 24 = .ok (.aload_n 0, 1) := by decide +kernel
theorem dX6_reel_25 : decode cX6_reel 25 = .ok (.iload_n 1, 1) := by decide +kernel
theorem dX6_reel_26 : decode cX6_reel 26 = .ok (.invokevirtual 67, 3) := by decide +kernel
theorem dX6_reel_29 : decode cX6_reel 29 = .ok (.ifCond .eq 7, 3) := by decide +kernel
theorem dX6_reel_32 : decode cX6_reel 32 = .ok (.iconst 1, 1) := by decide +kernel
theorem dX6_reel_33 : decode cX6_reel 33 = .ok (.goto 30, 3) := by decide +kernel
theorem dX6_reel_36 : decode cX6_reel 36 = .ok (.iconst 0, 1) := by decide +kernel
theorem dX6_reel_37 : decode cX6_reel 37 = .ok (.goto 26, 3) := by decide +kernel
theorem dX6_reel_40 : decode cX6_reel 40 = .ok (.iload_n 2, 1) := by decide +kernel
theorem dX6_reel_41 : decode cX6_reel 41 = .ok (.iconst 0, 1) := by decide +kernel
theorem dX6_reel_42 : decode cX6_reel 42 = .ok (.iconst 5, 1) := by decide +kernel
theorem dX6_reel_43 : decode cX6_reel 43 = .ok (.invokestatic 42, 3) := by decide +kernel
theorem dX6_reel_46 : decode cX6_reel 46 = .ok (.ifCond .eq 12, 3) := by decide +kernel
theorem dX6_reel_49 : decode cX6_reel 49 = .ok (.aload_n 0, 1) := by decide +kernel
theorem dX6_reel_50 : decode cX6_reel 50 = .ok (.iload_n 1, 1) := by decide +kernel
theorem dX6_reel_51 : decode cX6_reel 51 = .ok (.iload_n 2, 1) := by decide +kernel
theorem dX6_reel_52 : decode cX6_reel 52 = .ok (.invokevirtual 46, 3) := by decide +kernel
theorem dX6_reel_55 : decode cX6_reel 55 = .ok (.goto 8, 3) := by decide +kernel
theorem dX6_reel_58 : decode cX6_reel 58 = .ok (.aload_n 0, 1) := by decide +kernel
theorem dX6_reel_59 : decode cX6_reel 59 = .ok (.iconst 2, 1) := by decide +kernel
theorem dX6_reel_60 : decode cX6_reel 60 = .ok (.invokevirtual 53, 3) := by decide +kernel
theorem dX6_reel_63 : decode cX6_reel 63 = .ok (.ireturn, 1) := by decide +kernel
theorem dX6_reelOn_0 : decode cX6_reelOn 0 = .ok (.aload_n 0, 1) := by decide +kernel
theorem dX6_reelOn_1 : decode cX6_reelOn 1 = .ok (.iconst 0, 1) := by decide +kernel
theorem dX6_reelOn_2 : decode cX6_reelOn 2 = .ok (.putfield 38, 3) := by decide +kernel
theorem dX6_reelOn_5 : decode cX6_reelOn 5 = .ok (.iload_n 1, 1) := by decide +kernel
theorem dX6_reelOn_6 : decode cX6_reelOn 6 = .ok (.iconst 0, 1) := by decide +kernel
theorem dX6_reelOn_7 : decode cX6_reelOn 7 = .ok (.iconst 2, 1) := by decide +kernel
theorem dX6_reelOn_8 : decode cX6_reelOn 8 = .ok (.invokestatic 42, 3) := by decide +kernel
theorem dX6_reelOn_11 : decode cX6_reelOn 11 = .ok (.ifCond .eq 11, 3) := by decide +kernel
theorem dX6_reelOn_14 : decode cX6_reelOn 14 = .ok (.aload_n 0, 1) := by decide +kernel
theorem dX6_reelOn_15 : decode cX6_reelOn 15 = .ok (.iload_n 1, 1) := by decide +kernel
theorem dX6_reelOn_16 : decode cX6_reelOn 16 = .ok (.invokevirtual 70, 3) := by decide +kernel
theorem dX6_reelOn_19 : decode cX6_reelOn 19 = .ok (.goto 8, 3) := by decide +kernel
theorem dX6_reelOn_22 : decode cX6_reelOn 22 = .ok (.aload_n 0, 1) := by decide +kernel
theorem dX6_reelOn_23 : decode cX6_reelOn 23 = .ok (.iconst 1, 1) := by decide +kernel
theorem dX6_reelOn_24 : decode cX6_reelOn 24 = .ok (.invokevirtual 53, 3) := by decide +kernel
theorem dX6_reelOn_27 : decode cX6_reelOn 27 = .ok (.ireturn, 1) := by decide +kernel
theorem dX6_scratchReels_0 : decode cX6_scratchReels 0 = .ok (.aload_n 0, 1) := by decide +kernel
theorem dX6_scratchReels_1 : decode cX6_scratchReels 1 = .ok (.iconst 0, 1) := by decide +kernel
theorem dX6_scratchReels_2 : decode cX6_scratchReels 2 = .ok (.putfield 38, 3) := by decide +kernel
theorem dX6_scratchReels_5 : decode cX6_scratchReels 5 = .ok (.iconst 0, 1) := by decide +kernel
theorem dX6_scratchReels_6 : decode cX6_scratchReels 6 = .ok (.istore_n 1, 1) := by decide +kernel
theorem dX6_scratchReels_7 : decode cX6_scratchReels 7 = .ok (.iconst 0, 1) := by decide +kernel
theorem dX6_scratchReels_8 : decode cX6_scratchReels 8 = .ok (.istore_n 2, 1) := by decide +kernel
theorem dX6_scratchReels_9 : decode cX6_scratchReels 9 = .ok (.iload_n 2, 1) := by decide +kernel
theorem dX6_scratchReels_10 : decode cX6_scratchReels 10 = .ok (.bipush 12, 2) := by decide +kernel
theorem dX6_scratchReels_12 : decode cX6_scratchReels 12 = .ok (.if_icmp .ge 25, 3) := by decide +kernel
theorem dX6_scratchReels_15 : decode cX6_scratchReels 15 = .ok (.iload_n 1, 1) := by decide +kernel
theorem dX6_scratchReels_16 : decode cX6_scratchReels 16 = .ok (.aload_n 0, 1) := by decide +kernel
theorem dX6_scratchReels_17 : decode cX6_scratchReels 17 = .ok (.iload_n 2, 1) := by decide +kernel
theorem dX6_scratchReels_18 : decode cX6_scratchReels 18 = .ok (.invokevirtual 67, 3) := by decide +kernel
theorem dX6_scratchReels_21 : decode cX6_scratchReels 21 = .ok (.ifCond .eq 7, 3) := by decide +kernel
theorem dX6_scratchReels_24 : decode cX6_scratchReels 24 = .ok (.iconst 1, 1) := by decide +kernel
theorem dX6_scratchReels_25 : decode cX6_scratchReels 25 = .ok (.goto 4, 3) := by decide +kernel
theorem dX6_scratchReels_28 : decode cX6_scratchReels 28 = .ok (.iconst 0, 1) := by decide +kernel
theorem dX6_scratchReels_29 : decode cX6_scratchReels 29 = .ok (.iadd, 1) := by decide +kernel
theorem dX6_scratchReels_30 : decode cX6_scratchReels 30 = .ok (.istore_n 1, 1) := by decide +kernel
theorem dX6_scratchReels_31 : decode cX6_scratchReels 31 = .ok (.iinc 2 1, 3) := by decide +kernel
theorem dX6_scratchReels_34 : decode cX6_scratchReels 34 = .ok (.goto (-25), 3) := by decide +kernel
theorem dX6_scratchReels_37 : decode cX6_scratchReels 37 = .ok (.iload_n 1, 1) := by decide +kernel
theorem dX6_scratchReels_38 : decode cX6_scratchReels 38 = .ok (.ireturn, 1) := by decide +kernel
theorem dX6_jobs_0 : decode cX6_jobs 0 = .ok (.aload_n 0, 1) := by decide +kernel
theorem dX6_jobs_1 : decode cX6_jobs 1 = .ok (.iconst 0, 1) := by decide +kernel
theorem dX6_jobs_2 : decode cX6_jobs 2 = .ok (.putfield 38, 3) := by decide +kernel
theorem dX6_jobs_5 : decode cX6_jobs 5 = .ok (.aload_n 0, 1) := by decide +kernel
theorem dX6_jobs_6 : decode cX6_jobs 6 = .ok (.getfield 7, 3) := by decide +kernel
theorem dX6_jobs_9 : decode cX6_jobs 9 = .ok (.bipush 82, 2) := by decide +kernel
theorem dX6_jobs_11 : decode cX6_jobs 11 = .ok (.iaload, 1) := by decide +kernel
theorem dX6_jobs_12 : decode cX6_jobs 12 = .ok (.ireturn, 1) := by decide +kernel
theorem dX6_job_0 : decode cX6_job 0 = .ok (.aload_n 0, 1) := by decide +kernel
theorem dX6_job_1 : decode cX6_job 1 = .ok (.iconst 0, 1) := by decide +kernel
theorem dX6_job_2 : decode cX6_job 2 = .ok (.putfield 38, 3) := by decide +kernel
theorem dX6_job_5 : decode cX6_job 5 = .ok (.aload_n 0, 1) := by decide +kernel
theorem dX6_job_6 : decode cX6_job 6 = .ok (.iload_n 1, 1) := by decide +kernel
theorem dX6_job_7 : decode cX6_job 7 = .ok (.invokevirtual 127, 3) := by decide +kernel
theorem dX6_job_10 : decode cX6_job 10 = .ok (.ifCond .ne 9, 3) := by decide +kernel
theorem dX6_job_13 : decode cX6_job 13 = .ok (.aload_n 0, 1) := by decide +kernel
theorem dX6_job_14 : decode cX6_job 14 = .ok (.iconst 1, 1) := by decide +kernel
theorem dX6_job_15 : decode cX6_job 15 = .ok (.invokevirtual 53, 3) := by decide +kernel
theorem dX6_job_18 : decode cX6_job 18 = .ok (.ireturn, 1) := by decide +kernel
theorem dX6_job_19 : decode cX6_job 19 = .ok (.iload_n 2, 1) := by decide +kernel
theorem dX6_job_20 : decode cX6_job 20 = .ok (.iconst 0, 1) := by decide +kernel
theorem dX6_job_21 : decode cX6_job 21 = .ok (.bipush 7, 2) := by decide +kernel
theorem dX6_job_23 : decode cX6_job 23 = .ok (.invokestatic 42, 3) := by decide +kernel
theorem dX6_job_26 : decode cX6_job 26 = .ok (.ifCond .eq 12, 3) := by decide +kernel
theorem dX6_job_29 : decode cX6_job 29 = .ok (.aload_n 0, 1) := by decide +kernel
theorem dX6_job_30 : decode cX6_job 30 = .ok (.iload_n 1, 1) := by decide +kernel
theorem dX6_job_31 : decode cX6_job 31 = .ok (.iload_n 2, 1) := by decide +kernel
theorem dX6_job_32 : decode cX6_job 32 = .ok (.invokevirtual 57, 3) := by decide +kernel
theorem dX6_job_35 : decode cX6_job 35 = .ok (.goto 8, 3) := by decide +kernel
theorem dX6_job_38 : decode cX6_job 38 = .ok (.aload_n 0, 1) := by decide +kernel
theorem dX6_job_39 : decode cX6_job 39 = .ok (.iconst 2, 1) := by decide +kernel
theorem dX6_job_40 : decode cX6_job 40 = .ok (.invokevirtual 53, 3) := by decide +kernel
theorem dX6_job_43 : decode cX6_job 43 = .ok (.ireturn, 1) := by decide +kernel
theorem dX6_isStuck_0 : decode cX6_isStuck 0 = .ok (.aload_n 0, 1) := by decide +kernel
theorem dX6_isStuck_1 : decode cX6_isStuck 1 = .ok (.aload_n 0, 1) := by decide +kernel
theorem dX6_isStuck_2 : decode cX6_isStuck 2 = .ok (.iload_n 1, 1) := by decide +kernel
theorem dX6_isStuck_3 : decode cX6_isStuck 3 = .ok (.invokevirtual 127, 3) := by decide +kernel
theorem dX6_isStuck_6 : decode cX6_isStuck 6 = .ok (.ifCond .eq 7, 3) := by decide +kernel
theorem dX6_isStuck_9 : decode cX6_isStuck 9 = .ok (.iconst 0, 1) := by decide +kernel
theorem dX6_isStuck_10 : decode cX6_isStuck 10 = .ok (.goto 4, 3) := by decide +kernel
theorem dX6_isStuck_13 : decode cX6_isStuck 13 = .ok (.iconst 1, 1) := by decide +kernel
theorem dX6_isStuck_14 : decode cX6_isStuck 14 = .ok (.putfield 38, 3) := by decide +kernel
theorem dX6_isStuck_17 : decode cX6_isStuck 17 = .ok (.aload_n 0, 1) := by decide +kernel
theorem dX6_isStuck_18 : decode cX6_isStuck 18 = .ok (.getfield 38, 3) := by decide +kernel
theorem dX6_isStuck_21 : decode cX6_isStuck 21 = .ok (.ifCond .ne 25, 3) := by decide +kernel
theorem dX6_isStuck_24 : decode cX6_isStuck 24 = .ok (.aload_n 0, 1) := by decide +kernel
theorem dX6_isStuck_25 : decode cX6_isStuck 25 = .ok (.iload_n 1, 1) := by decide +kernel
theorem dX6_isStuck_26 : decode cX6_isStuck 26 = .ok (.iconst 4, 1) := by decide +kernel
theorem dX6_isStuck_27 : decode cX6_isStuck 27 = .ok (.invokevirtual 57, 3) := by decide +kernel
theorem dX6_isStuck_30 : decode cX6_isStuck 30 = .ok (.ifCond .ne 16, 3) := by decide +kernel
theorem dX6_isStuck_33 : decode cX6_isStuck 33 = .ok (.aload_n 0, 1) := by decide +kernel
theorem dX6_isStuck_34 : decode cX6_isStuck 34 = .ok (.iload_n 1, 1) := by decide +kernel
theorem dX6_isStuck_35 : decode cX6_isStuck 35 = .ok (.invokevirtual 64, 3) := by decide +kernel
theorem dX6_isStuck_38 : decode cX6_isStuck 38 = .ok (.iconst (-1), 1) := by decide +kernel
theorem dX6_isStuck_39 : decode cX6_isStuck 39 = .ok (.if_icmp .ne 7, 3) := by decide +kernel
theorem dX6_isStuck_42 : decode cX6_isStuck 42 = .ok (.iconst 1, 1) := by decide +kernel
theorem dX6_isStuck_43 : decode cX6_isStuck 43 = .ok (.goto 4, 3) := by decide +kernel
theorem dX6_isStuck_46 : decode cX6_isStuck 46 = .ok (.iconst 0, 1) := by decide +kernel
theorem dX6_isStuck_47 : decode cX6_isStuck 47 = .ok (.ireturn, 1) := by decide +kernel
theorem dX6_verdict_0 : decode cX6_verdict 0 = .ok (.aload_n 0, 1) := by decide +kernel
theorem dX6_verdict_1 : decode cX6_verdict 1 = .ok (.iconst 0, 1) := by decide +kernel
theorem dX6_verdict_2 : decode cX6_verdict 2 = .ok (.putfield 38, 3) := by decide +kernel
theorem dX6_verdict_5 : decode cX6_verdict 5 = .ok (.aload_n 0, 1) := by decide +kernel
theorem dX6_verdict_6 : decode cX6_verdict 6 = .ok (.iload_n 1, 1) := by decide +kernel
theorem dX6_verdict_7 : decode cX6_verdict 7 = .ok (.invokevirtual 127, 3) := by decide +kernel
theorem dX6_verdict_10 : decode cX6_verdict 10 = .ok (.ifCond .eq 19, 3) := by decide +kernel
theorem dX6_verdict_13 : decode cX6_verdict 13 = .ok (.iload_n 2, 1) := by decide +kernel
theorem dX6_verdict_14 : decode cX6_verdict 14 = .ok (.invokestatic 130, 3) := by decide +kernel
theorem dX6_verdict_17 : decode cX6_verdict 17 = .ok (.ifCond .eq 12, 3) := by decide +kernel
theorem dX6_verdict_20 : decode cX6_verdict 20 = .ok (.aload_n 0, 1) := by decide +kernel
theorem dX6_verdict_21 : decode cX6_verdict 21 = .ok (.iload_n 1, 1) := by decide +kernel
theorem dX6_verdict_22 : decode cX6_verdict 22 = .ok (.iload_n 2, 1) := by decide +kernel
theorem dX6_verdict_23 : decode cX6_verdict 23 = .ok (.invokevirtual 82, 3) := by decide +kernel
theorem dX6_verdict_26 : decode cX6_verdict 26 = .ok (.goto 8, 3) := by decide +kernel
theorem dX6_verdict_29 : decode cX6_verdict 29 = .ok (.aload_n 0, 1) := by decide +kernel
theorem dX6_verdict_30 : decode cX6_verdict 30 = .ok (.iconst 1, 1) := by decide +kernel
theorem dX6_verdict_31 : decode cX6_verdict 31 = .ok (.invokevirtual 53, 3) := by decide +kernel
theorem dX6_verdict_34 : decode cX6_verdict 34 = .ok (.ireturn, 1) := by decide +kernel
theorem dX6_nextJob_0 : decode cX6_nextJob 0 = .ok (.aload_n 0, 1) := by decide +kernel
theorem dX6_nextJob_1 : decode cX6_nextJob 1 = .ok (.iconst 0, 1) := by decide +kernel
theorem dX6_nextJob_2 : decode cX6_nextJob 2 = .ok (.putfield 38, 3) := by decide +kernel
theorem dX6_nextJob_5 : decode cX6_nextJob 5 = .ok (.aload_n 0, 1) := by decide +kernel
theorem dX6_nextJob_6 : decode cX6_nextJob 6 = .ok (.invokevirtual 95, 3) := by decide +kernel
theorem dX6_nextJob_9 : decode cX6_nextJob 9 = .ok (.ireturn, 1) := by decide +kernel
theorem dX6_nextReel_0 : decode cX6_nextReel 0 = .ok (.aload_n 0, 1) := by decide +kernel
theorem dX6_nextReel_1 : decode cX6_nextReel 1 = .ok (.iconst 0, 1) := by decide +kernel
theorem dX6_nextReel_2 : decode cX6_nextReel 2 = .ok (.putfield 38, 3) := by decide +kernel
theorem dX6_nextReel_5 : decode cX6_nextReel 5 = .ok (.aload_n 0, 1) := by decide +kernel
theorem dX6_nextReel_6 : decode cX6_nextReel 6 = .ok (.invokevirtual 95, 3) := by decide +kernel
theorem dX6_nextReel_9 : decode cX6_nextReel 9 = .ok (.istore_n 1, 1) := by decide +kernel
theorem dX6_nextReel_10 : decode cX6_nextReel 10 = .ok (.iload_n 1, 1) := by decide +kernel
theorem dX6_nextReel_11 : decode cX6_nextReel 11 = .ok (.iconst (-1), 1) := by decide +kernel
theorem dX6_nextReel_12 : decode cX6_nextReel 12 = .ok (.if_icmp .ne 7, 3) := by decide +kernel
theorem dX6_nextReel_15 : decode cX6_nextReel 15 = .ok (.iconst (-1), 1) := by decide +kernel
theorem dX6_nextReel_16 : decode cX6_nextReel 16 = .ok (.goto 35, 3) := by decide +kernel
theorem dX6_nextReel_19 : decode cX6_nextReel 19 = .ok (.aload_n 0, 1) := by decide +kernel
theorem dX6_nextReel_20 : decode cX6_nextReel 20 = .ok (.aload_n 0, 1) := by decide +kernel
theorem dX6_nextReel_21 : decode cX6_nextReel 21 = .ok (.getfield 7, 3) := by decide +kernel
theorem dX6_nextReel_24 : decode cX6_nextReel 24 = .ok (.iconst 2, 1) := by decide +kernel
theorem dX6_nextReel_25 : decode cX6_nextReel 25 = .ok (.iaload, 1) := by decide +kernel
theorem dX6_nextReel_26 : decode cX6_nextReel 26 = .ok (.iconst 1, 1) := by decide +kernel
theorem dX6_nextReel_27 : decode cX6_nextReel 27 = .ok (.iadd, 1) := by decide +kernel
theorem dX6_nextReel_28 : decode cX6_nextReel 28 = .ok (.invokevirtual 76, 3) := by decide +kernel
theorem dX6_nextReel_31 : decode cX6_nextReel 31 = .ok (.ifCond .eq 15, 3) := by decide +kernel
theorem dX6_nextReel_34 : decode cX6_nextReel 34 = .ok (.aload_n 0, 1) := by decide +kernel
theorem dX6_nextReel_35 : decode cX6_nextReel 35 = .ok (.aload_n 0, 1) := by decide +kernel
theorem dX6_nextReel_36 : decode cX6_nextReel 36 = .ok (.iload_n 1, 1) := by decide +kernel
theorem dX6_nextReel_37 : decode cX6_nextReel 37 = .ok (.invokevirtual 64, 3) := by decide +kernel
theorem dX6_nextReel_40 : decode cX6_nextReel 40 = .ok (.invokevirtual 79, 3) := by decide +kernel
theorem dX6_nextReel_43 : decode cX6_nextReel 43 = .ok (.goto 8, 3) := by decide +kernel
theorem dX6_nextReel_46 : decode cX6_nextReel 46 = .ok (.aload_n 0, 1) := by decide +kernel
theorem dX6_nextReel_47 : decode cX6_nextReel 47 = .ok (.iload_n 1, 1) := by decide +kernel
theorem dX6_nextReel_48 : decode cX6_nextReel 48 = .ok (.invokevirtual 64, 3) := by decide +kernel
theorem dX6_nextReel_51 : decode cX6_nextReel 51 = .ok (.ireturn, 1) := by decide +kernel
theorem dX6_minutesTo_0 : decode cX6_minutesTo 0 = .ok (.iconst 0, 1) := by decide +kernel
theorem dX6_minutesTo_1 : decode cX6_minutesTo 1 = .ok (.istore_n 2, 1) := by decide +kernel
theorem dX6_minutesTo_2 : decode cX6_minutesTo 2 = .ok (.iload_n 2, 1) := by decide +kernel
theorem dX6_minutesTo_3 : decode cX6_minutesTo 3 = .ok (.sipush 179, 3) := by decide +kernel
theorem dX6_minutesTo_6 : decode cX6_minutesTo 6 = .ok (.if_icmp .ge 21, 3) := by decide +kernel
theorem dX6_minutesTo_9 : decode cX6_minutesTo 9 = .ok (.aload_n 0, 1) := by decide +kernel
theorem dX6_minutesTo_10 : decode cX6_minutesTo 10 = .ok (.getfield 16, 3) := by decide +kernel
theorem dX6_minutesTo_13 : decode cX6_minutesTo 13 = .ok (.iload_n 2, 1) := by decide +kernel
theorem dX6_minutesTo_14 : decode cX6_minutesTo 14 = .ok (.aload_n 0, 1) := by decide +kernel
theorem dX6_minutesTo_15 : decode cX6_minutesTo 15 = .ok (.getfield 7, 3) := by decide +kernel
theorem dX6_minutesTo_18 : decode cX6_minutesTo 18 = .ok (.iload_n 2, 1) := by decide +kernel
theorem dX6_minutesTo_19 : decode cX6_minutesTo 19 = .ok (.iaload, 1) := by decide +kernel
theorem dX6_minutesTo_20 : decode cX6_minutesTo 20 = .ok (.iastore, 1) := by decide +kernel
theorem dX6_minutesTo_21 : decode cX6_minutesTo 21 = .ok (.iinc 2 1, 3) := by decide +kernel
theorem dX6_minutesTo_24 : decode cX6_minutesTo 24 = .ok (.goto (-22), 3) := by decide +kernel
theorem dX6_minutesTo_27 : decode cX6_minutesTo 27 = .ok (.iconst 0, 1) := by decide +kernel
theorem dX6_minutesTo_28 : decode cX6_minutesTo 28 = .ok (.istore_n 2, 1) := by decide +kernel
theorem dX6_minutesTo_29 : decode cX6_minutesTo 29 = .ok (.iload_n 2, 1) := by decide +kernel
theorem dX6_minutesTo_30 : decode cX6_minutesTo 30 = .ok (.sipush 300, 3) := by decide +kernel
theorem dX6_minutesTo_33 : decode cX6_minutesTo 33 = .ok (.if_icmp .ge 24, 3) := by decide +kernel
theorem dX6_minutesTo_36 : decode cX6_minutesTo 36 = .ok (.aload_n 0, 1) := by decide +kernel
theorem dX6_minutesTo_37 : decode cX6_minutesTo 37 = .ok (.iload_n 1, 1) := by decide +kernel
theorem dX6_minutesTo_38 : decode cX6_minutesTo 38 = .ok (.iconst 4, 1) := by decide +kernel
theorem dX6_minutesTo_39 : decode cX6_minutesTo 39 = .ok (.invokevirtual 57, 3) := by decide +kernel
theorem dX6_minutesTo_42 : decode cX6_minutesTo 42 = .ok (.iconst 2, 1) := by decide +kernel
theorem dX6_minutesTo_43 : decode cX6_minutesTo 43 = .ok (.if_icmp .ge 14, 3) := by decide +kernel
theorem dX6_minutesTo_46 : decode cX6_minutesTo 46 = .ok (.aload_n 0, 1) := by decide +kernel
theorem dX6_minutesTo_47 : decode cX6_minutesTo 47 = .ok (.invokevirtual 106, 3) := by decide +kernel
theorem dX6_minutesTo_50 : decode cX6_minutesTo 50 = .ok (.istore_n 3, 1) := by decide +kernel
theorem dX6_minutesTo_51 : decode cX6_minutesTo 51 = .ok (.iinc 2 1, 3) := by decide +kernel
theorem dX6_minutesTo_54 : decode cX6_minutesTo 54 = .ok (.goto (-25), 3) := by decide +kernel
theorem dX6_minutesTo_57 : decode cX6_minutesTo 57 = .ok (.aload_n 0, 1) := by decide +kernel
theorem dX6_minutesTo_58 : decode cX6_minutesTo 58 = .ok (.iload_n 1, 1) := by decide +kernel
theorem dX6_minutesTo_59 : decode cX6_minutesTo 59 = .ok (.iconst 4, 1) := by decide +kernel
theorem dX6_minutesTo_60 : decode cX6_minutesTo 60 = .ok (.invokevirtual 57, 3) := by decide +kernel
theorem dX6_minutesTo_63 : decode cX6_minutesTo 63 = .ok (.iconst 2, 1) := by decide +kernel
theorem dX6_minutesTo_64 : decode cX6_minutesTo 64 = .ok (.if_icmp .ne 7, 3) := by decide +kernel
theorem dX6_minutesTo_67 : decode cX6_minutesTo 67 = .ok (.iload_n 2, 1) := by decide +kernel
theorem dX6_minutesTo_68 : decode cX6_minutesTo 68 = .ok (.goto 4, 3) := by decide +kernel
theorem dX6_minutesTo_71 : decode cX6_minutesTo 71 = .ok (.iconst (-1), 1) := by decide +kernel
theorem dX6_minutesTo_72 : decode cX6_minutesTo 72 = .ok (.istore_n 3, 1) := by decide +kernel
theorem dX6_minutesTo_73 : decode cX6_minutesTo 73 = .ok (.iconst 0, 1) := by decide +kernel
theorem dX6_minutesTo_74 : decode cX6_minutesTo 74 = .ok (.istore 4, 2) := by decide +kernel
theorem dX6_minutesTo_76 : decode cX6_minutesTo 76 = .ok (.iload 4, 2) := by decide +kernel
theorem dX6_minutesTo_78 : decode cX6_minutesTo 78 = .ok (.sipush 179, 3) := by decide +kernel
theorem dX6_minutesTo_81 : decode cX6_minutesTo 81 = .ok (.if_icmp .ge 23, 3) := by decide +kernel
theorem dX6_minutesTo_84 : decode cX6_minutesTo 84 = .ok (.aload_n 0, 1) := by decide +kernel
theorem dX6_minutesTo_85 : decode cX6_minutesTo 85 = .ok (.getfield 7, 3) := by decide +kernel
theorem dX6_minutesTo_88 : decode cX6_minutesTo 88 = .ok (.iload 4, 2) := by decide +kernel
theorem dX6_minutesTo_90 : decode cX6_minutesTo 90 = .ok (.aload_n 0, 1) := by decide +kernel
theorem dX6_minutesTo_91 : decode cX6_minutesTo 91 = .ok (.getfield 16, 3) := by decide +kernel
theorem dX6_minutesTo_94 : decode cX6_minutesTo 94 = .ok (.iload 4, 2) := by decide +kernel
theorem dX6_minutesTo_96 : decode cX6_minutesTo 96 = .ok (.iaload, 1) := by decide +kernel
theorem dX6_minutesTo_97 : decode cX6_minutesTo 97 = .ok (.iastore, 1) := by decide +kernel
theorem dX6_minutesTo_98 : decode cX6_minutesTo 98 = .ok (.iinc 4 1, 3) := by decide +kernel
theorem dX6_minutesTo_101 : decode cX6_minutesTo 101 = .ok (.goto (-25), 3) := by decide +kernel
theorem dX6_minutesTo_104 : decode cX6_minutesTo 104 = .ok (.iload_n 3, 1) := by decide +kernel
theorem dX6_minutesTo_105 : decode cX6_minutesTo 105 = .ok (.ireturn, 1) := by decide +kernel
theorem dX6_minutesToDone_0 : decode cX6_minutesToDone 0 = .ok (.aload_n 0, 1) := by decide +kernel
theorem dX6_minutesToDone_1 : decode cX6_minutesToDone 1 = .ok (.iconst 0, 1) := by decide +kernel
theorem dX6_minutesToDone_2 : decode cX6_minutesToDone 2 = .ok (.putfield 38, 3) := by decide +kernel
theorem dX6_minutesToDone_5 : decode cX6_minutesToDone 5 = .ok (.aload_n 0, 1) := by decide +kernel
theorem dX6_minutesToDone_6 : decode cX6_minutesToDone 6 = .ok (.iload_n 1, 1) := by decide +kernel
theorem dX6_minutesToDone_7 : decode cX6_minutesToDone 7 = .ok (.invokevirtual 127, 3) := by decide +kernel
theorem dX6_minutesToDone_10 : decode cX6_minutesToDone 10 = .ok (.ifCond .eq 11, 3) := by decide +kernel
theorem dX6_minutesToDone_13 : decode cX6_minutesToDone 13 = .ok (.aload_n 0, 1) := by decide +kernel
theorem dX6_minutesToDone_14 : decode cX6_minutesToDone 14 = .ok (.iload_n 1, 1) := by decide +kernel
theorem dX6_minutesToDone_15 : decode cX6_minutesToDone 15 = .ok (.invokevirtual 176, 3) := by decide +kernel
theorem dX6_minutesToDone_18 : decode cX6_minutesToDone 18 = .ok (.goto 8, 3) := by decide +kernel
theorem dX6_minutesToDone_21 : decode cX6_minutesToDone 21 = .ok (.aload_n 0, 1) := by decide +kernel
theorem dX6_minutesToDone_22 : decode cX6_minutesToDone 22 = .ok (.iconst 1, 1) := by decide +kernel
theorem dX6_minutesToDone_23 : decode cX6_minutesToDone 23 = .ok (.invokevirtual 53, 3) := by decide +kernel
theorem dX6_minutesToDone_26 : decode cX6_minutesToDone 26 = .ok (.ireturn, 1) := by decide +kernel
theorem dX6_with_0 : decode cX6_with 0 = .ok (.iconst 0, 1) := by decide +kernel
theorem dX6_with_1 : decode cX6_with 1 = .ok (.istore_n 2, 1) := by decide +kernel
theorem dX6_with_2 : decode cX6_with 2 = .ok (.iconst 0, 1) := by decide +kernel
theorem dX6_with_3 : decode cX6_with 3 = .ok (.istore_n 3, 1) := by decide +kernel
theorem dX6_with_4 : decode cX6_with 4 = .ok (.iload_n 3, 1) := by decide +kernel
theorem dX6_with_5 : decode cX6_with 5 = .ok (.aload_n 0, 1) := by decide +kernel
theorem dX6_with_6 : decode cX6_with 6 = .ok (.getfield 7, 3) := by decide +kernel
theorem dX6_with_9 : decode cX6_with 9 = .ok (.bipush 82, 2) := by decide +kernel
theorem dX6_with_11 : decode cX6_with 11 = .ok (.iaload, 1) := by decide +kernel
theorem dX6_with_12 : decode cX6_with 12 = .ok (.if_icmp .ge 27, 3) := by decide +kernel
theorem dX6_with_15 : decode cX6_with 15 = .ok (.iload_n 2, 1) := by decide +kernel
theorem dX6_with_16 : decode cX6_with 16 = .ok (.aload_n 0, 1) := by decide +kernel
theorem dX6_with_17 : decode cX6_with 17 = .ok (.iload_n 3, 1) := by decide +kernel
theorem dX6_with_18 : decode cX6_with 18 = .ok (.iconst 4, 1) := by decide +kernel
theorem dX6_with_19 : decode cX6_with 19 = .ok (.invokevirtual 57, 3) := by decide +kernel
theorem dX6_with_22 : decode cX6_with 22 = .ok (.iload_n 1, 1) := by decide +kernel
theorem dX6_with_23 : decode cX6_with 23 = .ok (.if_icmp .ne 7, 3) := by decide +kernel
theorem dX6_with_26 : decode cX6_with 26 = .ok (.iconst 1, 1) := by decide +kernel
theorem dX6_with_27 : decode cX6_with 27 = .ok (.goto 4, 3) := by decide +kernel
theorem dX6_with_30 : decode cX6_with 30 = .ok (.iconst 0, 1) := by decide +kernel
theorem dX6_with_31 : decode cX6_with 31 = .ok (.iadd, 1) := by decide +kernel
theorem dX6_with_32 : decode cX6_with 32 = .ok (.istore_n 2, 1) := by decide +kernel
theorem dX6_with_33 : decode cX6_with 33 = .ok (.iinc 3 1, 3) := by decide +kernel
theorem dX6_with_36 : decode cX6_with 36 = .ok (.goto (-32), 3) := by decide +kernel
theorem dX6_with_39 : decode cX6_with 39 = .ok (.iload_n 2, 1) := by decide +kernel
theorem dX6_with_40 : decode cX6_with 40 = .ok (.ireturn, 1) := by decide +kernel
theorem dX6_count_0 : decode cX6_count 0 = .ok (.aload_n 0, 1) := by decide +kernel
theorem dX6_count_1 : decode cX6_count 1 = .ok (.iconst 0, 1) := by decide +kernel
theorem dX6_count_2 : decode cX6_count 2 = .ok (.putfield 38, 3) := by decide +kernel
theorem dX6_count_5 : decode cX6_count 5 = .ok (.iload_n 1, 1) := by decide +kernel
theorem dX6_count_6 : decode cX6_count 6 = .ok (.iconst 0, 1) := by decide +kernel
theorem dX6_count_7 : decode cX6_count 7 = .ok (.bipush 10, 2) := by decide +kernel
theorem dX6_count_9 : decode cX6_count 9 = .ok (.invokestatic 42, 3) := by decide +kernel
theorem dX6_count_12 : decode cX6_count 12 = .ok (.ifCond .ne 11, 3) := by decide +kernel
theorem dX6_count_15 : decode cX6_count 15 = .ok (.aload_n 0, 1) := by decide +kernel
theorem dX6_count_16 : decode cX6_count 16 = .ok (.iconst 1, 1) := by decide +kernel
theorem dX6_count_17 : decode cX6_count 17 = .ok (.invokevirtual 53, 3) := by decide +kernel
theorem dX6_count_20 : decode cX6_count 20 = .ok (.goto 26, 3) := by decide +kernel
theorem dX6_count_23 : decode cX6_count 23 = .ok (.iload_n 1, 1) := by decide +kernel
theorem dX6_count_24 : decode cX6_count 24 = .ok (.bipush 8, 2) := by decide +kernel
theorem dX6_count_26 : decode cX6_count 26 = .ok (.if_icmp .ge 12, 3) := by decide +kernel
theorem dX6_count_29 : decode cX6_count 29 = .ok (.aload_n 0, 1) := by decide +kernel
theorem dX6_count_30 : decode cX6_count 30 = .ok (.getfield 7, 3) := by decide +kernel
theorem dX6_count_33 : decode cX6_count 33 = .ok (.iload_n 1, 1) := by decide +kernel
theorem dX6_count_34 : decode cX6_count 34 = .ok (.iaload, 1) := by decide +kernel
theorem dX6_count_35 : decode cX6_count 35 = .ok (.goto 11, 3) := by decide +kernel
theorem dX6_count_38 : decode cX6_count 38 = .ok (.aload_n 0, 1) := by decide +kernel
theorem dX6_count_39 : decode cX6_count 39 = .ok (.iload_n 1, 1) := by decide +kernel
theorem dX6_count_40 : decode cX6_count 40 = .ok (.bipush 8, 2) := by decide +kernel
theorem dX6_count_42 : decode cX6_count 42 = .ok (.isub, 1) := by decide +kernel
theorem dX6_count_43 : decode cX6_count 43 = .ok (.invokevirtual 179, 3) := by decide +kernel
theorem dX6_count_46 : decode cX6_count 46 = .ok (.ireturn, 1) := by decide +kernel
theorem dX6_success_0 : decode cX6_success 0 = .ok (.aload_n 0, 1) := by decide +kernel
theorem dX6_success_1 : decode cX6_success 1 = .ok (.iconst 0, 1) := by decide +kernel
theorem dX6_success_2 : decode cX6_success 2 = .ok (.putfield 38, 3) := by decide +kernel
theorem dX6_success_5 : decode cX6_success 5 = .ok (.aload_n 0, 1) := by decide +kernel
theorem dX6_success_6 : decode cX6_success 6 = .ok (.getfield 7, 3) := by decide +kernel
theorem dX6_success_9 : decode cX6_success 9 = .ok (.iconst 2, 1) := by decide +kernel
theorem dX6_success_10 : decode cX6_success 10 = .ok (.iaload, 1) := by decide +kernel
theorem dX6_success_11 : decode cX6_success 11 = .ok (.ifCond .ne 7, 3) := by decide +kernel
theorem dX6_success_14 : decode cX6_success 14 = .ok (.dconst 1, 1) := by decide +kernel
theorem dX6_success_15 : decode cX6_success 15 = .ok (.goto 25, 3) := by decide +kernel
theorem dX6_success_18 : decode cX6_success 18 = .ok (.aload_n 0, 1) := by decide +kernel
theorem dX6_success_19 : decode cX6_success 19 = .ok (.getfield 7, 3) := by decide +kernel
theorem dX6_success_22 : decode cX6_success 22 = .ok (.iconst 2, 1) := by decide +kernel
theorem dX6_success_23 : decode cX6_success 23 = .ok (.iaload, 1) := by decide +kernel
theorem dX6_success_24 : decode cX6_success 24 = .ok (.aload_n 0, 1) := by decide +kernel
theorem dX6_success_25 : decode cX6_success 25 = .ok (.getfield 7, 3) := by decide +kernel
theorem dX6_success_28 : decode cX6_success 28 = .ok (.iconst 4, 1) := by decide +kernel
theorem dX6_success_29 : decode cX6_success 29 = .ok (.iaload, 1) := by decide +kernel
theorem dX6_success_30 : decode cX6_success 30 = .ok (.isub, 1) := by decide +kernel
theorem dX6_success_31 : decode cX6_success 31 = .ok (.i2d, 1) := by decide +kernel
theorem dX6_success_32 : decode cX6_success 32 = .ok (.aload_n 0, 1) := by decide +kernel
theorem dX6_success_33 : decode cX6_success 33 = .ok (.getfield 7, 3) := by decide +kernel
theorem dX6_success_36 : decode cX6_success 36 = .ok (.iconst 2, 1) := by decide +kernel
theorem dX6_success_37 : decode cX6_success 37 = .ok (.iaload, 1) := by decide +kernel
theorem dX6_success_38 : decode cX6_success 38 = .ok (.i2d, 1) := by decide +kernel
theorem dX6_success_39 : decode cX6_success 39 = .ok (.ddiv, 1) := by decide +kernel
theorem dX6_success_40 : decode cX6_success 40 = .ok (.dreturn, 1) := by decide +kernel
theorem dX6_savedStates_0 : decode cX6_savedStates 0 = .ok (.aload_n 0, 1) := by decide +kernel
theorem dX6_savedStates_1 : decode cX6_savedStates 1 = .ok (.iconst 0, 1) := by decide +kernel
theorem dX6_savedStates_2 : decode cX6_savedStates 2 = .ok (.putfield 38, 3) := by decide +kernel
theorem dX6_savedStates_5 : decode cX6_savedStates 5 = .ok (.aload_n 0, 1) := by decide +kernel
theorem dX6_savedStates_6 : decode cX6_savedStates 6 = .ok (.getfield 50, 3) := by decide +kernel
theorem dX6_savedStates_9 : decode cX6_savedStates 9 = .ok (.ireturn, 1) := by decide +kernel
theorem dX6_textLength_0 : decode cX6_textLength 0 = .ok (.aload_n 0, 1) := by decide +kernel
theorem dX6_textLength_1 : decode cX6_textLength 1 = .ok (.iconst 0, 1) := by decide +kernel
theorem dX6_textLength_2 : decode cX6_textLength 2 = .ok (.putfield 38, 3) := by decide +kernel
theorem dX6_textLength_5 : decode cX6_textLength 5 = .ok (.aload_n 0, 1) := by decide +kernel
theorem dX6_textLength_6 : decode cX6_textLength 6 = .ok (.getfield 136, 3) := by decide +kernel
theorem dX6_textLength_9 : decode cX6_textLength 9 = .ok (.ireturn, 1) := by decide +kernel
theorem dJ9_floorMod_7cf53_0 : decode cJ9_floorMod_7cf53 0 = .ok (.iload_n 0, 1) := by decide +kernel
theorem dJ9_floorMod_7cf53_1 : decode cJ9_floorMod_7cf53 1 = .ok (.iload_n 1, 1) := by decide +kernel
theorem dJ9_floorMod_7cf53_2 : decode cJ9_floorMod_7cf53 2 = .ok (.irem, 1) := by decide +kernel
theorem dJ9_floorMod_7cf53_3 : decode cJ9_floorMod_7cf53 3 = .ok (.istore_n 2, 1) := by decide +kernel
theorem dJ9_floorMod_7cf53_4 : decode cJ9_floorMod_7cf53 4 = .ok (.iload_n 0, 1) := by decide +kernel
theorem dJ9_floorMod_7cf53_5 : decode cJ9_floorMod_7cf53 5 = .ok (.iload_n 1, 1) := by decide +kernel
theorem dJ9_floorMod_7cf53_6 : decode cJ9_floorMod_7cf53 6 = .ok (.ixor, 1) := by decide +kernel
theorem dJ9_floorMod_7cf53_7 : decode cJ9_floorMod_7cf53 7 = .ok (.ifCond .ge 11, 3) := by decide +kernel
theorem dJ9_floorMod_7cf53_10 : decode cJ9_floorMod_7cf53 10 = .ok (.iload_n 2, 1) := by decide +kernel
theorem dJ9_floorMod_7cf53_11 : decode cJ9_floorMod_7cf53 11 = .ok (.ifCond .eq 7, 3) := by decide +kernel
theorem dJ9_floorMod_7cf53_14 : decode cJ9_floorMod_7cf53 14 = .ok (.iload_n 2, 1) := by decide +kernel
theorem dJ9_floorMod_7cf53_15 : decode cJ9_floorMod_7cf53 15 = .ok (.iload_n 1, 1) := by decide +kernel
theorem dJ9_floorMod_7cf53_16 : decode cJ9_floorMod_7cf53 16 = .ok (.iadd, 1) := by decide +kernel
theorem dJ9_floorMod_7cf53_17 : decode cJ9_floorMod_7cf53 17 = .ok (.ireturn, 1) := by decide +kernel
theorem dJ9_floorMod_7cf53_18 : decode cJ9_floorMod_7cf53 18 = .ok (.iload_n 2, 1) := by decide +kernel
theorem dJ9_floorMod_7cf53_19 : decode cJ9_floorMod_7cf53 19 = .ok (.ireturn, 1) := by decide +kernel
theorem dL_submit_0 : decode cL_submit 0 = .ok (.aload 5, 2) := by decide +kernel
theorem dL_submit_2 : decode cL_submit 2 = .ok (.iconst 0, 1) := by decide +kernel
theorem dL_submit_3 : decode cL_submit 3 = .ok (.aload_n 0, 1) := by decide +kernel
theorem dL_submit_4 : decode cL_submit 4 = .ok (.iload_n 1, 1) := by decide +kernel
theorem dL_submit_5 : decode cL_submit 5 = .ok (.iload_n 2, 1) := by decide +kernel
theorem dL_submit_6 : decode cL_submit 6 = .ok (.iload_n 3, 1) := by decide +kernel
theorem dL_submit_7 : decode cL_submit 7 = .ok (.iload 4, 2) := by decide +kernel
theorem dL_submit_9 : decode cL_submit 9 = .ok (.invokevirtual 7, 3) := by decide +kernel
theorem dL_submit_12 : decode cL_submit 12 = .ok (.i2l, 1) := by decide +kernel
theorem dL_submit_13 : decode cL_submit 13 = .ok (.lastore, 1) := by decide +kernel
theorem dL_submit_14 : decode cL_submit 14 = .ok (.goto 11, 3) := by decide +kernel
theorem dL_submit_17 : decode cL_submit 17 = .ok (.astore 6, 2) := by decide +kernel
theorem dL_submit_19 : decode cL_submit 19 = .ok (.iconst 1, 1) := by decide +kernel
theorem dL_submit_20 : decode cL_submit 20 = .ok (.ireturn, 1) := by decide +kernel
theorem dL_submit_21 : decode cL_submit 21 = .ok (.astore 6, 2) := by decide +kernel
theorem dL_submit_23 : decode cL_submit 23 = .ok (.iconst 2, 1) := by decide +kernel
theorem dL_submit_24 : decode cL_submit 24 = .ok (.ireturn, 1) := by decide +kernel
theorem dL_submit_25 : decode cL_submit 25 = .ok (.iconst 0, 1) := by decide +kernel
theorem dL_submit_26 : decode cL_submit 26 = .ok (.ireturn, 1) := by decide +kernel
theorem dL_cancel_0 : decode cL_cancel 0 = .ok (.aload_n 2, 1) := by decide +kernel
theorem dL_cancel_1 : decode cL_cancel 1 = .ok (.iconst 0, 1) := by decide +kernel
theorem dL_cancel_2 : decode cL_cancel 2 = .ok (.aload_n 0, 1) := by decide +kernel
theorem dL_cancel_3 : decode cL_cancel 3 = .ok (.iload_n 1, 1) := by decide +kernel
theorem dL_cancel_4 : decode cL_cancel 4 = .ok (.invokevirtual 17, 3) := by decide +kernel
theorem dL_cancel_7 : decode cL_cancel 7 = .ok (.i2l, 1) := by decide +kernel
theorem dL_cancel_8 : decode cL_cancel 8 = .ok (.lastore, 1) := by decide +kernel
theorem dL_cancel_9 : decode cL_cancel 9 = .ok (.goto 9, 3) := by decide +kernel
theorem dL_cancel_12 : decode cL_cancel 12 = .ok (.astore_n 3, 1) := by decide +kernel
theorem dL_cancel_13 : decode cL_cancel 13 = .ok (.iconst 1, 1) := by decide +kernel
theorem dL_cancel_14 : decode cL_cancel 14 = .ok (.ireturn, 1) := by decide +kernel
theorem dL_cancel_15 : decode cL_cancel 15 = .ok (.astore_n 3, 1) := by decide +kernel
theorem dL_cancel_16 : decode cL_cancel 16 = .ok (.iconst 2, 1) := by decide +kernel
theorem dL_cancel_17 : decode cL_cancel 17 = .ok (.ireturn, 1) := by decide +kernel
theorem dL_cancel_18 : decode cL_cancel 18 = .ok (.iconst 0, 1) := by decide +kernel
theorem dL_cancel_19 : decode cL_cancel 19 = .ok (.ireturn, 1) := by decide +kernel
theorem dL_setSticker_0 : decode cL_setSticker 0 = .ok (.aload_n 3, 1) := by decide +kernel
theorem dL_setSticker_1 : decode cL_setSticker 1 = .ok (.iconst 0, 1) := by decide +kernel
theorem dL_setSticker_2 : decode cL_setSticker 2 = .ok (.aload_n 0, 1) := by decide +kernel
theorem dL_setSticker_3 : decode cL_setSticker 3 = .ok (.iload_n 1, 1) := by decide +kernel
theorem dL_setSticker_4 : decode cL_setSticker 4 = .ok (.iload_n 2, 1) := by decide +kernel
theorem dL_setSticker_5 : decode cL_setSticker 5 = .ok (.invokevirtual 23, 3) := by decide +kernel
theorem dL_setSticker_8 : decode cL_setSticker 8 = .ok (.i2l, 1) := by decide +kernel
theorem dL_setSticker_9 : decode cL_setSticker 9 = .ok (.lastore, 1) := by decide +kernel
theorem dL_setSticker_10 : decode cL_setSticker 10 = .ok (.goto 11, 3) := by decide +kernel
theorem dL_setSticker_13 : decode cL_setSticker 13 = .ok (.astore 4, 2) := by decide +kernel
theorem dL_setSticker_15 : decode cL_setSticker 15 = .ok (.iconst 1, 1) := by decide +kernel
theorem dL_setSticker_16 : decode cL_setSticker 16 = .ok (.ireturn, 1) := by decide +kernel
theorem dL_setSticker_17 : decode cL_setSticker 17 = .ok (.astore 4, 2) := by decide +kernel
theorem dL_setSticker_19 : decode cL_setSticker 19 = .ok (.iconst 2, 1) := by decide +kernel
theorem dL_setSticker_20 : decode cL_setSticker 20 = .ok (.ireturn, 1) := by decide +kernel
theorem dL_setSticker_21 : decode cL_setSticker 21 = .ok (.iconst 0, 1) := by decide +kernel
theorem dL_setSticker_22 : decode cL_setSticker 22 = .ok (.ireturn, 1) := by decide +kernel
theorem dL_setRing_0 : decode cL_setRing 0 = .ok (.aload_n 3, 1) := by decide +kernel
theorem dL_setRing_1 : decode cL_setRing 1 = .ok (.iconst 0, 1) := by decide +kernel
theorem dL_setRing_2 : decode cL_setRing 2 = .ok (.aload_n 0, 1) := by decide +kernel
theorem dL_setRing_3 : decode cL_setRing 3 = .ok (.iload_n 1, 1) := by decide +kernel
theorem dL_setRing_4 : decode cL_setRing 4 = .ok (.iload_n 2, 1) := by decide +kernel
theorem dL_setRing_5 : decode cL_setRing 5 = .ok (.invokevirtual 27, 3) := by decide +kernel
theorem dL_setRing_8 : decode cL_setRing 8 = .ok (.ifCond .eq 7, 3) := by decide +kernel
theorem dL_setRing_11 : decode cL_setRing 11 = .ok (.lconst 1, 1) := by decide +kernel
theorem dL_setRing_12 : decode cL_setRing 12 = .ok (.goto 4, 3) := by decide +kernel
theorem dL_setRing_15 : decode cL_setRing 15 = .ok (.lconst 0, 1) := by decide +kernel
theorem dL_setRing_16 : decode cL_setRing 16 = .ok (.lastore, 1) := by decide +kernel
theorem dL_setRing_17 : decode cL_setRing 17 = .ok (.goto 11, 3) := by decide +kernel
theorem dL_setRing_20 : decode cL_setRing 20 = .ok (.astore 4, 2) := by decide +kernel
theorem dL_setRing_22 : decode cL_setRing 22 = .ok (.iconst 1, 1) := by decide +kernel
theorem dL_setRing_23 : decode cL_setRing 23 = .ok (.ireturn, 1) := by decide +kernel
theorem dL_setRing_24 : decode cL_setRing 24 = .ok (.astore 4, 2) := by decide +kernel
theorem dL_setRing_26 : decode cL_setRing 26 = .ok (.iconst 2, 1) := by decide +kernel
theorem dL_setRing_27 : decode cL_setRing 27 = .ok (.ireturn, 1) := by decide +kernel
theorem dL_setRing_28 : decode cL_setRing 28 = .ok (.iconst 0, 1) := by decide +kernel
theorem dL_setRing_29 : decode cL_setRing 29 = .ok (.ireturn, 1) := by decide +kernel
theorem dL_pass_0 : decode cL_pass 0 = .ok (.aload_n 2, 1) := by decide +kernel
theorem dL_pass_1 : decode cL_pass 1 = .ok (.iconst 0, 1) := by decide +kernel
theorem dL_pass_2 : decode cL_pass 2 = .ok (.aload_n 0, 1) := by decide +kernel
theorem dL_pass_3 : decode cL_pass 3 = .ok (.iload_n 1, 1) := by decide +kernel
theorem dL_pass_4 : decode cL_pass 4 = .ok (.invokevirtual 31, 3) := by decide +kernel
theorem dL_pass_7 : decode cL_pass 7 = .ok (.i2l, 1) := by decide +kernel
theorem dL_pass_8 : decode cL_pass 8 = .ok (.lastore, 1) := by decide +kernel
theorem dL_pass_9 : decode cL_pass 9 = .ok (.goto 6, 3) := by decide +kernel
theorem dL_pass_12 : decode cL_pass 12 = .ok (.astore_n 3, 1) := by decide +kernel
theorem dL_pass_13 : decode cL_pass 13 = .ok (.iconst 1, 1) := by decide +kernel
theorem dL_pass_14 : decode cL_pass 14 = .ok (.ireturn, 1) := by decide +kernel
theorem dL_pass_15 : decode cL_pass 15 = .ok (.iconst 0, 1) := by decide +kernel
theorem dL_pass_16 : decode cL_pass 16 = .ok (.ireturn, 1) := by decide +kernel
theorem dL_nextDay_0 : decode cL_nextDay 0 = .ok (.aload_n 1, 1) := by decide +kernel
theorem dL_nextDay_1 : decode cL_nextDay 1 = .ok (.iconst 0, 1) := by decide +kernel
theorem dL_nextDay_2 : decode cL_nextDay 2 = .ok (.aload_n 0, 1) := by decide +kernel
theorem dL_nextDay_3 : decode cL_nextDay 3 = .ok (.invokevirtual 34, 3) := by decide +kernel
theorem dL_nextDay_6 : decode cL_nextDay 6 = .ok (.i2l, 1) := by decide +kernel
theorem dL_nextDay_7 : decode cL_nextDay 7 = .ok (.lastore, 1) := by decide +kernel
theorem dL_nextDay_8 : decode cL_nextDay 8 = .ok (.goto 6, 3) := by decide +kernel
theorem dL_nextDay_11 : decode cL_nextDay 11 = .ok (.astore_n 2, 1) := by decide +kernel
theorem dL_nextDay_12 : decode cL_nextDay 12 = .ok (.iconst 1, 1) := by decide +kernel
theorem dL_nextDay_13 : decode cL_nextDay 13 = .ok (.ireturn, 1) := by decide +kernel
theorem dL_nextDay_14 : decode cL_nextDay 14 = .ok (.iconst 0, 1) := by decide +kernel
theorem dL_nextDay_15 : decode cL_nextDay 15 = .ok (.ireturn, 1) := by decide +kernel
theorem dL_set_0 : decode cL_set 0 = .ok (.aload_n 3, 1) := by decide +kernel
theorem dL_set_1 : decode cL_set 1 = .ok (.iconst 0, 1) := by decide +kernel
theorem dL_set_2 : decode cL_set 2 = .ok (.aload_n 0, 1) := by decide +kernel
theorem dL_set_3 : decode cL_set 3 = .ok (.iload_n 1, 1) := by decide +kernel
theorem dL_set_4 : decode cL_set 4 = .ok (.iload_n 2, 1) := by decide +kernel
theorem dL_set_5 : decode cL_set 5 = .ok (.invokevirtual 38, 3) := by decide +kernel
theorem dL_set_8 : decode cL_set 8 = .ok (.i2l, 1) := by decide +kernel
theorem dL_set_9 : decode cL_set 9 = .ok (.lastore, 1) := by decide +kernel
theorem dL_set_10 : decode cL_set 10 = .ok (.goto 11, 3) := by decide +kernel
theorem dL_set_13 : decode cL_set 13 = .ok (.astore 4, 2) := by decide +kernel
theorem dL_set_15 : decode cL_set 15 = .ok (.iconst 1, 1) := by decide +kernel
theorem dL_set_16 : decode cL_set 16 = .ok (.ireturn, 1) := by decide +kernel
theorem dL_set_17 : decode cL_set 17 = .ok (.astore 4, 2) := by decide +kernel
theorem dL_set_19 : decode cL_set 19 = .ok (.iconst 2, 1) := by decide +kernel
theorem dL_set_20 : decode cL_set 20 = .ok (.ireturn, 1) := by decide +kernel
theorem dL_set_21 : decode cL_set 21 = .ok (.iconst 0, 1) := by decide +kernel
theorem dL_set_22 : decode cL_set 22 = .ok (.ireturn, 1) := by decide +kernel
theorem dL_appendText_0 : decode cL_appendText 0 = .ok (.aload_n 2, 1) := by decide +kernel
theorem dL_appendText_1 : decode cL_appendText 1 = .ok (.iconst 0, 1) := by decide +kernel
theorem dL_appendText_2 : decode cL_appendText 2 = .ok (.aload_n 0, 1) := by decide +kernel
theorem dL_appendText_3 : decode cL_appendText 3 = .ok (.iload_n 1, 1) := by decide +kernel
theorem dL_appendText_4 : decode cL_appendText 4 = .ok (.invokevirtual 41, 3) := by decide +kernel
theorem dL_appendText_7 : decode cL_appendText 7 = .ok (.i2l, 1) := by decide +kernel
theorem dL_appendText_8 : decode cL_appendText 8 = .ok (.lastore, 1) := by decide +kernel
theorem dL_appendText_9 : decode cL_appendText 9 = .ok (.goto 9, 3) := by decide +kernel
theorem dL_appendText_12 : decode cL_appendText 12 = .ok (.astore_n 3, 1) := by decide +kernel
theorem dL_appendText_13 : decode cL_appendText 13 = .ok (.iconst 1, 1) := by decide +kernel
theorem dL_appendText_14 : decode cL_appendText 14 = .ok (.ireturn, 1) := by decide +kernel
theorem dL_appendText_15 : decode cL_appendText 15 = .ok (.astore_n 3, 1) := by decide +kernel
theorem dL_appendText_16 : decode cL_appendText 16 = .ok (.iconst 2, 1) := by decide +kernel
theorem dL_appendText_17 : decode cL_appendText 17 = .ok (.ireturn, 1) := by decide +kernel
theorem dL_appendText_18 : decode cL_appendText 18 = .ok (.iconst 0, 1) := by decide +kernel
theorem dL_appendText_19 : decode cL_appendText 19 = .ok (.ireturn, 1) := by decide +kernel
theorem dL_runText_0 : decode cL_runText 0 = .ok (.aload_n 1, 1) := by decide +kernel
theorem dL_runText_1 : decode cL_runText 1 = .ok (.iconst 0, 1) := by decide +kernel
theorem dL_runText_2 : decode cL_runText 2 = .ok (.aload_n 0, 1) := by decide +kernel
theorem dL_runText_3 : decode cL_runText 3 = .ok (.invokevirtual 44, 3) := by decide +kernel
theorem dL_runText_6 : decode cL_runText 6 = .ok (.i2l, 1) := by decide +kernel
theorem dL_runText_7 : decode cL_runText 7 = .ok (.lastore, 1) := by decide +kernel
theorem dL_runText_8 : decode cL_runText 8 = .ok (.goto 6, 3) := by decide +kernel
theorem dL_runText_11 : decode cL_runText 11 = .ok (.astore_n 2, 1) := by decide +kernel
theorem dL_runText_12 : decode cL_runText 12 = .ok (.iconst 1, 1) := by decide +kernel
theorem dL_runText_13 : decode cL_runText 13 = .ok (.ireturn, 1) := by decide +kernel
theorem dL_runText_14 : decode cL_runText 14 = .ok (.iconst 0, 1) := by decide +kernel
theorem dL_runText_15 : decode cL_runText 15 = .ok (.ireturn, 1) := by decide +kernel
theorem dL_undo_0 : decode cL_undo 0 = .ok (.aload_n 1, 1) := by decide +kernel
theorem dL_undo_1 : decode cL_undo 1 = .ok (.iconst 0, 1) := by decide +kernel
theorem dL_undo_2 : decode cL_undo 2 = .ok (.aload_n 0, 1) := by decide +kernel
theorem dL_undo_3 : decode cL_undo 3 = .ok (.invokevirtual 47, 3) := by decide +kernel
theorem dL_undo_6 : decode cL_undo 6 = .ok (.i2l, 1) := by decide +kernel
theorem dL_undo_7 : decode cL_undo 7 = .ok (.lastore, 1) := by decide +kernel
theorem dL_undo_8 : decode cL_undo 8 = .ok (.goto 6, 3) := by decide +kernel
theorem dL_undo_11 : decode cL_undo 11 = .ok (.astore_n 2, 1) := by decide +kernel
theorem dL_undo_12 : decode cL_undo 12 = .ok (.iconst 1, 1) := by decide +kernel
theorem dL_undo_13 : decode cL_undo 13 = .ok (.ireturn, 1) := by decide +kernel
theorem dL_undo_14 : decode cL_undo 14 = .ok (.iconst 0, 1) := by decide +kernel
theorem dL_undo_15 : decode cL_undo 15 = .ok (.ireturn, 1) := by decide +kernel
theorem dL_reel_0 : decode cL_reel 0 = .ok (.aload_n 3, 1) := by decide +kernel
theorem dL_reel_1 : decode cL_reel 1 = .ok (.iconst 0, 1) := by decide +kernel
theorem dL_reel_2 : decode cL_reel 2 = .ok (.aload_n 0, 1) := by decide +kernel
theorem dL_reel_3 : decode cL_reel 3 = .ok (.iload_n 1, 1) := by decide +kernel
theorem dL_reel_4 : decode cL_reel 4 = .ok (.iload_n 2, 1) := by decide +kernel
theorem dL_reel_5 : decode cL_reel 5 = .ok (.invokevirtual 50, 3) := by decide +kernel
theorem dL_reel_8 : decode cL_reel 8 = .ok (.i2l, 1) := by decide +kernel
theorem dL_reel_9 : decode cL_reel 9 = .ok (.lastore, 1) := by decide +kernel
theorem dL_reel_10 : decode cL_reel 10 = .ok (.goto 11, 3) := by decide +kernel
theorem dL_reel_13 : decode cL_reel 13 = .ok (.astore 4, 2) := by decide +kernel
theorem dL_reel_15 : decode cL_reel 15 = .ok (.iconst 1, 1) := by decide +kernel
theorem dL_reel_16 : decode cL_reel 16 = .ok (.ireturn, 1) := by decide +kernel
theorem dL_reel_17 : decode cL_reel 17 = .ok (.astore 4, 2) := by decide +kernel
theorem dL_reel_19 : decode cL_reel 19 = .ok (.iconst 2, 1) := by decide +kernel
theorem dL_reel_20 : decode cL_reel 20 = .ok (.ireturn, 1) := by decide +kernel
theorem dL_reel_21 : decode cL_reel 21 = .ok (.iconst 0, 1) := by decide +kernel
theorem dL_reel_22 : decode cL_reel 22 = .ok (.ireturn, 1) := by decide +kernel
theorem dL_reelOn_0 : decode cL_reelOn 0 = .ok (.aload_n 2, 1) := by decide +kernel
theorem dL_reelOn_1 : decode cL_reelOn 1 = .ok (.iconst 0, 1) := by decide +kernel
theorem dL_reelOn_2 : decode cL_reelOn 2 = .ok (.aload_n 0, 1) := by decide +kernel
theorem dL_reelOn_3 : decode cL_reelOn 3 = .ok (.iload_n 1, 1) := by decide +kernel
theorem dL_reelOn_4 : decode cL_reelOn 4 = .ok (.invokevirtual 53, 3) := by decide +kernel
theorem dL_reelOn_7 : decode cL_reelOn 7 = .ok (.i2l, 1) := by decide +kernel
theorem dL_reelOn_8 : decode cL_reelOn 8 = .ok (.lastore, 1) := by decide +kernel
theorem dL_reelOn_9 : decode cL_reelOn 9 = .ok (.goto 6, 3) := by decide +kernel
theorem dL_reelOn_12 : decode cL_reelOn 12 = .ok (.astore_n 3, 1) := by decide +kernel
theorem dL_reelOn_13 : decode cL_reelOn 13 = .ok (.iconst 1, 1) := by decide +kernel
theorem dL_reelOn_14 : decode cL_reelOn 14 = .ok (.ireturn, 1) := by decide +kernel
theorem dL_reelOn_15 : decode cL_reelOn 15 = .ok (.iconst 0, 1) := by decide +kernel
theorem dL_reelOn_16 : decode cL_reelOn 16 = .ok (.ireturn, 1) := by decide +kernel
theorem dL_job_0 : decode cL_job 0 = .ok (.aload_n 3, 1) := by decide +kernel
theorem dL_job_1 : decode cL_job 1 = .ok (.iconst 0, 1) := by decide +kernel
theorem dL_job_2 : decode cL_job 2 = .ok (.aload_n 0, 1) := by decide +kernel
theorem dL_job_3 : decode cL_job 3 = .ok (.iload_n 1, 1) := by decide +kernel
theorem dL_job_4 : decode cL_job 4 = .ok (.iload_n 2, 1) := by decide +kernel
theorem dL_job_5 : decode cL_job 5 = .ok (.invokevirtual 56, 3) := by decide +kernel
theorem dL_job_8 : decode cL_job 8 = .ok (.i2l, 1) := by decide +kernel
theorem dL_job_9 : decode cL_job 9 = .ok (.lastore, 1) := by decide +kernel
theorem dL_job_10 : decode cL_job 10 = .ok (.goto 11, 3) := by decide +kernel
theorem dL_job_13 : decode cL_job 13 = .ok (.astore 4, 2) := by decide +kernel
theorem dL_job_15 : decode cL_job 15 = .ok (.iconst 1, 1) := by decide +kernel
theorem dL_job_16 : decode cL_job 16 = .ok (.ireturn, 1) := by decide +kernel
theorem dL_job_17 : decode cL_job 17 = .ok (.astore 4, 2) := by decide +kernel
theorem dL_job_19 : decode cL_job 19 = .ok (.iconst 2, 1) := by decide +kernel
theorem dL_job_20 : decode cL_job 20 = .ok (.ireturn, 1) := by decide +kernel
theorem dL_job_21 : decode cL_job 21 = .ok (.iconst 0, 1) := by decide +kernel
theorem dL_job_22 : decode cL_job 22 = .ok (.ireturn, 1) := by decide +kernel
theorem dL_isStuck_0 : decode cL_isStuck 0 = .ok (.aload_n 2, 1) := by decide +kernel
theorem dL_isStuck_1 : decode cL_isStuck 1 = .ok (.iconst 0, 1) := by decide +kernel
theorem dL_isStuck_2 : decode cL_isStuck 2 = .ok (.aload_n 0, 1) := by decide +kernel
theorem dL_isStuck_3 : decode cL_isStuck 3 = .ok (.iload_n 1, 1) := by decide +kernel
theorem dL_isStuck_4 : decode cL_isStuck 4 = .ok (.invokevirtual 59, 3) := by decide +kernel
theorem dL_isStuck_7 : decode cL_isStuck 7 = .ok (.ifCond .eq 7, 3) := by decide +kernel
theorem dL_isStuck_10 : decode cL_isStuck 10 = .ok (.lconst 1, 1) := by decide +kernel
theorem dL_isStuck_11 : decode cL_isStuck 11 = .ok (.goto 4, 3) := by decide +kernel
theorem dL_isStuck_14 : decode cL_isStuck 14 = .ok (.lconst 0, 1) := by decide +kernel
theorem dL_isStuck_15 : decode cL_isStuck 15 = .ok (.lastore, 1) := by decide +kernel
theorem dL_isStuck_16 : decode cL_isStuck 16 = .ok (.goto 6, 3) := by decide +kernel
theorem dL_isStuck_19 : decode cL_isStuck 19 = .ok (.astore_n 3, 1) := by decide +kernel
theorem dL_isStuck_20 : decode cL_isStuck 20 = .ok (.iconst 1, 1) := by decide +kernel
theorem dL_isStuck_21 : decode cL_isStuck 21 = .ok (.ireturn, 1) := by decide +kernel
theorem dL_isStuck_22 : decode cL_isStuck 22 = .ok (.iconst 0, 1) := by decide +kernel
theorem dL_isStuck_23 : decode cL_isStuck 23 = .ok (.ireturn, 1) := by decide +kernel
theorem dL_verdict_0 : decode cL_verdict 0 = .ok (.aload_n 3, 1) := by decide +kernel
theorem dL_verdict_1 : decode cL_verdict 1 = .ok (.iconst 0, 1) := by decide +kernel
theorem dL_verdict_2 : decode cL_verdict 2 = .ok (.aload_n 0, 1) := by decide +kernel
theorem dL_verdict_3 : decode cL_verdict 3 = .ok (.iload_n 1, 1) := by decide +kernel
theorem dL_verdict_4 : decode cL_verdict 4 = .ok (.iload_n 2, 1) := by decide +kernel
theorem dL_verdict_5 : decode cL_verdict 5 = .ok (.invokevirtual 63, 3) := by decide +kernel
theorem dL_verdict_8 : decode cL_verdict 8 = .ok (.i2l, 1) := by decide +kernel
theorem dL_verdict_9 : decode cL_verdict 9 = .ok (.lastore, 1) := by decide +kernel
theorem dL_verdict_10 : decode cL_verdict 10 = .ok (.goto 7, 3) := by decide +kernel
theorem dL_verdict_13 : decode cL_verdict 13 = .ok (.astore 4, 2) := by decide +kernel
theorem dL_verdict_15 : decode cL_verdict 15 = .ok (.iconst 1, 1) := by decide +kernel
theorem dL_verdict_16 : decode cL_verdict 16 = .ok (.ireturn, 1) := by decide +kernel
theorem dL_verdict_17 : decode cL_verdict 17 = .ok (.iconst 0, 1) := by decide +kernel
theorem dL_verdict_18 : decode cL_verdict 18 = .ok (.ireturn, 1) := by decide +kernel
theorem dL_minutesToDone_0 : decode cL_minutesToDone 0 = .ok (.aload_n 2, 1) := by decide +kernel
theorem dL_minutesToDone_1 : decode cL_minutesToDone 1 = .ok (.iconst 0, 1) := by decide +kernel
theorem dL_minutesToDone_2 : decode cL_minutesToDone 2 = .ok (.aload_n 0, 1) := by decide +kernel
theorem dL_minutesToDone_3 : decode cL_minutesToDone 3 = .ok (.iload_n 1, 1) := by decide +kernel
theorem dL_minutesToDone_4 : decode cL_minutesToDone 4 = .ok (.invokevirtual 66, 3) := by decide +kernel
theorem dL_minutesToDone_7 : decode cL_minutesToDone 7 = .ok (.i2l, 1) := by decide +kernel
theorem dL_minutesToDone_8 : decode cL_minutesToDone 8 = .ok (.lastore, 1) := by decide +kernel
theorem dL_minutesToDone_9 : decode cL_minutesToDone 9 = .ok (.goto 6, 3) := by decide +kernel
theorem dL_minutesToDone_12 : decode cL_minutesToDone 12 = .ok (.astore_n 3, 1) := by decide +kernel
theorem dL_minutesToDone_13 : decode cL_minutesToDone 13 = .ok (.iconst 1, 1) := by decide +kernel
theorem dL_minutesToDone_14 : decode cL_minutesToDone 14 = .ok (.ireturn, 1) := by decide +kernel
theorem dL_minutesToDone_15 : decode cL_minutesToDone 15 = .ok (.iconst 0, 1) := by decide +kernel
theorem dL_minutesToDone_16 : decode cL_minutesToDone 16 = .ok (.ireturn, 1) := by decide +kernel
theorem dL_count_0 : decode cL_count 0 = .ok (.aload_n 2, 1) := by decide +kernel
theorem dL_count_1 : decode cL_count 1 = .ok (.iconst 0, 1) := by decide +kernel
theorem dL_count_2 : decode cL_count 2 = .ok (.aload_n 0, 1) := by decide +kernel
theorem dL_count_3 : decode cL_count 3 = .ok (.iload_n 1, 1) := by decide +kernel
theorem dL_count_4 : decode cL_count 4 = .ok (.invokevirtual 69, 3) := by decide +kernel
theorem dL_count_7 : decode cL_count 7 = .ok (.i2l, 1) := by decide +kernel
theorem dL_count_8 : decode cL_count 8 = .ok (.lastore, 1) := by decide +kernel
theorem dL_count_9 : decode cL_count 9 = .ok (.goto 6, 3) := by decide +kernel
theorem dL_count_12 : decode cL_count 12 = .ok (.astore_n 3, 1) := by decide +kernel
theorem dL_count_13 : decode cL_count 13 = .ok (.iconst 1, 1) := by decide +kernel
theorem dL_count_14 : decode cL_count 14 = .ok (.ireturn, 1) := by decide +kernel
theorem dL_count_15 : decode cL_count 15 = .ok (.iconst 0, 1) := by decide +kernel
theorem dL_count_16 : decode cL_count 16 = .ok (.ireturn, 1) := by decide +kernel
theorem dL_law_0 : decode cL_law 0 = .ok (.new 8, 3) := by decide +kernel
theorem dL_law_3 : decode cL_law 3 = .ok (.dup, 1) := by decide +kernel
theorem dL_law_4 : decode cL_law 4 = .ok (.invokespecial 72, 3) := by decide +kernel
theorem dL_law_7 : decode cL_law 7 = .ok (.astore_n 1, 1) := by decide +kernel
theorem dL_law_8 : decode cL_law 8 = .ok (.new 73, 3) := by decide +kernel
theorem dL_law_11 : decode cL_law 11 = .ok (.dup, 1) := by decide +kernel
theorem dL_law_12 : decode cL_law 12 = .ok (.invokespecial 75, 3) := by decide +kernel
theorem dL_law_15 : decode cL_law 15 = .ok (.astore_n 2, 1) := by decide +kernel
theorem dL_law_16 : decode cL_law 16 = .ok (.iconst 1, 1) := by decide +kernel
theorem dL_law_17 : decode cL_law 17 = .ok (.newarray .long, 2) := by decide +kernel
theorem dL_law_19 : decode cL_law 19 = .ok (.astore_n 3, 1) := by decide +kernel
theorem dL_law_20 : decode cL_law 20 = .ok (.iconst 0, 1) := by decide +kernel
theorem dL_law_21 : decode cL_law 21 = .ok (.istore 4, 2) := by decide +kernel
theorem dL_law_23 : decode cL_law 23 = .ok (.iload 4, 2) := by decide +kernel
theorem dL_law_25 : decode cL_law 25 = .ok (.aload_n 0, 1) := by decide +kernel
theorem dL_law_26 : decode cL_law 26 = .ok (.arraylength, 1) := by decide +kernel
theorem dL_law_27 : decode cL_law 27 = .ok (.iconst 5, 1) := by decide +kernel
theorem dL_law_28 : decode cL_law 28 = .ok (.isub, 1) := by decide +kernel
theorem dL_law_29 : decode cL_law 29 = .ok (.if_icmp .gt 1332, 3) := by decide +kernel
theorem dL_law_32 : decode cL_law 32 = .ok (.aload_n 0, 1) := by decide +kernel
theorem dL_law_33 : decode cL_law 33 = .ok (.iload 4, 2) := by decide +kernel
theorem dL_law_35 : decode cL_law 35 = .ok (.iaload, 1) := by decide +kernel
theorem dL_law_36 : decode cL_law 36 = .ok (.bipush 31, 2) := by decide +kernel
theorem dL_law_38 : decode cL_law 38 = .ok (.iand, 1) := by decide +kernel
theorem dL_law_39 : decode cL_law 39 = .ok (.tableswitch 1316 0 25 #[117, 209, 265, 333, 424, 480, 524, 592, 648, 661, 674, 718, 762, 830, 886, 899, 912, 980, 1043, 1111, 1124, 1137, 1193, 1249, 1290, 1303], 117) := by decide +kernel
theorem dL_law_156 : decode cL_law 156 = .ok (.aload_n 1, 1) := by decide +kernel
theorem dL_law_157 : decode cL_law 157 = .ok (.aload_n 0, 1) := by decide +kernel
theorem dL_law_158 : decode cL_law 158 = .ok (.iload 4, 2) := by decide +kernel
theorem dL_law_160 : decode cL_law 160 = .ok (.iconst 1, 1) := by decide +kernel
theorem dL_law_161 : decode cL_law 161 = .ok (.iadd, 1) := by decide +kernel
theorem dL_law_162 : decode cL_law 162 = .ok (.iaload, 1) := by decide +kernel
theorem dL_law_163 : decode cL_law 163 = .ok (.aload_n 0, 1) := by decide +kernel
theorem dL_law_164 : decode cL_law 164 = .ok (.iload 4, 2) := by decide +kernel
theorem dL_law_166 : decode cL_law 166 = .ok (.iconst 2, 1) := by decide +kernel
theorem dL_law_167 : decode cL_law 167 = .ok (.iadd, 1) := by decide +kernel
theorem dL_law_168 : decode cL_law 168 = .ok (.iaload, 1) := by decide +kernel
theorem dL_law_169 : decode cL_law 169 = .ok (.aload_n 0, 1) := by decide +kernel
theorem dL_law_170 : decode cL_law 170 = .ok (.iload 4, 2) := by decide +kernel
theorem dL_law_172 : decode cL_law 172 = .ok (.iconst 3, 1) := by decide +kernel
theorem dL_law_173 : decode cL_law 173 = .ok (.iadd, 1) := by decide +kernel
theorem dL_law_174 : decode cL_law 174 = .ok (.iaload, 1) := by decide +kernel
theorem dL_law_175 : decode cL_law 175 = .ok (.aload_n 0, 1) := by decide +kernel
theorem dL_law_176 : decode cL_law 176 = .ok (.iload 4, 2) := by decide +kernel
theorem dL_law_178 : decode cL_law 178 = .ok (.iconst 4, 1) := by decide +kernel
theorem dL_law_179 : decode cL_law 179 = .ok (.iadd, 1) := by decide +kernel
theorem dL_law_180 : decode cL_law 180 = .ok (.iaload, 1) := by decide +kernel
theorem dL_law_181 : decode cL_law 181 = .ok (.aload_n 3, 1) := by decide +kernel
theorem dL_law_182 : decode cL_law 182 = .ok (.invokestatic 76, 3) := by decide +kernel
theorem dL_law_185 : decode cL_law 185 = .ok (.istore 5, 2) := by decide +kernel
theorem dL_law_187 : decode cL_law 187 = .ok (.aload_n 2, 1) := by decide +kernel
theorem dL_law_188 : decode cL_law 188 = .ok (.aload_n 0, 1) := by decide +kernel
theorem dL_law_189 : decode cL_law 189 = .ok (.iload 4, 2) := by decide +kernel
theorem dL_law_191 : decode cL_law 191 = .ok (.iconst 1, 1) := by decide +kernel
theorem dL_law_192 : decode cL_law 192 = .ok (.iadd, 1) := by decide +kernel
theorem dL_law_193 : decode cL_law 193 = .ok (.iaload, 1) := by decide +kernel
theorem dL_law_194 : decode cL_law 194 = .ok (.aload_n 0, 1) := by decide +kernel
theorem dL_law_195 : decode cL_law 195 = .ok (.iload 4, 2) := by decide +kernel
theorem dL_law_197 : decode cL_law 197 = .ok (.iconst 2, 1) := by decide +kernel
theorem dL_law_198 : decode cL_law 198 = .ok (.iadd, 1) := by decide +kernel
theorem dL_law_199 : decode cL_law 199 = .ok (.iaload, 1) := by decide +kernel
theorem dL_law_200 : decode cL_law 200 = .ok (.aload_n 0, 1) := by decide +kernel
theorem dL_law_201 : decode cL_law 201 = .ok (.iload 4, 2) := by decide +kernel
theorem dL_law_203 : decode cL_law 203 = .ok (.iconst 3, 1) := by decide +kernel
theorem dL_law_204 : decode cL_law 204 = .ok (.iadd, 1) := by decide +kernel
theorem dL_law_205 : decode cL_law 205 = .ok (.iaload, 1) := by decide +kernel
theorem dL_law_206 : decode cL_law 206 = .ok (.aload_n 0, 1) := by decide +kernel
theorem dL_law_207 : decode cL_law 207 = .ok (.iload 4, 2) := by decide +kernel
theorem dL_law_209 : decode cL_law 209 = .ok (.iconst 4, 1) := by decide +kernel
theorem dL_law_210 : decode cL_law 210 = .ok (.iadd, 1) := by decide +kernel
theorem dL_law_211 : decode cL_law 211 = .ok (.iaload, 1) := by decide +kernel
theorem dL_law_212 : decode cL_law 212 = .ok (.invokevirtual 81, 3) := by decide +kernel
theorem dL_law_215 : decode cL_law 215 = .ok (.istore 6, 2) := by decide +kernel
theorem dL_law_217 : decode cL_law 217 = .ok (.aload_n 2, 1) := by decide +kernel
theorem dL_law_218 : decode cL_law 218 = .ok (.invokevirtual 82, 3) := by decide +kernel
theorem dL_law_221 : decode cL_law 221 = .ok (.iload 5, 2) := by decide +kernel
theorem dL_law_223 : decode cL_law 223 = .ok (.if_icmp .eq 5, 3) := by decide +kernel
theorem dL_law_226 : decode cL_law 226 = .ok (.iconst 0, 1) := by decide +kernel
theorem dL_law_227 : decode cL_law 227 = .ok (.ireturn, 1) := by decide +kernel
theorem dL_law_228 : decode cL_law 228 = .ok (.iload 5, 2) := by decide +kernel
theorem dL_law_230 : decode cL_law 230 = .ok (.ifCond .ne 15, 3) := by decide +kernel
theorem dL_law_233 : decode cL_law 233 = .ok (.aload_n 3, 1) := by decide +kernel
theorem dL_law_234 : decode cL_law 234 = .ok (.iconst 0, 1) := by decide +kernel
theorem dL_law_235 : decode cL_law 235 = .ok (.laload, 1) := by decide +kernel
theorem dL_law_236 : decode cL_law 236 = .ok (.iload 6, 2) := by decide +kernel
theorem dL_law_238 : decode cL_law 238 = .ok (.i2l, 1) := by decide +kernel
theorem dL_law_239 : decode cL_law 239 = .ok (.lcmp, 1) := by decide +kernel
theorem dL_law_240 : decode cL_law 240 = .ok (.ifCond .eq 5, 3) := by decide +kernel
theorem dL_law_243 : decode cL_law 243 = .ok (.iconst 0, 1) := by decide +kernel
theorem dL_law_244 : decode cL_law 244 = .ok (.ireturn, 1) := by decide +kernel
theorem dL_law_245 : decode cL_law 245 = .ok (.goto 1110, 3) := by decide +kernel
theorem dL_law_248 : decode cL_law 248 = .ok (.aload_n 1, 1) := by decide +kernel
theorem dL_law_249 : decode cL_law 249 = .ok (.aload_n 0, 1) := by decide +kernel
theorem dL_law_250 : decode cL_law 250 = .ok (.iload 4, 2) := by decide +kernel
theorem dL_law_252 : decode cL_law 252 = .ok (.iconst 1, 1) := by decide +kernel
theorem dL_law_253 : decode cL_law 253 = .ok (.iadd, 1) := by decide +kernel
theorem dL_law_254 : decode cL_law 254 = .ok (.iaload, 1) := by decide +kernel
theorem dL_law_255 : decode cL_law 255 = .ok (.aload_n 3, 1) := by decide +kernel
theorem dL_law_256 : decode cL_law 256 = .ok (.invokestatic 85, 3) := by decide +kernel
theorem dL_law_259 : decode cL_law 259 = .ok (.istore 5, 2) := by decide +kernel
theorem dL_law_261 : decode cL_law 261 = .ok (.aload_n 2, 1) := by decide +kernel
theorem dL_law_262 : decode cL_law 262 = .ok (.aload_n 0, 1) := by decide +kernel
theorem dL_law_263 : decode cL_law 263 = .ok (.iload 4, 2) := by decide +kernel
theorem dL_law_265 : decode cL_law 265 = .ok (.iconst 1, 1) := by decide +kernel
theorem dL_law_266 : decode cL_law 266 = .ok (.iadd, 1) := by decide +kernel
theorem dL_law_267 : decode cL_law 267 = .ok (.iaload, 1) := by decide +kernel
theorem dL_law_268 : decode cL_law 268 = .ok (.invokevirtual 88, 3) := by decide +kernel
theorem dL_law_271 : decode cL_law 271 = .ok (.istore 6, 2) := by decide +kernel
theorem dL_law_273 : decode cL_law 273 = .ok (.aload_n 2, 1) := by decide +kernel
theorem dL_law_274 : decode cL_law 274 = .ok (.invokevirtual 82, 3) := by decide +kernel
theorem dL_law_277 : decode cL_law 277 = .ok (.iload 5, 2) := by decide +kernel
theorem dL_law_279 : decode cL_law 279 = .ok (.if_icmp .eq 5, 3) := by decide +kernel
theorem dL_law_282 : decode cL_law 282 = .ok (.iconst 0, 1) := by decide +kernel
theorem dL_law_283 : decode cL_law 283 = .ok (.ireturn, 1) := by decide +kernel
theorem dL_law_284 : decode cL_law 284 = .ok (.iload 5, 2) := by decide +kernel
theorem dL_law_286 : decode cL_law 286 = .ok (.ifCond .ne 15, 3) := by decide +kernel
theorem dL_law_289 : decode cL_law 289 = .ok (.aload_n 3, 1) := by decide +kernel
theorem dL_law_290 : decode cL_law 290 = .ok (.iconst 0, 1) := by decide +kernel
theorem dL_law_291 : decode cL_law 291 = .ok (.laload, 1) := by decide +kernel
theorem dL_law_292 : decode cL_law 292 = .ok (.iload 6, 2) := by decide +kernel
theorem dL_law_294 : decode cL_law 294 = .ok (.i2l, 1) := by decide +kernel
theorem dL_law_295 : decode cL_law 295 = .ok (.lcmp, 1) := by decide +kernel
theorem dL_law_296 : decode cL_law 296 = .ok (.ifCond .eq 5, 3) := by decide +kernel
theorem dL_law_299 : decode cL_law 299 = .ok (.iconst 0, 1) := by decide +kernel
theorem dL_law_300 : decode cL_law 300 = .ok (.ireturn, 1) := by decide +kernel
theorem dL_law_301 : decode cL_law 301 = .ok (.goto 1054, 3) := by decide +kernel
theorem dL_law_304 : decode cL_law 304 = .ok (.aload_n 1, 1) := by decide +kernel
theorem dL_law_305 : decode cL_law 305 = .ok (.aload_n 0, 1) := by decide +kernel
theorem dL_law_306 : decode cL_law 306 = .ok (.iload 4, 2) := by decide +kernel
theorem dL_law_308 : decode cL_law 308 = .ok (.iconst 1, 1) := by decide +kernel
theorem dL_law_309 : decode cL_law 309 = .ok (.iadd, 1) := by decide +kernel
theorem dL_law_310 : decode cL_law 310 = .ok (.iaload, 1) := by decide +kernel
theorem dL_law_311 : decode cL_law 311 = .ok (.aload_n 0, 1) := by decide +kernel
theorem dL_law_312 : decode cL_law 312 = .ok (.iload 4, 2) := by decide +kernel
theorem dL_law_314 : decode cL_law 314 = .ok (.iconst 2, 1) := by decide +kernel
theorem dL_law_315 : decode cL_law 315 = .ok (.iadd, 1) := by decide +kernel
theorem dL_law_316 : decode cL_law 316 = .ok (.iaload, 1) := by decide +kernel
theorem dL_law_317 : decode cL_law 317 = .ok (.aload_n 3, 1) := by decide +kernel
theorem dL_law_318 : decode cL_law 318 = .ok (.invokestatic 89, 3) := by decide +kernel
theorem dL_law_321 : decode cL_law 321 = .ok (.istore 5, 2) := by decide +kernel
theorem dL_law_323 : decode cL_law 323 = .ok (.aload_n 2, 1) := by decide +kernel
theorem dL_law_324 : decode cL_law 324 = .ok (.aload_n 0, 1) := by decide +kernel
theorem dL_law_325 : decode cL_law 325 = .ok (.iload 4, 2) := by decide +kernel
theorem dL_law_327 : decode cL_law 327 = .ok (.iconst 1, 1) := by decide +kernel
theorem dL_law_328 : decode cL_law 328 = .ok (.iadd, 1) := by decide +kernel
theorem dL_law_329 : decode cL_law 329 = .ok (.iaload, 1) := by decide +kernel
theorem dL_law_330 : decode cL_law 330 = .ok (.aload_n 0, 1) := by decide +kernel
theorem dL_law_331 : decode cL_law 331 = .ok (.iload 4, 2) := by decide +kernel
theorem dL_law_333 : decode cL_law 333 = .ok (.iconst 2, 1) := by decide +kernel
theorem dL_law_334 : decode cL_law 334 = .ok (.iadd, 1) := by decide +kernel
theorem dL_law_335 : decode cL_law 335 = .ok (.iaload, 1) := by decide +kernel
theorem dL_law_336 : decode cL_law 336 = .ok (.invokevirtual 92, 3) := by decide +kernel
theorem dL_law_339 : decode cL_law 339 = .ok (.istore 6, 2) := by decide +kernel
theorem dL_law_341 : decode cL_law 341 = .ok (.aload_n 2, 1) := by decide +kernel
theorem dL_law_342 : decode cL_law 342 = .ok (.invokevirtual 82, 3) := by decide +kernel
theorem dL_law_345 : decode cL_law 345 = .ok (.iload 5, 2) := by decide +kernel
theorem dL_law_347 : decode cL_law 347 = .ok (.if_icmp .eq 5, 3) := by decide +kernel
theorem dL_law_350 : decode cL_law 350 = .ok (.iconst 0, 1) := by decide +kernel
theorem dL_law_351 : decode cL_law 351 = .ok (.ireturn, 1) := by decide +kernel
theorem dL_law_352 : decode cL_law 352 = .ok (.iload 5, 2) := by decide +kernel
theorem dL_law_354 : decode cL_law 354 = .ok (.ifCond .ne 15, 3) := by decide +kernel
theorem dL_law_357 : decode cL_law 357 = .ok (.aload_n 3, 1) := by decide +kernel
theorem dL_law_358 : decode cL_law 358 = .ok (.iconst 0, 1) := by decide +kernel
theorem dL_law_359 : decode cL_law 359 = .ok (.laload, 1) := by decide +kernel
theorem dL_law_360 : decode cL_law 360 = .ok (.iload 6, 2) := by decide +kernel
theorem dL_law_362 : decode cL_law 362 = .ok (.i2l, 1) := by decide +kernel
theorem dL_law_363 : decode cL_law 363 = .ok (.lcmp, 1) := by decide +kernel
theorem dL_law_364 : decode cL_law 364 = .ok (.ifCond .eq 5, 3) := by decide +kernel
theorem dL_law_367 : decode cL_law 367 = .ok (.iconst 0, 1) := by decide +kernel
theorem dL_law_368 : decode cL_law 368 = .ok (.ireturn, 1) := by decide +kernel
theorem dL_law_369 : decode cL_law 369 = .ok (.goto 986, 3) := by decide +kernel
theorem dL_law_372 : decode cL_law 372 = .ok (.aload_n 1, 1) := by decide +kernel
theorem dL_law_373 : decode cL_law 373 = .ok (.aload_n 0, 1) := by decide +kernel
theorem dL_law_374 : decode cL_law 374 = .ok (.iload 4, 2) := by decide +kernel
theorem dL_law_376 : decode cL_law 376 = .ok (.iconst 1, 1) := by decide +kernel
theorem dL_law_377 : decode cL_law 377 = .ok (.iadd, 1) := by decide +kernel
theorem dL_law_378 : decode cL_law 378 = .ok (.iaload, 1) := by decide +kernel
theorem dL_law_379 : decode cL_law 379 = .ok (.aload_n 0, 1) := by decide +kernel
theorem dL_law_380 : decode cL_law 380 = .ok (.iload 4, 2) := by decide +kernel
theorem dL_law_382 : decode cL_law 382 = .ok (.iconst 2, 1) := by decide +kernel
theorem dL_law_383 : decode cL_law 383 = .ok (.iadd, 1) := by decide +kernel
theorem dL_law_384 : decode cL_law 384 = .ok (.iaload, 1) := by decide +kernel
theorem dL_law_385 : decode cL_law 385 = .ok (.ifCond .eq 7, 3) := by decide +kernel
theorem dL_law_388 : decode cL_law 388 = .ok (.iconst 1, 1) := by decide +kernel
theorem dL_law_389 : decode cL_law 389 = .ok (.goto 4, 3) := by decide +kernel
theorem dL_law_392 : decode cL_law 392 = .ok (.iconst 0, 1) := by decide +kernel
theorem dL_law_393 : decode cL_law 393 = .ok (.aload_n 3, 1) := by decide +kernel
theorem dL_law_394 : decode cL_law 394 = .ok (.invokestatic 93, 3) := by decide +kernel
theorem dL_law_397 : decode cL_law 397 = .ok (.istore 5, 2) := by decide +kernel
theorem dL_law_399 : decode cL_law 399 = .ok (.aload_n 2, 1) := by decide +kernel
theorem dL_law_400 : decode cL_law 400 = .ok (.aload_n 0, 1) := by decide +kernel
theorem dL_law_401 : decode cL_law 401 = .ok (.iload 4, 2) := by decide +kernel
theorem dL_law_403 : decode cL_law 403 = .ok (.iconst 1, 1) := by decide +kernel
theorem dL_law_404 : decode cL_law 404 = .ok (.iadd, 1) := by decide +kernel
theorem dL_law_405 : decode cL_law 405 = .ok (.iaload, 1) := by decide +kernel
theorem dL_law_406 : decode cL_law 406 = .ok (.aload_n 0, 1) := by decide +kernel
theorem dL_law_407 : decode cL_law 407 = .ok (.iload 4, 2) := by decide +kernel
theorem dL_law_409 : decode cL_law 409 = .ok (.iconst 2, 1) := by decide +kernel
theorem dL_law_410 : decode cL_law 410 = .ok (.iadd, 1) := by decide +kernel
theorem dL_law_411 : decode cL_law 411 = .ok (.iaload, 1) := by decide +kernel
theorem dL_law_412 : decode cL_law 412 = .ok (.ifCond .eq 7, 3) := by decide +kernel
theorem dL_law_415 : decode cL_law 415 = .ok (.iconst 1, 1) := by decide +kernel
theorem dL_law_416 : decode cL_law 416 = .ok (.goto 4, 3) := by decide +kernel
theorem dL_law_419 : decode cL_law 419 = .ok (.iconst 0, 1) := by decide +kernel
theorem dL_law_420 : decode cL_law 420 = .ok (.invokevirtual 96, 3) := by decide +kernel
theorem dL_law_423 : decode cL_law 423 = .ok (.istore 6, 2) := by decide +kernel
theorem dL_law_425 : decode cL_law 425 = .ok (.aload_n 2, 1) := by decide +kernel
theorem dL_law_426 : decode cL_law 426 = .ok (.invokevirtual 82, 3) := by decide +kernel
theorem dL_law_429 : decode cL_law 429 = .ok (.iload 5, 2) := by decide +kernel
theorem dL_law_431 : decode cL_law 431 = .ok (.if_icmp .eq 5, 3) := by decide +kernel
theorem dL_law_434 : decode cL_law 434 = .ok (.iconst 0, 1) := by decide +kernel
theorem dL_law_435 : decode cL_law 435 = .ok (.ireturn, 1) := by decide +kernel
theorem dL_law_436 : decode cL_law 436 = .ok (.iload 5, 2) := by decide +kernel
theorem dL_law_438 : decode cL_law 438 = .ok (.ifCond .ne 22, 3) := by decide +kernel
theorem dL_law_441 : decode cL_law 441 = .ok (.aload_n 3, 1) := by decide +kernel
theorem dL_law_442 : decode cL_law 442 = .ok (.iconst 0, 1) := by decide +kernel
theorem dL_law_443 : decode cL_law 443 = .ok (.laload, 1) := by decide +kernel
theorem dL_law_444 : decode cL_law 444 = .ok (.iload 6, 2) := by decide +kernel
theorem dL_law_446 : decode cL_law 446 = .ok (.ifCond .eq 7, 3) := by decide +kernel
theorem dL_law_449 : decode cL_law 449 = .ok (.lconst 1, 1) := by decide +kernel
theorem dL_law_450 : decode cL_law 450 = .ok (.goto 4, 3) := by decide +kernel
theorem dL_law_453 : decode cL_law 453 = .ok (.lconst 0, 1) := by decide +kernel
theorem dL_law_454 : decode cL_law 454 = .ok (.lcmp, 1) := by decide +kernel
theorem dL_law_455 : decode cL_law 455 = .ok (.ifCond .eq 5, 3) := by decide +kernel
theorem dL_law_458 : decode cL_law 458 = .ok (.iconst 0, 1) := by decide +kernel
theorem dL_law_459 : decode cL_law 459 = .ok (.ireturn, 1) := by decide +kernel
theorem dL_law_460 : decode cL_law 460 = .ok (.goto 895, 3) := by decide +kernel
theorem dL_law_463 : decode cL_law 463 = .ok (.aload_n 1, 1) := by decide +kernel
theorem dL_law_464 : decode cL_law 464 = .ok (.aload_n 0, 1) := by decide +kernel
theorem dL_law_465 : decode cL_law 465 = .ok (.iload 4, 2) := by decide +kernel
theorem dL_law_467 : decode cL_law 467 = .ok (.iconst 1, 1) := by decide +kernel
theorem dL_law_468 : decode cL_law 468 = .ok (.iadd, 1) := by decide +kernel
theorem dL_law_469 : decode cL_law 469 = .ok (.iaload, 1) := by decide +kernel
theorem dL_law_470 : decode cL_law 470 = .ok (.aload_n 3, 1) := by decide +kernel
theorem dL_law_471 : decode cL_law 471 = .ok (.invokestatic 97, 3) := by decide +kernel
theorem dL_law_474 : decode cL_law 474 = .ok (.istore 5, 2) := by decide +kernel
theorem dL_law_476 : decode cL_law 476 = .ok (.aload_n 2, 1) := by decide +kernel
theorem dL_law_477 : decode cL_law 477 = .ok (.aload_n 0, 1) := by decide +kernel
theorem dL_law_478 : decode cL_law 478 = .ok (.iload 4, 2) := by decide +kernel
theorem dL_law_480 : decode cL_law 480 = .ok (.iconst 1, 1) := by decide +kernel
theorem dL_law_481 : decode cL_law 481 = .ok (.iadd, 1) := by decide +kernel
theorem dL_law_482 : decode cL_law 482 = .ok (.iaload, 1) := by decide +kernel
theorem dL_law_483 : decode cL_law 483 = .ok (.invokevirtual 99, 3) := by decide +kernel
theorem dL_law_486 : decode cL_law 486 = .ok (.istore 6, 2) := by decide +kernel
theorem dL_law_488 : decode cL_law 488 = .ok (.aload_n 2, 1) := by decide +kernel
theorem dL_law_489 : decode cL_law 489 = .ok (.invokevirtual 82, 3) := by decide +kernel
theorem dL_law_492 : decode cL_law 492 = .ok (.iload 5, 2) := by decide +kernel
theorem dL_law_494 : decode cL_law 494 = .ok (.if_icmp .eq 5, 3) := by decide +kernel
theorem dL_law_497 : decode cL_law 497 = .ok (.iconst 0, 1) := by decide +kernel
theorem dL_law_498 : decode cL_law 498 = .ok (.ireturn, 1) := by decide +kernel
theorem dL_law_499 : decode cL_law 499 = .ok (.iload 5, 2) := by decide +kernel
theorem dL_law_501 : decode cL_law 501 = .ok (.ifCond .ne 15, 3) := by decide +kernel
theorem dL_law_504 : decode cL_law 504 = .ok (.aload_n 3, 1) := by decide +kernel
theorem dL_law_505 : decode cL_law 505 = .ok (.iconst 0, 1) := by decide +kernel
theorem dL_law_506 : decode cL_law 506 = .ok (.laload, 1) := by decide +kernel
theorem dL_law_507 : decode cL_law 507 = .ok (.iload 6, 2) := by decide +kernel
theorem dL_law_509 : decode cL_law 509 = .ok (.i2l, 1) := by decide +kernel
theorem dL_law_510 : decode cL_law 510 = .ok (.lcmp, 1) := by decide +kernel
theorem dL_law_511 : decode cL_law 511 = .ok (.ifCond .eq 5, 3) := by decide +kernel
theorem dL_law_514 : decode cL_law 514 = .ok (.iconst 0, 1) := by decide +kernel
theorem dL_law_515 : decode cL_law 515 = .ok (.ireturn, 1) := by decide +kernel
theorem dL_law_516 : decode cL_law 516 = .ok (.goto 839, 3) := by decide +kernel
theorem dL_law_519 : decode cL_law 519 = .ok (.aload_n 1, 1) := by decide +kernel
theorem dL_law_520 : decode cL_law 520 = .ok (.aload_n 3, 1) := by decide +kernel
theorem dL_law_521 : decode cL_law 521 = .ok (.invokestatic 100, 3) := by decide +kernel
theorem dL_law_524 : decode cL_law 524 = .ok (.istore 5, 2) := by decide +kernel
theorem dL_law_526 : decode cL_law 526 = .ok (.aload_n 2, 1) := by decide +kernel
theorem dL_law_527 : decode cL_law 527 = .ok (.invokevirtual 103, 3) := by decide +kernel
theorem dL_law_530 : decode cL_law 530 = .ok (.istore 6, 2) := by decide +kernel
theorem dL_law_532 : decode cL_law 532 = .ok (.aload_n 2, 1) := by decide +kernel
theorem dL_law_533 : decode cL_law 533 = .ok (.invokevirtual 82, 3) := by decide +kernel
theorem dL_law_536 : decode cL_law 536 = .ok (.iload 5, 2) := by decide +kernel
theorem dL_law_538 : decode cL_law 538 = .ok (.if_icmp .eq 5, 3) := by decide +kernel
theorem dL_law_541 : decode cL_law 541 = .ok (.iconst 0, 1) := by decide +kernel
theorem dL_law_542 : decode cL_law 542 = .ok (.ireturn, 1) := by decide +kernel
theorem dL_law_543 : decode cL_law 543 = .ok (.iload 5, 2) := by decide +kernel
theorem dL_law_545 : decode cL_law 545 = .ok (.ifCond .ne 15, 3) := by decide +kernel
theorem dL_law_548 : decode cL_law 548 = .ok (.aload_n 3, 1) := by decide +kernel
theorem dL_law_549 : decode cL_law 549 = .ok (.iconst 0, 1) := by decide +kernel
theorem dL_law_550 : decode cL_law 550 = .ok (.laload, 1) := by decide +kernel
theorem dL_law_551 : decode cL_law 551 = .ok (.iload 6, 2) := by decide +kernel
theorem dL_law_553 : decode cL_law 553 = .ok (.i2l, 1) := by decide +kernel
theorem dL_law_554 : decode cL_law 554 = .ok (.lcmp, 1) := by decide +kernel
theorem dL_law_555 : decode cL_law 555 = .ok (.ifCond .eq 5, 3) := by decide +kernel
theorem dL_law_558 : decode cL_law 558 = .ok (.iconst 0, 1) := by decide +kernel
theorem dL_law_559 : decode cL_law 559 = .ok (.ireturn, 1) := by decide +kernel
theorem dL_law_560 : decode cL_law 560 = .ok (.goto 795, 3) := by decide +kernel
theorem dL_law_563 : decode cL_law 563 = .ok (.aload_n 1, 1) := by decide +kernel
theorem dL_law_564 : decode cL_law 564 = .ok (.aload_n 0, 1) := by decide +kernel
theorem dL_law_565 : decode cL_law 565 = .ok (.iload 4, 2) := by decide +kernel
theorem dL_law_567 : decode cL_law 567 = .ok (.iconst 1, 1) := by decide +kernel
theorem dL_law_568 : decode cL_law 568 = .ok (.iadd, 1) := by decide +kernel
theorem dL_law_569 : decode cL_law 569 = .ok (.iaload, 1) := by decide +kernel
theorem dL_law_570 : decode cL_law 570 = .ok (.aload_n 0, 1) := by decide +kernel
theorem dL_law_571 : decode cL_law 571 = .ok (.iload 4, 2) := by decide +kernel
theorem dL_law_573 : decode cL_law 573 = .ok (.iconst 2, 1) := by decide +kernel
theorem dL_law_574 : decode cL_law 574 = .ok (.iadd, 1) := by decide +kernel
theorem dL_law_575 : decode cL_law 575 = .ok (.iaload, 1) := by decide +kernel
theorem dL_law_576 : decode cL_law 576 = .ok (.aload_n 3, 1) := by decide +kernel
theorem dL_law_577 : decode cL_law 577 = .ok (.invokestatic 104, 3) := by decide +kernel
theorem dL_law_580 : decode cL_law 580 = .ok (.istore 5, 2) := by decide +kernel
theorem dL_law_582 : decode cL_law 582 = .ok (.aload_n 2, 1) := by decide +kernel
theorem dL_law_583 : decode cL_law 583 = .ok (.aload_n 0, 1) := by decide +kernel
theorem dL_law_584 : decode cL_law 584 = .ok (.iload 4, 2) := by decide +kernel
theorem dL_law_586 : decode cL_law 586 = .ok (.iconst 1, 1) := by decide +kernel
theorem dL_law_587 : decode cL_law 587 = .ok (.iadd, 1) := by decide +kernel
theorem dL_law_588 : decode cL_law 588 = .ok (.iaload, 1) := by decide +kernel
theorem dL_law_589 : decode cL_law 589 = .ok (.aload_n 0, 1) := by decide +kernel
theorem dL_law_590 : decode cL_law 590 = .ok (.iload 4, 2) := by decide +kernel
theorem dL_law_592 : decode cL_law 592 = .ok (.iconst 2, 1) := by decide +kernel
theorem dL_law_593 : decode cL_law 593 = .ok (.iadd, 1) := by decide +kernel
theorem dL_law_594 : decode cL_law 594 = .ok (.iaload, 1) := by decide +kernel
theorem dL_law_595 : decode cL_law 595 = .ok (.invokevirtual 106, 3) := by decide +kernel
theorem dL_law_598 : decode cL_law 598 = .ok (.istore 6, 2) := by decide +kernel
theorem dL_law_600 : decode cL_law 600 = .ok (.aload_n 2, 1) := by decide +kernel
theorem dL_law_601 : decode cL_law 601 = .ok (.invokevirtual 82, 3) := by decide +kernel
theorem dL_law_604 : decode cL_law 604 = .ok (.iload 5, 2) := by decide +kernel
theorem dL_law_606 : decode cL_law 606 = .ok (.if_icmp .eq 5, 3) := by decide +kernel
theorem dL_law_609 : decode cL_law 609 = .ok (.iconst 0, 1) := by decide +kernel
theorem dL_law_610 : decode cL_law 610 = .ok (.ireturn, 1) := by decide +kernel
theorem dL_law_611 : decode cL_law 611 = .ok (.iload 5, 2) := by decide +kernel
theorem dL_law_613 : decode cL_law 613 = .ok (.ifCond .ne 15, 3) := by decide +kernel
theorem dL_law_616 : decode cL_law 616 = .ok (.aload_n 3, 1) := by decide +kernel
theorem dL_law_617 : decode cL_law 617 = .ok (.iconst 0, 1) := by decide +kernel
theorem dL_law_618 : decode cL_law 618 = .ok (.laload, 1) := by decide +kernel
theorem dL_law_619 : decode cL_law 619 = .ok (.iload 6, 2) := by decide +kernel
theorem dL_law_621 : decode cL_law 621 = .ok (.i2l, 1) := by decide +kernel
theorem dL_law_622 : decode cL_law 622 = .ok (.lcmp, 1) := by decide +kernel
theorem dL_law_623 : decode cL_law 623 = .ok (.ifCond .eq 5, 3) := by decide +kernel
theorem dL_law_626 : decode cL_law 626 = .ok (.iconst 0, 1) := by decide +kernel
theorem dL_law_627 : decode cL_law 627 = .ok (.ireturn, 1) := by decide +kernel
theorem dL_law_628 : decode cL_law 628 = .ok (.goto 727, 3) := by decide +kernel
theorem dL_law_631 : decode cL_law 631 = .ok (.aload_n 1, 1) := by decide +kernel
theorem dL_law_632 : decode cL_law 632 = .ok (.aload_n 0, 1) := by decide +kernel
theorem dL_law_633 : decode cL_law 633 = .ok (.iload 4, 2) := by decide +kernel
theorem dL_law_635 : decode cL_law 635 = .ok (.iconst 1, 1) := by decide +kernel
theorem dL_law_636 : decode cL_law 636 = .ok (.iadd, 1) := by decide +kernel
theorem dL_law_637 : decode cL_law 637 = .ok (.iaload, 1) := by decide +kernel
theorem dL_law_638 : decode cL_law 638 = .ok (.aload_n 3, 1) := by decide +kernel
theorem dL_law_639 : decode cL_law 639 = .ok (.invokestatic 107, 3) := by decide +kernel
theorem dL_law_642 : decode cL_law 642 = .ok (.istore 5, 2) := by decide +kernel
theorem dL_law_644 : decode cL_law 644 = .ok (.aload_n 2, 1) := by decide +kernel
theorem dL_law_645 : decode cL_law 645 = .ok (.aload_n 0, 1) := by decide +kernel
theorem dL_law_646 : decode cL_law 646 = .ok (.iload 4, 2) := by decide +kernel
theorem dL_law_648 : decode cL_law 648 = .ok (.iconst 1, 1) := by decide +kernel
theorem dL_law_649 : decode cL_law 649 = .ok (.iadd, 1) := by decide +kernel
theorem dL_law_650 : decode cL_law 650 = .ok (.iaload, 1) := by decide +kernel
theorem dL_law_651 : decode cL_law 651 = .ok (.invokevirtual 109, 3) := by decide +kernel
theorem dL_law_654 : decode cL_law 654 = .ok (.istore 6, 2) := by decide +kernel
theorem dL_law_656 : decode cL_law 656 = .ok (.aload_n 2, 1) := by decide +kernel
theorem dL_law_657 : decode cL_law 657 = .ok (.invokevirtual 82, 3) := by decide +kernel
theorem dL_law_660 : decode cL_law 660 = .ok (.iload 5, 2) := by decide +kernel
theorem dL_law_662 : decode cL_law 662 = .ok (.if_icmp .eq 5, 3) := by decide +kernel
theorem dL_law_665 : decode cL_law 665 = .ok (.iconst 0, 1) := by decide +kernel
theorem dL_law_666 : decode cL_law 666 = .ok (.ireturn, 1) := by decide +kernel
theorem dL_law_667 : decode cL_law 667 = .ok (.iload 5, 2) := by decide +kernel
theorem dL_law_669 : decode cL_law 669 = .ok (.ifCond .ne 15, 3) := by decide +kernel
theorem dL_law_672 : decode cL_law 672 = .ok (.aload_n 3, 1) := by decide +kernel
theorem dL_law_673 : decode cL_law 673 = .ok (.iconst 0, 1) := by decide +kernel
theorem dL_law_674 : decode cL_law 674 = .ok (.laload, 1) := by decide +kernel
theorem dL_law_675 : decode cL_law 675 = .ok (.iload 6, 2) := by decide +kernel
theorem dL_law_677 : decode cL_law 677 = .ok (.i2l, 1) := by decide +kernel
theorem dL_law_678 : decode cL_law 678 = .ok (.lcmp, 1) := by decide +kernel
theorem dL_law_679 : decode cL_law 679 = .ok (.ifCond .eq 5, 3) := by decide +kernel
theorem dL_law_682 : decode cL_law 682 = .ok (.iconst 0, 1) := by decide +kernel
theorem dL_law_683 : decode cL_law 683 = .ok (.ireturn, 1) := by decide +kernel
theorem dL_law_684 : decode cL_law 684 = .ok (.goto 671, 3) := by decide +kernel
theorem dL_law_687 : decode cL_law 687 = .ok (.aload_n 1, 1) := by decide +kernel
theorem dL_law_688 : decode cL_law 688 = .ok (.invokevirtual 110, 3) := by decide +kernel
theorem dL_law_691 : decode cL_law 691 = .ok (.aload_n 2, 1) := by decide +kernel
theorem dL_law_692 : decode cL_law 692 = .ok (.invokevirtual 113, 3) := by decide +kernel
theorem dL_law_695 : decode cL_law 695 = .ok (.if_icmp .eq 660, 3) := by decide +kernel
theorem dL_law_698 : decode cL_law 698 = .ok (.iconst 0, 1) := by decide +kernel
theorem dL_law_699 : decode cL_law 699 = .ok (.ireturn, 1) := by decide +kernel
theorem dL_law_700 : decode cL_law 700 = .ok (.aload_n 1, 1) := by decide +kernel
theorem dL_law_701 : decode cL_law 701 = .ok (.invokevirtual 114, 3) := by decide +kernel
theorem dL_law_704 : decode cL_law 704 = .ok (.aload_n 2, 1) := by decide +kernel
theorem dL_law_705 : decode cL_law 705 = .ok (.invokevirtual 117, 3) := by decide +kernel
theorem dL_law_708 : decode cL_law 708 = .ok (.if_icmp .eq 647, 3) := by decide +kernel
theorem dL_law_711 : decode cL_law 711 = .ok (.iconst 0, 1) := by decide +kernel
theorem dL_law_712 : decode cL_law 712 = .ok (.ireturn, 1) := by decide +kernel
theorem dL_law_713 : decode cL_law 713 = .ok (.aload_n 1, 1) := by decide +kernel
theorem dL_law_714 : decode cL_law 714 = .ok (.aload_n 3, 1) := by decide +kernel
theorem dL_law_715 : decode cL_law 715 = .ok (.invokestatic 118, 3) := by decide +kernel
theorem dL_law_718 : decode cL_law 718 = .ok (.istore 5, 2) := by decide +kernel
theorem dL_law_720 : decode cL_law 720 = .ok (.aload_n 2, 1) := by decide +kernel
theorem dL_law_721 : decode cL_law 721 = .ok (.invokevirtual 120, 3) := by decide +kernel
theorem dL_law_724 : decode cL_law 724 = .ok (.istore 6, 2) := by decide +kernel
theorem dL_law_726 : decode cL_law 726 = .ok (.aload_n 2, 1) := by decide +kernel
theorem dL_law_727 : decode cL_law 727 = .ok (.invokevirtual 82, 3) := by decide +kernel
theorem dL_law_730 : decode cL_law 730 = .ok (.iload 5, 2) := by decide +kernel
theorem dL_law_732 : decode cL_law 732 = .ok (.if_icmp .eq 5, 3) := by decide +kernel
theorem dL_law_735 : decode cL_law 735 = .ok (.iconst 0, 1) := by decide +kernel
theorem dL_law_736 : decode cL_law 736 = .ok (.ireturn, 1) := by decide +kernel
theorem dL_law_737 : decode cL_law 737 = .ok (.iload 5, 2) := by decide +kernel
theorem dL_law_739 : decode cL_law 739 = .ok (.ifCond .ne 15, 3) := by decide +kernel
theorem dL_law_742 : decode cL_law 742 = .ok (.aload_n 3, 1) := by decide +kernel
theorem dL_law_743 : decode cL_law 743 = .ok (.iconst 0, 1) := by decide +kernel
theorem dL_law_744 : decode cL_law 744 = .ok (.laload, 1) := by decide +kernel
theorem dL_law_745 : decode cL_law 745 = .ok (.iload 6, 2) := by decide +kernel
theorem dL_law_747 : decode cL_law 747 = .ok (.i2l, 1) := by decide +kernel
theorem dL_law_748 : decode cL_law 748 = .ok (.lcmp, 1) := by decide +kernel
theorem dL_law_749 : decode cL_law 749 = .ok (.ifCond .eq 5, 3) := by decide +kernel
theorem dL_law_752 : decode cL_law 752 = .ok (.iconst 0, 1) := by decide +kernel
theorem dL_law_753 : decode cL_law 753 = .ok (.ireturn, 1) := by decide +kernel
theorem dL_law_754 : decode cL_law 754 = .ok (.goto 601, 3) := by decide +kernel
theorem dL_law_757 : decode cL_law 757 = .ok (.aload_n 1, 1) := by decide +kernel
theorem dL_law_758 : decode cL_law 758 = .ok (.aload_n 3, 1) := by decide +kernel
theorem dL_law_759 : decode cL_law 759 = .ok (.invokestatic 121, 3) := by decide +kernel
theorem dL_law_762 : decode cL_law 762 = .ok (.istore 5, 2) := by decide +kernel
theorem dL_law_764 : decode cL_law 764 = .ok (.aload_n 2, 1) := by decide +kernel
theorem dL_law_765 : decode cL_law 765 = .ok (.invokevirtual 123, 3) := by decide +kernel
theorem dL_law_768 : decode cL_law 768 = .ok (.istore 6, 2) := by decide +kernel
theorem dL_law_770 : decode cL_law 770 = .ok (.aload_n 2, 1) := by decide +kernel
theorem dL_law_771 : decode cL_law 771 = .ok (.invokevirtual 82, 3) := by decide +kernel
theorem dL_law_774 : decode cL_law 774 = .ok (.iload 5, 2) := by decide +kernel
theorem dL_law_776 : decode cL_law 776 = .ok (.if_icmp .eq 5, 3) := by decide +kernel
theorem dL_law_779 : decode cL_law 779 = .ok (.iconst 0, 1) := by decide +kernel
theorem dL_law_780 : decode cL_law 780 = .ok (.ireturn, 1) := by decide +kernel
theorem dL_law_781 : decode cL_law 781 = .ok (.iload 5, 2) := by decide +kernel
theorem dL_law_783 : decode cL_law 783 = .ok (.ifCond .ne 15, 3) := by decide +kernel
theorem dL_law_786 : decode cL_law 786 = .ok (.aload_n 3, 1) := by decide +kernel
theorem dL_law_787 : decode cL_law 787 = .ok (.iconst 0, 1) := by decide +kernel
theorem dL_law_788 : decode cL_law 788 = .ok (.laload, 1) := by decide +kernel
theorem dL_law_789 : decode cL_law 789 = .ok (.iload 6, 2) := by decide +kernel
theorem dL_law_791 : decode cL_law 791 = .ok (.i2l, 1) := by decide +kernel
theorem dL_law_792 : decode cL_law 792 = .ok (.lcmp, 1) := by decide +kernel
theorem dL_law_793 : decode cL_law 793 = .ok (.ifCond .eq 5, 3) := by decide +kernel
theorem dL_law_796 : decode cL_law 796 = .ok (.iconst 0, 1) := by decide +kernel
theorem dL_law_797 : decode cL_law 797 = .ok (.ireturn, 1) := by decide +kernel
theorem dL_law_798 : decode cL_law 798 = .ok (.goto 557, 3) := by decide +kernel
theorem dL_law_801 : decode cL_law 801 = .ok (.aload_n 1, 1) := by decide +kernel
theorem dL_law_802 : decode cL_law 802 = .ok (.aload_n 0, 1) := by decide +kernel
theorem dL_law_803 : decode cL_law 803 = .ok (.iload 4, 2) := by decide +kernel
theorem dL_law_805 : decode cL_law 805 = .ok (.iconst 1, 1) := by decide +kernel
theorem dL_law_806 : decode cL_law 806 = .ok (.iadd, 1) := by decide +kernel
theorem dL_law_807 : decode cL_law 807 = .ok (.iaload, 1) := by decide +kernel
theorem dL_law_808 : decode cL_law 808 = .ok (.aload_n 0, 1) := by decide +kernel
theorem dL_law_809 : decode cL_law 809 = .ok (.iload 4, 2) := by decide +kernel
theorem dL_law_811 : decode cL_law 811 = .ok (.iconst 2, 1) := by decide +kernel
theorem dL_law_812 : decode cL_law 812 = .ok (.iadd, 1) := by decide +kernel
theorem dL_law_813 : decode cL_law 813 = .ok (.iaload, 1) := by decide +kernel
theorem dL_law_814 : decode cL_law 814 = .ok (.aload_n 3, 1) := by decide +kernel
theorem dL_law_815 : decode cL_law 815 = .ok (.invokestatic 124, 3) := by decide +kernel
theorem dL_law_818 : decode cL_law 818 = .ok (.istore 5, 2) := by decide +kernel
theorem dL_law_820 : decode cL_law 820 = .ok (.aload_n 2, 1) := by decide +kernel
theorem dL_law_821 : decode cL_law 821 = .ok (.aload_n 0, 1) := by decide +kernel
theorem dL_law_822 : decode cL_law 822 = .ok (.iload 4, 2) := by decide +kernel
theorem dL_law_824 : decode cL_law 824 = .ok (.iconst 1, 1) := by decide +kernel
theorem dL_law_825 : decode cL_law 825 = .ok (.iadd, 1) := by decide +kernel
theorem dL_law_826 : decode cL_law 826 = .ok (.iaload, 1) := by decide +kernel
theorem dL_law_827 : decode cL_law 827 = .ok (.aload_n 0, 1) := by decide +kernel
theorem dL_law_828 : decode cL_law 828 = .ok (.iload 4, 2) := by decide +kernel
theorem dL_law_830 : decode cL_law 830 = .ok (.iconst 2, 1) := by decide +kernel
theorem dL_law_831 : decode cL_law 831 = .ok (.iadd, 1) := by decide +kernel
theorem dL_law_832 : decode cL_law 832 = .ok (.iaload, 1) := by decide +kernel
theorem dL_law_833 : decode cL_law 833 = .ok (.invokevirtual 126, 3) := by decide +kernel
theorem dL_law_836 : decode cL_law 836 = .ok (.istore 6, 2) := by decide +kernel
theorem dL_law_838 : decode cL_law 838 = .ok (.aload_n 2, 1) := by decide +kernel
theorem dL_law_839 : decode cL_law 839 = .ok (.invokevirtual 82, 3) := by decide +kernel
theorem dL_law_842 : decode cL_law 842 = .ok (.iload 5, 2) := by decide +kernel
theorem dL_law_844 : decode cL_law 844 = .ok (.if_icmp .eq 5, 3) := by decide +kernel
theorem dL_law_847 : decode cL_law 847 = .ok (.iconst 0, 1) := by decide +kernel
theorem dL_law_848 : decode cL_law 848 = .ok (.ireturn, 1) := by decide +kernel
theorem dL_law_849 : decode cL_law 849 = .ok (.iload 5, 2) := by decide +kernel
theorem dL_law_851 : decode cL_law 851 = .ok (.ifCond .ne 15, 3) := by decide +kernel
theorem dL_law_854 : decode cL_law 854 = .ok (.aload_n 3, 1) := by decide +kernel
theorem dL_law_855 : decode cL_law 855 = .ok (.iconst 0, 1) := by decide +kernel
theorem dL_law_856 : decode cL_law 856 = .ok (.laload, 1) := by decide +kernel
theorem dL_law_857 : decode cL_law 857 = .ok (.iload 6, 2) := by decide +kernel
theorem dL_law_859 : decode cL_law 859 = .ok (.i2l, 1) := by decide +kernel
theorem dL_law_860 : decode cL_law 860 = .ok (.lcmp, 1) := by decide +kernel
theorem dL_law_861 : decode cL_law 861 = .ok (.ifCond .eq 5, 3) := by decide +kernel
theorem dL_law_864 : decode cL_law 864 = .ok (.iconst 0, 1) := by decide +kernel
theorem dL_law_865 : decode cL_law 865 = .ok (.ireturn, 1) := by decide +kernel
theorem dL_law_866 : decode cL_law 866 = .ok (.goto 489, 3) := by decide +kernel
theorem dL_law_869 : decode cL_law 869 = .ok (.aload_n 1, 1) := by decide +kernel
theorem dL_law_870 : decode cL_law 870 = .ok (.aload_n 0, 1) := by decide +kernel
theorem dL_law_871 : decode cL_law 871 = .ok (.iload 4, 2) := by decide +kernel
theorem dL_law_873 : decode cL_law 873 = .ok (.iconst 1, 1) := by decide +kernel
theorem dL_law_874 : decode cL_law 874 = .ok (.iadd, 1) := by decide +kernel
theorem dL_law_875 : decode cL_law 875 = .ok (.iaload, 1) := by decide +kernel
theorem dL_law_876 : decode cL_law 876 = .ok (.aload_n 3, 1) := by decide +kernel
theorem dL_law_877 : decode cL_law 877 = .ok (.invokestatic 127, 3) := by decide +kernel
theorem dL_law_880 : decode cL_law 880 = .ok (.istore 5, 2) := by decide +kernel
theorem dL_law_882 : decode cL_law 882 = .ok (.aload_n 2, 1) := by decide +kernel
theorem dL_law_883 : decode cL_law 883 = .ok (.aload_n 0, 1) := by decide +kernel
theorem dL_law_884 : decode cL_law 884 = .ok (.iload 4, 2) := by decide +kernel
theorem dL_law_886 : decode cL_law 886 = .ok (.iconst 1, 1) := by decide +kernel
theorem dL_law_887 : decode cL_law 887 = .ok (.iadd, 1) := by decide +kernel
theorem dL_law_888 : decode cL_law 888 = .ok (.iaload, 1) := by decide +kernel
theorem dL_law_889 : decode cL_law 889 = .ok (.invokevirtual 129, 3) := by decide +kernel
theorem dL_law_892 : decode cL_law 892 = .ok (.istore 6, 2) := by decide +kernel
theorem dL_law_894 : decode cL_law 894 = .ok (.aload_n 2, 1) := by decide +kernel
theorem dL_law_895 : decode cL_law 895 = .ok (.invokevirtual 82, 3) := by decide +kernel
theorem dL_law_898 : decode cL_law 898 = .ok (.iload 5, 2) := by decide +kernel
theorem dL_law_900 : decode cL_law 900 = .ok (.if_icmp .eq 5, 3) := by decide +kernel
theorem dL_law_903 : decode cL_law 903 = .ok (.iconst 0, 1) := by decide +kernel
theorem dL_law_904 : decode cL_law 904 = .ok (.ireturn, 1) := by decide +kernel
theorem dL_law_905 : decode cL_law 905 = .ok (.iload 5, 2) := by decide +kernel
theorem dL_law_907 : decode cL_law 907 = .ok (.ifCond .ne 15, 3) := by decide +kernel
theorem dL_law_910 : decode cL_law 910 = .ok (.aload_n 3, 1) := by decide +kernel
theorem dL_law_911 : decode cL_law 911 = .ok (.iconst 0, 1) := by decide +kernel
theorem dL_law_912 : decode cL_law 912 = .ok (.laload, 1) := by decide +kernel
theorem dL_law_913 : decode cL_law 913 = .ok (.iload 6, 2) := by decide +kernel
theorem dL_law_915 : decode cL_law 915 = .ok (.i2l, 1) := by decide +kernel
theorem dL_law_916 : decode cL_law 916 = .ok (.lcmp, 1) := by decide +kernel
theorem dL_law_917 : decode cL_law 917 = .ok (.ifCond .eq 5, 3) := by decide +kernel
theorem dL_law_920 : decode cL_law 920 = .ok (.iconst 0, 1) := by decide +kernel
theorem dL_law_921 : decode cL_law 921 = .ok (.ireturn, 1) := by decide +kernel
theorem dL_law_922 : decode cL_law 922 = .ok (.goto 433, 3) := by decide +kernel
theorem dL_law_925 : decode cL_law 925 = .ok (.aload_n 1, 1) := by decide +kernel
theorem dL_law_926 : decode cL_law 926 = .ok (.invokevirtual 130, 3) := by decide +kernel
theorem dL_law_929 : decode cL_law 929 = .ok (.aload_n 2, 1) := by decide +kernel
theorem dL_law_930 : decode cL_law 930 = .ok (.invokevirtual 133, 3) := by decide +kernel
theorem dL_law_933 : decode cL_law 933 = .ok (.if_icmp .eq 422, 3) := by decide +kernel
theorem dL_law_936 : decode cL_law 936 = .ok (.iconst 0, 1) := by decide +kernel
theorem dL_law_937 : decode cL_law 937 = .ok (.ireturn, 1) := by decide +kernel
theorem dL_law_938 : decode cL_law 938 = .ok (.aload_n 1, 1) := by decide +kernel
theorem dL_law_939 : decode cL_law 939 = .ok (.invokevirtual 134, 3) := by decide +kernel
theorem dL_law_942 : decode cL_law 942 = .ok (.aload_n 2, 1) := by decide +kernel
theorem dL_law_943 : decode cL_law 943 = .ok (.invokevirtual 137, 3) := by decide +kernel
theorem dL_law_946 : decode cL_law 946 = .ok (.if_icmp .eq 409, 3) := by decide +kernel
theorem dL_law_949 : decode cL_law 949 = .ok (.iconst 0, 1) := by decide +kernel
theorem dL_law_950 : decode cL_law 950 = .ok (.ireturn, 1) := by decide +kernel
theorem dL_law_951 : decode cL_law 951 = .ok (.aload_n 1, 1) := by decide +kernel
theorem dL_law_952 : decode cL_law 952 = .ok (.aload_n 0, 1) := by decide +kernel
theorem dL_law_953 : decode cL_law 953 = .ok (.iload 4, 2) := by decide +kernel
theorem dL_law_955 : decode cL_law 955 = .ok (.iconst 1, 1) := by decide +kernel
theorem dL_law_956 : decode cL_law 956 = .ok (.iadd, 1) := by decide +kernel
theorem dL_law_957 : decode cL_law 957 = .ok (.iaload, 1) := by decide +kernel
theorem dL_law_958 : decode cL_law 958 = .ok (.aload_n 0, 1) := by decide +kernel
theorem dL_law_959 : decode cL_law 959 = .ok (.iload 4, 2) := by decide +kernel
theorem dL_law_961 : decode cL_law 961 = .ok (.iconst 2, 1) := by decide +kernel
theorem dL_law_962 : decode cL_law 962 = .ok (.iadd, 1) := by decide +kernel
theorem dL_law_963 : decode cL_law 963 = .ok (.iaload, 1) := by decide +kernel
theorem dL_law_964 : decode cL_law 964 = .ok (.aload_n 3, 1) := by decide +kernel
theorem dL_law_965 : decode cL_law 965 = .ok (.invokestatic 138, 3) := by decide +kernel
theorem dL_law_968 : decode cL_law 968 = .ok (.istore 5, 2) := by decide +kernel
theorem dL_law_970 : decode cL_law 970 = .ok (.aload_n 2, 1) := by decide +kernel
theorem dL_law_971 : decode cL_law 971 = .ok (.aload_n 0, 1) := by decide +kernel
theorem dL_law_972 : decode cL_law 972 = .ok (.iload 4, 2) := by decide +kernel
theorem dL_law_974 : decode cL_law 974 = .ok (.iconst 1, 1) := by decide +kernel
theorem dL_law_975 : decode cL_law 975 = .ok (.iadd, 1) := by decide +kernel
theorem dL_law_976 : decode cL_law 976 = .ok (.iaload, 1) := by decide +kernel
theorem dL_law_977 : decode cL_law 977 = .ok (.aload_n 0, 1) := by decide +kernel
theorem dL_law_978 : decode cL_law 978 = .ok (.iload 4, 2) := by decide +kernel
theorem dL_law_980 : decode cL_law 980 = .ok (.iconst 2, 1) := by decide +kernel
theorem dL_law_981 : decode cL_law 981 = .ok (.iadd, 1) := by decide +kernel
theorem dL_law_982 : decode cL_law 982 = .ok (.iaload, 1) := by decide +kernel
theorem dL_law_983 : decode cL_law 983 = .ok (.invokevirtual 140, 3) := by decide +kernel
theorem dL_law_986 : decode cL_law 986 = .ok (.istore 6, 2) := by decide +kernel
theorem dL_law_988 : decode cL_law 988 = .ok (.aload_n 2, 1) := by decide +kernel
theorem dL_law_989 : decode cL_law 989 = .ok (.invokevirtual 82, 3) := by decide +kernel
theorem dL_law_992 : decode cL_law 992 = .ok (.iload 5, 2) := by decide +kernel
theorem dL_law_994 : decode cL_law 994 = .ok (.if_icmp .eq 5, 3) := by decide +kernel
theorem dL_law_997 : decode cL_law 997 = .ok (.iconst 0, 1) := by decide +kernel
theorem dL_law_998 : decode cL_law 998 = .ok (.ireturn, 1) := by decide +kernel
theorem dL_law_999 : decode cL_law 999 = .ok (.iload 5, 2) := by decide +kernel
theorem dL_law_1001 : decode cL_law 1001 = .ok (.ifCond .ne 15, 3) := by decide +kernel
theorem dL_law_1004 : decode cL_law 1004 = .ok (.aload_n 3, 1) := by decide +kernel
theorem dL_law_1005 : decode cL_law 1005 = .ok (.iconst 0, 1) := by decide +kernel
theorem dL_law_1006 : decode cL_law 1006 = .ok (.laload, 1) := by decide +kernel
theorem dL_law_1007 : decode cL_law 1007 = .ok (.iload 6, 2) := by decide +kernel
theorem dL_law_1009 : decode cL_law 1009 = .ok (.i2l, 1) := by decide +kernel
theorem dL_law_1010 : decode cL_law 1010 = .ok (.lcmp, 1) := by decide +kernel
theorem dL_law_1011 : decode cL_law 1011 = .ok (.ifCond .eq 5, 3) := by decide +kernel
theorem dL_law_1014 : decode cL_law 1014 = .ok (.iconst 0, 1) := by decide +kernel
theorem dL_law_1015 : decode cL_law 1015 = .ok (.ireturn, 1) := by decide +kernel
theorem dL_law_1016 : decode cL_law 1016 = .ok (.goto 339, 3) := by decide +kernel
theorem dL_law_1019 : decode cL_law 1019 = .ok (.aload_n 1, 1) := by decide +kernel
theorem dL_law_1020 : decode cL_law 1020 = .ok (.aload_n 0, 1) := by decide +kernel
theorem dL_law_1021 : decode cL_law 1021 = .ok (.iload 4, 2) := by decide +kernel
theorem dL_law_1023 : decode cL_law 1023 = .ok (.iconst 1, 1) := by decide +kernel
theorem dL_law_1024 : decode cL_law 1024 = .ok (.iadd, 1) := by decide +kernel
theorem dL_law_1025 : decode cL_law 1025 = .ok (.iaload, 1) := by decide +kernel
theorem dL_law_1026 : decode cL_law 1026 = .ok (.aload_n 3, 1) := by decide +kernel
theorem dL_law_1027 : decode cL_law 1027 = .ok (.invokestatic 141, 3) := by decide +kernel
theorem dL_law_1030 : decode cL_law 1030 = .ok (.istore 5, 2) := by decide +kernel
theorem dL_law_1032 : decode cL_law 1032 = .ok (.aload_n 2, 1) := by decide +kernel
theorem dL_law_1033 : decode cL_law 1033 = .ok (.aload_n 0, 1) := by decide +kernel
theorem dL_law_1034 : decode cL_law 1034 = .ok (.iload 4, 2) := by decide +kernel
theorem dL_law_1036 : decode cL_law 1036 = .ok (.iconst 1, 1) := by decide +kernel
theorem dL_law_1037 : decode cL_law 1037 = .ok (.iadd, 1) := by decide +kernel
theorem dL_law_1038 : decode cL_law 1038 = .ok (.iaload, 1) := by decide +kernel
theorem dL_law_1039 : decode cL_law 1039 = .ok (.invokevirtual 143, 3) := by decide +kernel
theorem dL_law_1042 : decode cL_law 1042 = .ok (.istore 6, 2) := by decide +kernel
theorem dL_law_1044 : decode cL_law 1044 = .ok (.aload_n 2, 1) := by decide +kernel
theorem dL_law_1045 : decode cL_law 1045 = .ok (.invokevirtual 82, 3) := by decide +kernel
theorem dL_law_1048 : decode cL_law 1048 = .ok (.iload 5, 2) := by decide +kernel
theorem dL_law_1050 : decode cL_law 1050 = .ok (.if_icmp .eq 5, 3) := by decide +kernel
theorem dL_law_1053 : decode cL_law 1053 = .ok (.iconst 0, 1) := by decide +kernel
theorem dL_law_1054 : decode cL_law 1054 = .ok (.ireturn, 1) := by decide +kernel
theorem dL_law_1055 : decode cL_law 1055 = .ok (.iload 5, 2) := by decide +kernel
theorem dL_law_1057 : decode cL_law 1057 = .ok (.ifCond .ne 22, 3) := by decide +kernel
theorem dL_law_1060 : decode cL_law 1060 = .ok (.aload_n 3, 1) := by decide +kernel
theorem dL_law_1061 : decode cL_law 1061 = .ok (.iconst 0, 1) := by decide +kernel
theorem dL_law_1062 : decode cL_law 1062 = .ok (.laload, 1) := by decide +kernel
theorem dL_law_1063 : decode cL_law 1063 = .ok (.iload 6, 2) := by decide +kernel
theorem dL_law_1065 : decode cL_law 1065 = .ok (.ifCond .eq 7, 3) := by decide +kernel
theorem dL_law_1068 : decode cL_law 1068 = .ok (.lconst 1, 1) := by decide +kernel
theorem dL_law_1069 : decode cL_law 1069 = .ok (.goto 4, 3) := by decide +kernel
theorem dL_law_1072 : decode cL_law 1072 = .ok (.lconst 0, 1) := by decide +kernel
theorem dL_law_1073 : decode cL_law 1073 = .ok (.lcmp, 1) := by decide +kernel
theorem dL_law_1074 : decode cL_law 1074 = .ok (.ifCond .eq 5, 3) := by decide +kernel
theorem dL_law_1077 : decode cL_law 1077 = .ok (.iconst 0, 1) := by decide +kernel
theorem dL_law_1078 : decode cL_law 1078 = .ok (.ireturn, 1) := by decide +kernel
theorem dL_law_1079 : decode cL_law 1079 = .ok (.goto 276, 3) := by decide +kernel
theorem dL_law_1082 : decode cL_law 1082 = .ok (.aload_n 1, 1) := by decide +kernel
theorem dL_law_1083 : decode cL_law 1083 = .ok (.aload_n 0, 1) := by decide +kernel
theorem dL_law_1084 : decode cL_law 1084 = .ok (.iload 4, 2) := by decide +kernel
theorem dL_law_1086 : decode cL_law 1086 = .ok (.iconst 1, 1) := by decide +kernel
theorem dL_law_1087 : decode cL_law 1087 = .ok (.iadd, 1) := by decide +kernel
theorem dL_law_1088 : decode cL_law 1088 = .ok (.iaload, 1) := by decide +kernel
theorem dL_law_1089 : decode cL_law 1089 = .ok (.aload_n 0, 1) := by decide +kernel
theorem dL_law_1090 : decode cL_law 1090 = .ok (.iload 4, 2) := by decide +kernel
theorem dL_law_1092 : decode cL_law 1092 = .ok (.iconst 2, 1) := by decide +kernel
theorem dL_law_1093 : decode cL_law 1093 = .ok (.iadd, 1) := by decide +kernel
theorem dL_law_1094 : decode cL_law 1094 = .ok (.iaload, 1) := by decide +kernel
theorem dL_law_1095 : decode cL_law 1095 = .ok (.aload_n 3, 1) := by decide +kernel
theorem dL_law_1096 : decode cL_law 1096 = .ok (.invokestatic 144, 3) := by decide +kernel
theorem dL_law_1099 : decode cL_law 1099 = .ok (.istore 5, 2) := by decide +kernel
theorem dL_law_1101 : decode cL_law 1101 = .ok (.aload_n 2, 1) := by decide +kernel
theorem dL_law_1102 : decode cL_law 1102 = .ok (.aload_n 0, 1) := by decide +kernel
theorem dL_law_1103 : decode cL_law 1103 = .ok (.iload 4, 2) := by decide +kernel
theorem dL_law_1105 : decode cL_law 1105 = .ok (.iconst 1, 1) := by decide +kernel
theorem dL_law_1106 : decode cL_law 1106 = .ok (.iadd, 1) := by decide +kernel
theorem dL_law_1107 : decode cL_law 1107 = .ok (.iaload, 1) := by decide +kernel
theorem dL_law_1108 : decode cL_law 1108 = .ok (.aload_n 0, 1) := by decide +kernel
theorem dL_law_1109 : decode cL_law 1109 = .ok (.iload 4, 2) := by decide +kernel
theorem dL_law_1111 : decode cL_law 1111 = .ok (.iconst 2, 1) := by decide +kernel
theorem dL_law_1112 : decode cL_law 1112 = .ok (.iadd, 1) := by decide +kernel
theorem dL_law_1113 : decode cL_law 1113 = .ok (.iaload, 1) := by decide +kernel
theorem dL_law_1114 : decode cL_law 1114 = .ok (.invokevirtual 146, 3) := by decide +kernel
theorem dL_law_1117 : decode cL_law 1117 = .ok (.istore 6, 2) := by decide +kernel
theorem dL_law_1119 : decode cL_law 1119 = .ok (.aload_n 2, 1) := by decide +kernel
theorem dL_law_1120 : decode cL_law 1120 = .ok (.invokevirtual 82, 3) := by decide +kernel
theorem dL_law_1123 : decode cL_law 1123 = .ok (.iload 5, 2) := by decide +kernel
theorem dL_law_1125 : decode cL_law 1125 = .ok (.if_icmp .eq 5, 3) := by decide +kernel
theorem dL_law_1128 : decode cL_law 1128 = .ok (.iconst 0, 1) := by decide +kernel
theorem dL_law_1129 : decode cL_law 1129 = .ok (.ireturn, 1) := by decide +kernel
theorem dL_law_1130 : decode cL_law 1130 = .ok (.iload 5, 2) := by decide +kernel
theorem dL_law_1132 : decode cL_law 1132 = .ok (.ifCond .ne 15, 3) := by decide +kernel
theorem dL_law_1135 : decode cL_law 1135 = .ok (.aload_n 3, 1) := by decide +kernel
theorem dL_law_1136 : decode cL_law 1136 = .ok (.iconst 0, 1) := by decide +kernel
theorem dL_law_1137 : decode cL_law 1137 = .ok (.laload, 1) := by decide +kernel
theorem dL_law_1138 : decode cL_law 1138 = .ok (.iload 6, 2) := by decide +kernel
theorem dL_law_1140 : decode cL_law 1140 = .ok (.i2l, 1) := by decide +kernel
theorem dL_law_1141 : decode cL_law 1141 = .ok (.lcmp, 1) := by decide +kernel
theorem dL_law_1142 : decode cL_law 1142 = .ok (.ifCond .eq 5, 3) := by decide +kernel
theorem dL_law_1145 : decode cL_law 1145 = .ok (.iconst 0, 1) := by decide +kernel
theorem dL_law_1146 : decode cL_law 1146 = .ok (.ireturn, 1) := by decide +kernel
theorem dL_law_1147 : decode cL_law 1147 = .ok (.goto 208, 3) := by decide +kernel
theorem dL_law_1150 : decode cL_law 1150 = .ok (.aload_n 1, 1) := by decide +kernel
theorem dL_law_1151 : decode cL_law 1151 = .ok (.invokevirtual 147, 3) := by decide +kernel
theorem dL_law_1154 : decode cL_law 1154 = .ok (.aload_n 2, 1) := by decide +kernel
theorem dL_law_1155 : decode cL_law 1155 = .ok (.invokevirtual 150, 3) := by decide +kernel
theorem dL_law_1158 : decode cL_law 1158 = .ok (.if_icmp .eq 197, 3) := by decide +kernel
theorem dL_law_1161 : decode cL_law 1161 = .ok (.iconst 0, 1) := by decide +kernel
theorem dL_law_1162 : decode cL_law 1162 = .ok (.ireturn, 1) := by decide +kernel
theorem dL_law_1163 : decode cL_law 1163 = .ok (.aload_n 1, 1) := by decide +kernel
theorem dL_law_1164 : decode cL_law 1164 = .ok (.invokevirtual 151, 3) := by decide +kernel
theorem dL_law_1167 : decode cL_law 1167 = .ok (.aload_n 2, 1) := by decide +kernel
theorem dL_law_1168 : decode cL_law 1168 = .ok (.invokevirtual 154, 3) := by decide +kernel
theorem dL_law_1171 : decode cL_law 1171 = .ok (.if_icmp .eq 184, 3) := by decide +kernel
theorem dL_law_1174 : decode cL_law 1174 = .ok (.iconst 0, 1) := by decide +kernel
theorem dL_law_1175 : decode cL_law 1175 = .ok (.ireturn, 1) := by decide +kernel
theorem dL_law_1176 : decode cL_law 1176 = .ok (.aload_n 1, 1) := by decide +kernel
theorem dL_law_1177 : decode cL_law 1177 = .ok (.aload_n 0, 1) := by decide +kernel
theorem dL_law_1178 : decode cL_law 1178 = .ok (.iload 4, 2) := by decide +kernel
theorem dL_law_1180 : decode cL_law 1180 = .ok (.iconst 1, 1) := by decide +kernel
theorem dL_law_1181 : decode cL_law 1181 = .ok (.iadd, 1) := by decide +kernel
theorem dL_law_1182 : decode cL_law 1182 = .ok (.iaload, 1) := by decide +kernel
theorem dL_law_1183 : decode cL_law 1183 = .ok (.aload_n 3, 1) := by decide +kernel
theorem dL_law_1184 : decode cL_law 1184 = .ok (.invokestatic 155, 3) := by decide +kernel
theorem dL_law_1187 : decode cL_law 1187 = .ok (.istore 5, 2) := by decide +kernel
theorem dL_law_1189 : decode cL_law 1189 = .ok (.aload_n 2, 1) := by decide +kernel
theorem dL_law_1190 : decode cL_law 1190 = .ok (.aload_n 0, 1) := by decide +kernel
theorem dL_law_1191 : decode cL_law 1191 = .ok (.iload 4, 2) := by decide +kernel
theorem dL_law_1193 : decode cL_law 1193 = .ok (.iconst 1, 1) := by decide +kernel
theorem dL_law_1194 : decode cL_law 1194 = .ok (.iadd, 1) := by decide +kernel
theorem dL_law_1195 : decode cL_law 1195 = .ok (.iaload, 1) := by decide +kernel
theorem dL_law_1196 : decode cL_law 1196 = .ok (.invokevirtual 157, 3) := by decide +kernel
theorem dL_law_1199 : decode cL_law 1199 = .ok (.istore 6, 2) := by decide +kernel
theorem dL_law_1201 : decode cL_law 1201 = .ok (.aload_n 2, 1) := by decide +kernel
theorem dL_law_1202 : decode cL_law 1202 = .ok (.invokevirtual 82, 3) := by decide +kernel
theorem dL_law_1205 : decode cL_law 1205 = .ok (.iload 5, 2) := by decide +kernel
theorem dL_law_1207 : decode cL_law 1207 = .ok (.if_icmp .eq 5, 3) := by decide +kernel
theorem dL_law_1210 : decode cL_law 1210 = .ok (.iconst 0, 1) := by decide +kernel
theorem dL_law_1211 : decode cL_law 1211 = .ok (.ireturn, 1) := by decide +kernel
theorem dL_law_1212 : decode cL_law 1212 = .ok (.iload 5, 2) := by decide +kernel
theorem dL_law_1214 : decode cL_law 1214 = .ok (.ifCond .ne 15, 3) := by decide +kernel
theorem dL_law_1217 : decode cL_law 1217 = .ok (.aload_n 3, 1) := by decide +kernel
theorem dL_law_1218 : decode cL_law 1218 = .ok (.iconst 0, 1) := by decide +kernel
theorem dL_law_1219 : decode cL_law 1219 = .ok (.laload, 1) := by decide +kernel
theorem dL_law_1220 : decode cL_law 1220 = .ok (.iload 6, 2) := by decide +kernel
theorem dL_law_1222 : decode cL_law 1222 = .ok (.i2l, 1) := by decide +kernel
theorem dL_law_1223 : decode cL_law 1223 = .ok (.lcmp, 1) := by decide +kernel
theorem dL_law_1224 : decode cL_law 1224 = .ok (.ifCond .eq 5, 3) := by decide +kernel
theorem dL_law_1227 : decode cL_law 1227 = .ok (.iconst 0, 1) := by decide +kernel
theorem dL_law_1228 : decode cL_law 1228 = .ok (.ireturn, 1) := by decide +kernel
theorem dL_law_1229 : decode cL_law 1229 = .ok (.goto 126, 3) := by decide +kernel
theorem dL_law_1232 : decode cL_law 1232 = .ok (.aload_n 1, 1) := by decide +kernel
theorem dL_law_1233 : decode cL_law 1233 = .ok (.aload_n 0, 1) := by decide +kernel
theorem dL_law_1234 : decode cL_law 1234 = .ok (.iload 4, 2) := by decide +kernel
theorem dL_law_1236 : decode cL_law 1236 = .ok (.iconst 1, 1) := by decide +kernel
theorem dL_law_1237 : decode cL_law 1237 = .ok (.iadd, 1) := by decide +kernel
theorem dL_law_1238 : decode cL_law 1238 = .ok (.iaload, 1) := by decide +kernel
theorem dL_law_1239 : decode cL_law 1239 = .ok (.aload_n 3, 1) := by decide +kernel
theorem dL_law_1240 : decode cL_law 1240 = .ok (.invokestatic 158, 3) := by decide +kernel
theorem dL_law_1243 : decode cL_law 1243 = .ok (.istore 5, 2) := by decide +kernel
theorem dL_law_1245 : decode cL_law 1245 = .ok (.aload_n 2, 1) := by decide +kernel
theorem dL_law_1246 : decode cL_law 1246 = .ok (.aload_n 0, 1) := by decide +kernel
theorem dL_law_1247 : decode cL_law 1247 = .ok (.iload 4, 2) := by decide +kernel
theorem dL_law_1249 : decode cL_law 1249 = .ok (.iconst 1, 1) := by decide +kernel
theorem dL_law_1250 : decode cL_law 1250 = .ok (.iadd, 1) := by decide +kernel
theorem dL_law_1251 : decode cL_law 1251 = .ok (.iaload, 1) := by decide +kernel
theorem dL_law_1252 : decode cL_law 1252 = .ok (.invokevirtual 160, 3) := by decide +kernel
theorem dL_law_1255 : decode cL_law 1255 = .ok (.istore 6, 2) := by decide +kernel
theorem dL_law_1257 : decode cL_law 1257 = .ok (.aload_n 2, 1) := by decide +kernel
theorem dL_law_1258 : decode cL_law 1258 = .ok (.invokevirtual 82, 3) := by decide +kernel
theorem dL_law_1261 : decode cL_law 1261 = .ok (.iload 5, 2) := by decide +kernel
theorem dL_law_1263 : decode cL_law 1263 = .ok (.if_icmp .eq 5, 3) := by decide +kernel
theorem dL_law_1266 : decode cL_law 1266 = .ok (.iconst 0, 1) := by decide +kernel
theorem dL_law_1267 : decode cL_law 1267 = .ok (.ireturn, 1) := by decide +kernel
theorem dL_law_1268 : decode cL_law 1268 = .ok (.iload 5, 2) := by decide +kernel
theorem dL_law_1270 : decode cL_law 1270 = .ok (.ifCond .ne 15, 3) := by decide +kernel
theorem dL_law_1273 : decode cL_law 1273 = .ok (.aload_n 3, 1) := by decide +kernel
theorem dL_law_1274 : decode cL_law 1274 = .ok (.iconst 0, 1) := by decide +kernel
theorem dL_law_1275 : decode cL_law 1275 = .ok (.laload, 1) := by decide +kernel
theorem dL_law_1276 : decode cL_law 1276 = .ok (.iload 6, 2) := by decide +kernel
theorem dL_law_1278 : decode cL_law 1278 = .ok (.i2l, 1) := by decide +kernel
theorem dL_law_1279 : decode cL_law 1279 = .ok (.lcmp, 1) := by decide +kernel
theorem dL_law_1280 : decode cL_law 1280 = .ok (.ifCond .eq 5, 3) := by decide +kernel
theorem dL_law_1283 : decode cL_law 1283 = .ok (.iconst 0, 1) := by decide +kernel
theorem dL_law_1284 : decode cL_law 1284 = .ok (.ireturn, 1) := by decide +kernel
theorem dL_law_1285 : decode cL_law 1285 = .ok (.goto 70, 3) := by decide +kernel
theorem dL_law_1288 : decode cL_law 1288 = .ok (.aload_n 1, 1) := by decide +kernel
theorem dL_law_1289 : decode cL_law 1289 = .ok (.invokevirtual 161, 3) := by decide +kernel
theorem dL_law_1292 : decode cL_law 1292 = .ok (.dstore 5, 2) := by decide +kernel
theorem dL_law_1294 : decode cL_law 1294 = .ok (.aload_n 2, 1) := by decide +kernel
theorem dL_law_1295 : decode cL_law 1295 = .ok (.invokevirtual 165, 3) := by decide +kernel
theorem dL_law_1298 : decode cL_law 1298 = .ok (.dstore 7, 2) := by decide +kernel
theorem dL_law_1300 : decode cL_law 1300 = .ok (.dload 5, 2) := by decide +kernel
theorem dL_law_1302 : decode cL_law 1302 = .ok (.dload 7, 2) := by decide +kernel
theorem dL_law_1304 : decode cL_law 1304 = .ok (.dcmp .l, 1) := by decide +kernel
theorem dL_law_1305 : decode cL_law 1305 = .ok (.ifCond .eq 21, 3) := by decide +kernel
theorem dL_law_1308 : decode cL_law 1308 = .ok (.dload 5, 2) := by decide +kernel
theorem dL_law_1310 : decode cL_law 1310 = .ok (.dload 5, 2) := by decide +kernel
theorem dL_law_1312 : decode cL_law 1312 = .ok (.dcmp .l, 1) := by decide +kernel
theorem dL_law_1313 : decode cL_law 1313 = .ok (.ifCond .eq 11, 3) := by decide +kernel
theorem dL_law_1316 : decode cL_law 1316 = .ok (.dload 7, 2) := by decide +kernel
theorem dL_law_1318 : decode cL_law 1318 = .ok (.dload 7, 2) := by decide +kernel
theorem dL_law_1320 : decode cL_law 1320 = .ok (.dcmp .l, 1) := by decide +kernel
theorem dL_law_1321 : decode cL_law 1321 = .ok (.ifCond .ne 5, 3) := by decide +kernel
theorem dL_law_1324 : decode cL_law 1324 = .ok (.iconst 0, 1) := by decide +kernel
theorem dL_law_1325 : decode cL_law 1325 = .ok (.ireturn, 1) := by decide +kernel
theorem dL_law_1326 : decode cL_law 1326 = .ok (.goto 29, 3) := by decide +kernel
theorem dL_law_1329 : decode cL_law 1329 = .ok (.aload_n 1, 1) := by decide +kernel
theorem dL_law_1330 : decode cL_law 1330 = .ok (.invokevirtual 166, 3) := by decide +kernel
theorem dL_law_1333 : decode cL_law 1333 = .ok (.aload_n 2, 1) := by decide +kernel
theorem dL_law_1334 : decode cL_law 1334 = .ok (.invokevirtual 169, 3) := by decide +kernel
theorem dL_law_1337 : decode cL_law 1337 = .ok (.if_icmp .eq 18, 3) := by decide +kernel
theorem dL_law_1340 : decode cL_law 1340 = .ok (.iconst 0, 1) := by decide +kernel
theorem dL_law_1341 : decode cL_law 1341 = .ok (.ireturn, 1) := by decide +kernel
theorem dL_law_1342 : decode cL_law 1342 = .ok (.aload_n 1, 1) := by decide +kernel
theorem dL_law_1343 : decode cL_law 1343 = .ok (.invokevirtual 170, 3) := by decide +kernel
theorem dL_law_1346 : decode cL_law 1346 = .ok (.aload_n 2, 1) := by decide +kernel
theorem dL_law_1347 : decode cL_law 1347 = .ok (.invokevirtual 173, 3) := by decide +kernel
theorem dL_law_1350 : decode cL_law 1350 = .ok (.if_icmp .eq 5, 3) := by decide +kernel
theorem dL_law_1353 : decode cL_law 1353 = .ok (.iconst 0, 1) := by decide +kernel
theorem dL_law_1354 : decode cL_law 1354 = .ok (.ireturn, 1) := by decide +kernel
theorem dL_law_1355 : decode cL_law 1355 = .ok (.iinc 4 5, 3) := by decide +kernel
theorem dL_law_1358 : decode cL_law 1358 = .ok (.goto (-1335), 3) := by decide +kernel
theorem dL_law_1361 : decode cL_law 1361 = .ok (.iconst 1, 1) := by decide +kernel
theorem dL_law_1362 : decode cL_law 1362 = .ok (.ireturn, 1) := by decide +kernel
abbrev vwCl : List vw_C := [(RX0, TX0, 8), (RX1, TX1, 3), (RX2, TX2, 9), (RX3, TX3, 6), (RX4, TX4, 12), (RX5, TX5, 4), (RX6, TX6, 14)]
end
section
/-! THE WALK KIT: one judgement Z over the kit's W, that holds heap, frame facts and tables inside; rows of Z; contracts FI, FV; calls -/
abbrev zG : Type := va_G × (Nat → ClassId)
abbrev zC : Type := Program × Launch × Env × Room × State × MethodId × Array Value × List Frame × Method × Code × (Nat → Prop) × (State → Prop)
abbrev zp (C : zC) : Program := C.1
abbrev zl (C : zC) : Launch := C.2.1
abbrev ze (C : zC) : Env := C.2.2.1
abbrev zR (C : zC) : Room := C.2.2.2.1
abbrev zs (C : zC) : State := C.2.2.2.2.1
abbrev zm (C : zC) : MethodId := C.2.2.2.2.2.1
abbrev za (C : zC) : Array Value := C.2.2.2.2.2.2.1
abbrev zb (C : zC) : List Frame := C.2.2.2.2.2.2.2.1
abbrev zM (C : zC) : Method := C.2.2.2.2.2.2.2.2.1
abbrev zc (C : zC) : Code := C.2.2.2.2.2.2.2.2.2.1
abbrev zA (C : zC) : Nat → Prop := C.2.2.2.2.2.2.2.2.2.2.1
abbrev zQ (C : zC) : State → Prop := C.2.2.2.2.2.2.2.2.2.2.2
/-- the words of all methods: the tables' good ones -/
def aw : List Cond := lw_tbl.filter goodWord
theorem aw_good : ∀ w ∈ aw, goodWord w = true := fun _ h => (List.mem_filter.mp h).2
theorem aw_tbl : ∀ w ∈ aw, w ∈ lw_tbl := fun _ h => (List.mem_filter.mp h).1
theorem in_aw {w : Cond} (i : Nat) (h : lw_tbl[i]? = some w) (g : goodWord w = true) : w ∈ aw := List.mem_filter.mpr ⟨List.mem_of_getElem? h, g⟩
abbrev w_ (y : MethodName) (cy : ByteArray) (n : Nat) (r : Option FieldType) : List Cond := Cond.code y cy n r :: aw
theorem good_w {big : List Cond} {y : MethodName} {cy : ByteArray} {n : Nat} {r : Option FieldType} (h : ∀ w ∈ aw, w ∈ big) (hc : Cond.code y cy n r ∈ aw) : GoodIn big (w_ y cy n r) := by
  intro w hw
  rcases List.mem_cons.mp hw with rfl | hw
  · exact ⟨h _ hc, good_of_word (aw_good _ hc)⟩
  · exact ⟨h w hw, good_of_word (aw_good w hw)⟩
/-- the words of calls to private members of nest mates -/
def aN : List Cond := [.methodLinkNest RX0 66 yX5_isWithin "ReelConsole", .methodLinkNest RX2 46 yX5_isWithin "ReelConsole", .methodLinkNest RX4 79 yX5_isReel "ReelConsole", .methodLinkNest RX4 20 yX2_init "ReelConsole", .methodLinkNest RX5 9 yX4_init "ReelConsole", .methodLinkNest RX5 28 yX0_init "ReelConsole", .methodLinkNest RX1 24 yX4_init "ReelConsole"]
theorem aN_is : ∀ w ∈ aN, ∃ a i x h, w = Cond.methodLinkNest a i x h := by
  intro w hw
  simp only [aN, List.mem_cons, List.not_mem_nil, or_false] at hw
  rcases hw with rfl | rfl | rfl | rfl | rfl | rfl | rfl <;> exact ⟨_, _, _, _, rfl⟩
def zN (U : State) : Prop := ∀ w ∈ aN, va_Nw w U
theorem zN.same {u U : State} (h : u.vm = U.vm) (hZ : zN u) : zN U := by
  intro w hw
  obtain ⟨a, i, x, q, rfl⟩ := aN_is w hw
  exact va_Nw.same rfl h (hZ _ hw)
theorem zN.warm {s U : State} (hW : s.WarmedH U.vm) (hZ : zN s) : zN U := by
  intro w hw
  obtain ⟨a, i, x, q, rfl⟩ := aN_is w hw
  exact va_Nw.warmM hW (hZ _ hw)
/-- the arrays' classes: int, boolean, Room, long -/
abbrev zT (i : Nat → ClassId) : List (ClassId × FieldType) := [(i 0, .int), (i 1, .boolean), (i 2, .object RX4), (i 3, .long)]
abbrev zRm (d mc ms : Nat) : Room := { frames := d, cells := mc, slots := ms, locals := 32 * d }
/-- what a walk stands on -/
def zOK (g : zG) (C : zC) (cc : ByteArray) (own : String) (d mc ms : Nat) : Prop :=
  (zp C).tables.exec = Jvm.exec ∧ (zc C).code = cc ∧ (zs C).vm.findClass own = some (zm C).cls ∧ (∀ w ∈ aw, w.before (za C) (zs C) = true) ∧ va_K g.1 vwCl (zT g.2) (zs C) ∧ zR C = zRm d mc ms ∧ (∀ q : Nat, (zs C).heap.size ≤ q → zA C q) ∧ zN (zs C)
/-- the machine stands at pc with these locals, this stack, this world; k cells of n slots are new so far -/
def Z (g : zG) (C : zC) (k n : Nat) (ws : va_W) (lv : List (Nat × Value)) (pc : Nat) (st : List Value) : Prop :=
  ∀ (H : Heap) (locs : List Loc) (ls : Array Slot), va_P g.1 vwCl ws H → va_D (zA C) ws → va_S (zA C) (zs C).heap H locs → lv_has ls (zc C).maxLocals lv →
    W (zp C) (zl C) (ze C) (zR C) (zs C) (zm C) (za C) (zb C) (zM C) (zc C) H locs k n (zQ C) (F0 (zm C) pc ls st)
section ZROWS
variable {g : zG} {C : zC} {cc : ByteArray} {own : String} {d mc ms k n : Nat} {ws ws' : va_W} {lv lv' : List (Nat × Value)} {pc : Nat} {st : List Value}
theorem z_iconst (hC : zOK g C cc own d mc ms) {i : Int} {v : Int32} (hdg : decode cc pc = .ok (.iconst i, 1)) (hv : Int32.ofInt i = v) (h : Z g C k n ws lv (pc + 1) (.int v :: st)) : Z g C k n ws lv pc st :=
  fun H locs ls hP hD hS hl => lv_iconst hC.1 hC.2.1 hdg hv (h H locs ls hP hD hS hl)
theorem z_bipush (hC : zOK g C cc own d mc ms) {i : Int} {v : Int32} (hdg : decode cc pc = .ok (.bipush i, 2)) (hv : (Int8.ofInt i).toInt32 = v) (h : Z g C k n ws lv (pc + 2) (.int v :: st)) : Z g C k n ws lv pc st :=
  fun H locs ls hP hD hS hl => lv_bipush hC.1 hC.2.1 hdg hv (h H locs ls hP hD hS hl)
theorem z_sipush (hC : zOK g C cc own d mc ms) {i : Int} {v : Int32} (hdg : decode cc pc = .ok (.sipush i, 3)) (hv : (Int16.ofInt i).toInt32 = v) (h : Z g C k n ws lv (pc + 3) (.int v :: st)) : Z g C k n ws lv pc st :=
  fun H locs ls hP hD hS hl => lv_sipush hC.1 hC.2.1 hdg hv (h H locs ls hP hD hS hl)
theorem z_lconst (hC : zOK g C cc own d mc ms) {i : Fin 2} {v : Int64} (hdg : decode cc pc = .ok (.lconst i, 1)) (hv : Int64.ofNat (i : Nat) = v) (h : Z g C k n ws lv (pc + 1) (.long v :: st)) : Z g C k n ws lv pc st :=
  fun H locs ls hP hD hS hl => lv_lconst hC.1 hC.2.1 hdg hv (h H locs ls hP hD hS hl)
theorem z_iln (hC : zOK g C cc own d mc ms) {i : Fin 4} {x : Int32} (j : Nat) (hj : lv[j]? = some ((i : Nat), .int x)) (hdg : decode cc pc = .ok (.iload_n i, 1)) (h : Z g C k n ws lv (pc + 1) (.int x :: st)) : Z g C k n ws lv pc st :=
  fun H locs ls hP hD hS hl => lv_iload_n hC.1 hC.2.1 hdg rfl (lv_at hl j hj) (h H locs ls hP hD hS hl)
theorem z_il (hC : zOK g C cc own d mc ms) {i : Nat} {x : Int32} (j : Nat) (hj : lv[j]? = some (i, .int x)) (hdg : decode cc pc = .ok (.iload i, 2)) (h : Z g C k n ws lv (pc + 2) (.int x :: st)) : Z g C k n ws lv pc st :=
  fun H locs ls hP hD hS hl => lv_iload hC.1 hC.2.1 hdg (lv_at hl j hj) (h H locs ls hP hD hS hl)
theorem z_aln (hC : zOK g C cc own d mc ms) {i : Fin 4} {x : Nat} (j : Nat) (hj : lv[j]? = some ((i : Nat), .ref x)) (hdg : decode cc pc = .ok (.aload_n i, 1)) (h : Z g C k n ws lv (pc + 1) (.ref x :: st)) : Z g C k n ws lv pc st :=
  fun H locs ls hP hD hS hl => lv_aload_n hC.1 hC.2.1 hdg rfl (lv_at hl j hj) (h H locs ls hP hD hS hl)
theorem z_al (hC : zOK g C cc own d mc ms) {i : Nat} {x : Nat} (j : Nat) (hj : lv[j]? = some (i, .ref x)) (hdg : decode cc pc = .ok (.aload i, 2)) (h : Z g C k n ws lv (pc + 2) (.ref x :: st)) : Z g C k n ws lv pc st :=
  fun H locs ls hP hD hS hl => lv_aload hC.1 hC.2.1 hdg (lv_at hl j hj) (h H locs ls hP hD hS hl)
theorem z_isn (hC : zOK g C cc own d mc ms) {i : Fin 4} {x : Int32} {nL : Nat} (hm : (zc C).maxLocals = nL) (hi : (i : Nat) < nL) (hl' : ((i : Nat), Value.int x) :: lv.filter (fun q => !(q.1 == (i : Nat)) && !(q.1 + 1 == (i : Nat) && q.2.category == 2)) = lv') (hdg : decode cc pc = .ok (.istore_n i, 1)) (h : Z g C k n ws lv' (pc + 1) st) : Z g C k n ws lv pc (.int x :: st) :=
  fun H locs _ hP hD hS hl => lv_istore_n hC.1 hC.2.1 hdg rfl hl (by rw [hm]; exact hi) hl' (fun ls' hl2 => h H locs ls' hP hD hS hl2)
theorem z_is (hC : zOK g C cc own d mc ms) {i : Nat} {x : Int32} {nL : Nat} (hm : (zc C).maxLocals = nL) (hi : i < nL) (hl' : (i, Value.int x) :: lv.filter (fun q => !(q.1 == i) && !(q.1 + 1 == i && q.2.category == 2)) = lv') (hdg : decode cc pc = .ok (.istore i, 2)) (h : Z g C k n ws lv' (pc + 2) st) : Z g C k n ws lv pc (.int x :: st) :=
  fun H locs _ hP hD hS hl => lv_istore hC.1 hC.2.1 hdg hl (by rw [hm]; exact hi) hl' (fun ls' hl2 => h H locs ls' hP hD hS hl2)
theorem z_asn (hC : zOK g C cc own d mc ms) {i : Fin 4} {x : Nat} {nL : Nat} (hm : (zc C).maxLocals = nL) (hi : (i : Nat) < nL) (hl' : ((i : Nat), Value.ref x) :: lv.filter (fun q => !(q.1 == (i : Nat)) && !(q.1 + 1 == (i : Nat) && q.2.category == 2)) = lv') (hdg : decode cc pc = .ok (.astore_n i, 1)) (h : Z g C k n ws lv' (pc + 1) st) : Z g C k n ws lv pc (.ref x :: st) :=
  fun H locs _ hP hD hS hl => lv_astore_n hC.1 hC.2.1 hdg rfl hl (by rw [hm]; exact hi) hl' (fun ls' hl2 => h H locs ls' hP hD hS hl2)
theorem z_as (hC : zOK g C cc own d mc ms) {i : Nat} {x : Nat} {nL : Nat} (hm : (zc C).maxLocals = nL) (hi : i < nL) (hl' : (i, Value.ref x) :: lv.filter (fun q => !(q.1 == i) && !(q.1 + 1 == i && q.2.category == 2)) = lv') (hdg : decode cc pc = .ok (.astore i, 2)) (h : Z g C k n ws lv' (pc + 2) st) : Z g C k n ws lv pc (.ref x :: st) :=
  fun H locs _ hP hD hS hl => lv_astore hC.1 hC.2.1 hdg hl (by rw [hm]; exact hi) hl' (fun ls' hl2 => h H locs ls' hP hD hS hl2)
theorem z_iinc (hC : zOK g C cc own d mc ms) {i j : Nat} {z : Int} {x v : Int32} {nL : Nat} (hm : (zc C).maxLocals = nL) (hi : i < nL) (hj : lv[j]? = some (i, .int x)) (hv : x + Int32.ofInt z = v) (hl' : (i, Value.int v) :: lv.filter (fun q => !(q.1 == i) && !(q.1 + 1 == i && q.2.category == 2)) = lv') (hdg : decode cc pc = .ok (.iinc i z, 3)) (h : Z g C k n ws lv' (pc + 3) st) : Z g C k n ws lv pc st :=
  fun H locs _ hP hD hS hl => lv_iinc hC.1 hC.2.1 hdg hl hj hv (by rw [hm]; exact hi) hl' (fun ls' hl2 => h H locs ls' hP hD hS hl2)
theorem z_iadd (hC : zOK g C cc own d mc ms) {x y v : Int32} (hv : x + y = v) (hdg : decode cc pc = .ok (.iadd, 1)) (h : Z g C k n ws lv (pc + 1) (.int v :: st)) : Z g C k n ws lv pc (.int y :: .int x :: st) := by
  subst hv
  exact fun H locs ls hP hD hS hl => lv_iadd hC.1 hC.2.1 hdg (h H locs ls hP hD hS hl)
theorem z_isub (hC : zOK g C cc own d mc ms) {x y v : Int32} (hv : x - y = v) (hdg : decode cc pc = .ok (.isub, 1)) (h : Z g C k n ws lv (pc + 1) (.int v :: st)) : Z g C k n ws lv pc (.int y :: .int x :: st) := by
  subst hv
  exact fun H locs ls hP hD hS hl => lv_isub hC.1 hC.2.1 hdg (h H locs ls hP hD hS hl)
theorem z_imul (hC : zOK g C cc own d mc ms) {x y v : Int32} (hv : x * y = v) (hdg : decode cc pc = .ok (.imul, 1)) (h : Z g C k n ws lv (pc + 1) (.int v :: st)) : Z g C k n ws lv pc (.int y :: .int x :: st) := by
  subst hv
  exact fun H locs ls hP hD hS hl => lv_imul hC.1 hC.2.1 hdg (h H locs ls hP hD hS hl)
theorem z_iand (hC : zOK g C cc own d mc ms) {x y v : Int32} (hv : x &&& y = v) (hdg : decode cc pc = .ok (.iand, 1)) (h : Z g C k n ws lv (pc + 1) (.int v :: st)) : Z g C k n ws lv pc (.int y :: .int x :: st) := by
  subst hv
  exact fun H locs ls hP hD hS hl => lv_iand hC.1 hC.2.1 hdg (h H locs ls hP hD hS hl)
theorem z_irem (hC : zOK g C cc own d mc ms) {x y v : Int32} (hy : ¬ y = 0) (hv : x - x / y * y = v) (hdg : decode cc pc = .ok (.irem, 1)) (h : Z g C k n ws lv (pc + 1) (.int v :: st)) : Z g C k n ws lv pc (.int y :: .int x :: st) := by
  subst hv
  exact fun H locs ls hP hD hS hl => lv_irem hC.1 hC.2.1 hdg hy (h H locs ls hP hD hS hl)
theorem z_i2l (hC : zOK g C cc own d mc ms) {x : Int32} {v : Int64} (hv : x.toInt64 = v) (hdg : decode cc pc = .ok (.i2l, 1)) (h : Z g C k n ws lv (pc + 1) (.long v :: st)) : Z g C k n ws lv pc (.int x :: st) :=
  fun H locs ls hP hD hS hl => lv_i2l hC.1 hC.2.1 hdg hv (h H locs ls hP hD hS hl)
theorem z_i2d (hC : zOK g C cc own d mc ms) {x : Int32} (hdg : decode cc pc = .ok (.i2d, 1)) (h : Z g C k n ws lv (pc + 1) (.double (FP.i2d x) :: st)) : Z g C k n ws lv pc (.int x :: st) :=
  fun H locs ls hP hD hS hl => lv_i2d hC.1 hC.2.1 hdg (h H locs ls hP hD hS hl)
theorem z_dup (hC : zOK g C cc own d mc ms) {v : Value} (hv : v.category = 1) (hdg : decode cc pc = .ok (.dup, 1)) (h : Z g C k n ws lv (pc + 1) (v :: v :: st)) : Z g C k n ws lv pc (v :: st) :=
  fun H locs ls hP hD hS hl => lv_dup hC.1 hC.2.1 hdg hv (h H locs ls hP hD hS hl)
theorem z_dup2 (hC : zOK g C cc own d mc ms) {v w : Value} (hv : v.category = 1) (hw : w.category = 1) (hdg : decode cc pc = .ok (.dup2, 1)) (h : Z g C k n ws lv (pc + 1) (v :: w :: v :: w :: st)) : Z g C k n ws lv pc (v :: w :: st) :=
  fun H locs ls hP hD hS hl => lv_dup2_11 hC.1 hC.2.1 hdg hv hw (h H locs ls hP hD hS hl)
theorem z_pop (hC : zOK g C cc own d mc ms) {v : Value} (hv : v.category = 1) (hdg : decode cc pc = .ok (.pop, 1)) (h : Z g C k n ws lv (pc + 1) st) : Z g C k n ws lv pc (v :: st) :=
  fun H locs ls hP hD hS hl => lv_pop hC.1 hC.2.1 hdg hv (h H locs ls hP hD hS hl)
theorem z_goto (hC : zOK g C cc own d mc ms) {off : Int} (tgt : Nat) (ht : (pc : Int) + off = (tgt : Int)) (hdg : decode cc pc = .ok (.goto off, 3)) (h : Z g C k n ws lv tgt st) : Z g C k n ws lv pc st :=
  fun H locs ls hP hD hS hl => lv_goto hC.1 hC.2.1 hdg ht (h H locs ls hP hD hS hl)
theorem z_ifeq (hC : zOK g C cc own d mc ms) {x : Int32} {off : Int} (tgt : Nat) (ht : (pc : Int) + off = (tgt : Int)) (hdg : decode cc pc = .ok (.ifCond .eq off, 3)) (kt : x = 0 → Z g C k n ws lv tgt st) (kf : ¬ x = 0 → Z g C k n ws lv (pc + 3) st) : Z g C k n ws lv pc (.int x :: st) :=
  fun H locs ls hP hD hS hl => lv_if_eq hC.1 hC.2.1 hdg ht (fun q => kt q H locs ls hP hD hS hl) (fun q => kf q H locs ls hP hD hS hl)
theorem z_ifne (hC : zOK g C cc own d mc ms) {x : Int32} {off : Int} (tgt : Nat) (ht : (pc : Int) + off = (tgt : Int)) (hdg : decode cc pc = .ok (.ifCond .ne off, 3)) (kt : ¬ x = 0 → Z g C k n ws lv tgt st) (kf : x = 0 → Z g C k n ws lv (pc + 3) st) : Z g C k n ws lv pc (.int x :: st) :=
  fun H locs ls hP hD hS hl => lv_if_ne hC.1 hC.2.1 hdg ht (fun q => kt q H locs ls hP hD hS hl) (fun q => kf q H locs ls hP hD hS hl)
theorem z_iflt (hC : zOK g C cc own d mc ms) {x : Int32} {off : Int} (tgt : Nat) (ht : (pc : Int) + off = (tgt : Int)) (hdg : decode cc pc = .ok (.ifCond .lt off, 3)) (kt : x < 0 → Z g C k n ws lv tgt st) (kf : ¬ x < 0 → Z g C k n ws lv (pc + 3) st) : Z g C k n ws lv pc (.int x :: st) :=
  fun H locs ls hP hD hS hl => lv_if_lt hC.1 hC.2.1 hdg ht (fun q => kt q H locs ls hP hD hS hl) (fun q => kf q H locs ls hP hD hS hl)
theorem z_ifge (hC : zOK g C cc own d mc ms) {x : Int32} {off : Int} (tgt : Nat) (ht : (pc : Int) + off = (tgt : Int)) (hdg : decode cc pc = .ok (.ifCond .ge off, 3)) (kt : 0 ≤ x → Z g C k n ws lv tgt st) (kf : ¬ 0 ≤ x → Z g C k n ws lv (pc + 3) st) : Z g C k n ws lv pc (.int x :: st) :=
  fun H locs ls hP hD hS hl => lv_if_ge hC.1 hC.2.1 hdg ht (fun q => kt q H locs ls hP hD hS hl) (fun q => kf q H locs ls hP hD hS hl)
theorem z_ifgt (hC : zOK g C cc own d mc ms) {x : Int32} {off : Int} (tgt : Nat) (ht : (pc : Int) + off = (tgt : Int)) (hdg : decode cc pc = .ok (.ifCond .gt off, 3)) (kt : 0 < x → Z g C k n ws lv tgt st) (kf : ¬ 0 < x → Z g C k n ws lv (pc + 3) st) : Z g C k n ws lv pc (.int x :: st) :=
  fun H locs ls hP hD hS hl => lv_if_gt hC.1 hC.2.1 hdg ht (fun q => kt q H locs ls hP hD hS hl) (fun q => kf q H locs ls hP hD hS hl)
theorem z_ifle (hC : zOK g C cc own d mc ms) {x : Int32} {off : Int} (tgt : Nat) (ht : (pc : Int) + off = (tgt : Int)) (hdg : decode cc pc = .ok (.ifCond .le off, 3)) (kt : x ≤ 0 → Z g C k n ws lv tgt st) (kf : ¬ x ≤ 0 → Z g C k n ws lv (pc + 3) st) : Z g C k n ws lv pc (.int x :: st) :=
  fun H locs ls hP hD hS hl => lv_if_le hC.1 hC.2.1 hdg ht (fun q => kt q H locs ls hP hD hS hl) (fun q => kf q H locs ls hP hD hS hl)
theorem z_iceq (hC : zOK g C cc own d mc ms) {x y : Int32} {off : Int} (tgt : Nat) (ht : (pc : Int) + off = (tgt : Int)) (hdg : decode cc pc = .ok (.if_icmp .eq off, 3)) (kt : x = y → Z g C k n ws lv tgt st) (kf : ¬ x = y → Z g C k n ws lv (pc + 3) st) : Z g C k n ws lv pc (.int y :: .int x :: st) :=
  fun H locs ls hP hD hS hl => lv_icmp_eq hC.1 hC.2.1 hdg ht (fun q => kt q H locs ls hP hD hS hl) (fun q => kf q H locs ls hP hD hS hl)
theorem z_icne (hC : zOK g C cc own d mc ms) {x y : Int32} {off : Int} (tgt : Nat) (ht : (pc : Int) + off = (tgt : Int)) (hdg : decode cc pc = .ok (.if_icmp .ne off, 3)) (kt : ¬ x = y → Z g C k n ws lv tgt st) (kf : x = y → Z g C k n ws lv (pc + 3) st) : Z g C k n ws lv pc (.int y :: .int x :: st) :=
  fun H locs ls hP hD hS hl => lv_icmp_ne hC.1 hC.2.1 hdg ht (fun q => kt q H locs ls hP hD hS hl) (fun q => kf q H locs ls hP hD hS hl)
theorem z_iclt (hC : zOK g C cc own d mc ms) {x y : Int32} {off : Int} (tgt : Nat) (ht : (pc : Int) + off = (tgt : Int)) (hdg : decode cc pc = .ok (.if_icmp .lt off, 3)) (kt : x < y → Z g C k n ws lv tgt st) (kf : ¬ x < y → Z g C k n ws lv (pc + 3) st) : Z g C k n ws lv pc (.int y :: .int x :: st) :=
  fun H locs ls hP hD hS hl => lv_icmp_lt hC.1 hC.2.1 hdg ht (fun q => kt q H locs ls hP hD hS hl) (fun q => kf q H locs ls hP hD hS hl)
theorem z_icge (hC : zOK g C cc own d mc ms) {x y : Int32} {off : Int} (tgt : Nat) (ht : (pc : Int) + off = (tgt : Int)) (hdg : decode cc pc = .ok (.if_icmp .ge off, 3)) (kt : y ≤ x → Z g C k n ws lv tgt st) (kf : ¬ y ≤ x → Z g C k n ws lv (pc + 3) st) : Z g C k n ws lv pc (.int y :: .int x :: st) :=
  fun H locs ls hP hD hS hl => lv_icmp_ge hC.1 hC.2.1 hdg ht (fun q => kt q H locs ls hP hD hS hl) (fun q => kf q H locs ls hP hD hS hl)
theorem z_icgt (hC : zOK g C cc own d mc ms) {x y : Int32} {off : Int} (tgt : Nat) (ht : (pc : Int) + off = (tgt : Int)) (hdg : decode cc pc = .ok (.if_icmp .gt off, 3)) (kt : y < x → Z g C k n ws lv tgt st) (kf : ¬ y < x → Z g C k n ws lv (pc + 3) st) : Z g C k n ws lv pc (.int y :: .int x :: st) :=
  fun H locs ls hP hD hS hl => lv_icmp_gt hC.1 hC.2.1 hdg ht (fun q => kt q H locs ls hP hD hS hl) (fun q => kf q H locs ls hP hD hS hl)
theorem z_icle (hC : zOK g C cc own d mc ms) {x y : Int32} {off : Int} (tgt : Nat) (ht : (pc : Int) + off = (tgt : Int)) (hdg : decode cc pc = .ok (.if_icmp .le off, 3)) (kt : x ≤ y → Z g C k n ws lv tgt st) (kf : ¬ x ≤ y → Z g C k n ws lv (pc + 3) st) : Z g C k n ws lv pc (.int y :: .int x :: st) :=
  fun H locs ls hP hD hS hl => lv_icmp_le hC.1 hC.2.1 hdg ht (fun q => kt q H locs ls hP hD hS hl) (fun q => kf q H locs ls hP hD hS hl)
/-- the top gets a name; or another form -/
theorem z_top {x : Int32} (h : ∀ y : Int32, y = x → Z g C k n ws lv pc (.int y :: st)) : Z g C k n ws lv pc (.int x :: st) := h x rfl
theorem z_is_ {x y : Int32} (e : x = y) (h : Z g C k n ws lv pc (.int y :: st)) : Z g C k n ws lv pc (.int x :: st) := by subst e; exact h
theorem z_w (e : ws = ws') (h : Z g C k n ws' lv pc st) : Z g C k n ws lv pc st := by subst e; exact h
theorem z_lv (is : List Nat) (e : lv_pick lv is = lv') (h : Z g C k n ws lv' pc st) : Z g C k n ws lv pc st :=
  fun H locs ls hP hD hS hl => h H locs ls hP hD hS (lv_sub hl is e)
theorem z_widen {k' n' : Nat} (h1 : k ≤ k') (h2 : n ≤ n') (h : Z g C k' n' ws lv pc st) : Z g C k n ws lv pc st :=
  fun H locs ls hP hD hS hl => W.widen h1 h2 (h H locs ls hP hD hS hl)
/-- a field, by its entry of the constant pool: kind ci, place f, declared in its own class -/
def fl (own : String) (idx ci f : Nat) : Prop := ∃ (r : vw_C), vwCl[ci]? = some r ∧ f < r.2.2 ∧ (∀ w ∈ u_ws r.1 r.2.1 r.2.2, w ∈ aw) ∧ Cond.fieldLink own idx (r.2.1 f).1 (r.2.1 f).2.1 (r.2.1 f).2.2.1 ∈ aw
theorem z_get (hC : zOK g C cc own d mc ms) {idx ci f : Nat} (hf : fl own idx ci f) (q0 : Nat) {a : Nat} {fs : List Value} {v : Value} (he : ws[q0]? = some (a, .inr (ci, fs))) (hv : fs[f]? = some v) (hdg : decode cc pc = .ok (.getfield idx, 3)) (h : Z g C k n ws lv (pc + 3) (v :: st)) : Z g C k n ws lv pc (.ref a :: st) := by
  obtain ⟨⟨R, T, N⟩, h1, h2, h3, h4⟩ := hf
  exact fun H locs ls hP hD hS hl => va_get hC.1 hC.2.1 hC.2.2.2.1 h3 hC.2.2.1 hC.2.2.2.2.1 hP q0 he h1 f h2 (hC.2.2.2.1 _ h4) (fun _ q => q) hv hdg (h H locs ls hP hD hS hl)
/-- a field that may be written -/
def fp (ci f : Nat) (ty : FieldType) : Prop := ∃ (r : vw_C) (ty0 : Nat → FieldType), vwCl[ci]? = some r ∧ (∀ j, j < r.2.2 → parseFieldDescriptor (r.2.1 j).2.2.1 = some (ty0 j)) ∧ (∀ a, a < r.2.2 → ∀ b, b < r.2.2 → a ≠ b → (r.2.1 a).2.1 ≠ (r.2.1 b).2.1) ∧ (r.2.1 f).2.2.2 = false ∧ parseFieldDescriptor (r.2.1 f).2.2.1 = some ty
theorem z_put (hC : zOK g C cc own d mc ms) {idx ci f : Nat} (hf : fl own idx ci f) (hp : fp ci f .int) (q0 : Nat) {a : Nat} {fs : List Value} {x : Int32} (he : ws[q0]? = some (a, .inr (ci, fs))) (hl : f < fs.length) (hw : ws.set q0 (a, .inr (ci, fs.set f (.int x))) = ws') (hdg : decode cc pc = .ok (.putfield idx, 3)) (h : Z g C k n ws' lv (pc + 3) st) : Z g C k n ws lv pc (.int x :: .ref a :: st) := by
  obtain ⟨⟨R, T, N⟩, h1, h2, h3, h4⟩ := hf
  obtain ⟨r', ty0, p1, p2, p3, p4, p5⟩ := hp
  obtain rfl : (R, T, N) = r' := Option.some.inj (h1.symm.trans p1)
  subst hw
  exact fun H locs ls hP hD hS hl0 => va_put hC.1 hC.2.1 hC.2.2.2.1 h3 ty0 p2 p3 hC.2.2.1 hC.2.2.2.2.1 hP hD hS q0 he h1 f h2 (hC.2.2.2.1 _ h4) (fun _ q => q) p4 p5 rfl rfl hl hdg (fun H1 locs1 hP1 hD1 hS1 => h H1 locs1 ls hP1 hD1 hS1 hl0)
theorem z_iald (hC : zOK g C cc own d mc ms) (q0 : Nat) {a nn : Nat} {f : Nat → Int32} (ha : ws[q0]? = some (a, .inl (g.2 0, nn, .inl f))) (hdg : decode cc pc = .ok (.iaload, 1)) {x : Int32} (j : Nat) (hx : x = nI j) (hj : j < nn) (hn : nn < 2 ^ 31) (h : Z g C k n ws lv (pc + 1) (.int (f j) :: st)) : Z g C k n ws lv pc (.int x :: .ref a :: st) := by
  subst hx
  have hc := nI_clamp (n := j) (by omega)
  rw [← hc] at h
  exact fun H locs ls hP hD hS hl => va_iald hC.1 hC.2.1 hC.2.2.2.2.1 hP q0 0 ha rfl (vp_in_nI hj hn) hdg (h H locs ls hP hD hS hl)
theorem z_zald (hC : zOK g C cc own d mc ms) (q0 : Nat) {a nn : Nat} {f : Nat → Int32} (ha : ws[q0]? = some (a, .inl (g.2 1, nn, .inl f))) (hdg : decode cc pc = .ok (.baload, 1)) {x : Int32} (j : Nat) (hx : x = nI j) (hj : j < nn) (hn : nn < 2 ^ 31) (h : Z g C k n ws lv (pc + 1) (.int (f j) :: st)) : Z g C k n ws lv pc (.int x :: .ref a :: st) := by
  subst hx
  have hc := nI_clamp (n := j) (by omega)
  rw [← hc] at h
  exact fun H locs ls hP hD hS hl => va_zald hC.1 hC.2.1 hC.2.2.2.2.1 hP q0 1 ha rfl (vp_in_nI hj hn) hdg (h H locs ls hP hD hS hl)
theorem z_iast (hC : zOK g C cc own d mc ms) (q0 : Nat) {a nn : Nat} {f : Nat → Int32} (ha : ws[q0]? = some (a, .inl (g.2 0, nn, .inl f))) (hdg : decode cc pc = .ok (.iastore, 1)) {x v : Int32} (j : Nat) (hx : x = nI j) (hj : j < nn) (hn : nn < 2 ^ 31) (hw : ws.set q0 (a, .inl (g.2 0, nn, .inl (upd f j v))) = ws') (h : Z g C k n ws' lv (pc + 1) st) : Z g C k n ws lv pc (.int v :: .int x :: .ref a :: st) := by
  subst hx hw
  have hc := nI_clamp (n := j) (by omega)
  rw [← hc] at h
  exact fun H locs ls hP hD hS hl => va_iast hC.1 hC.2.1 hC.2.2.2.2.1 hP hD hS q0 0 ha rfl (vp_in_nI hj hn) hdg (fun H1 locs1 hP1 hD1 hS1 => h H1 locs1 ls hP1 hD1 hS1 hl)
theorem z_zast (hC : zOK g C cc own d mc ms) (q0 : Nat) {a nn : Nat} {f : Nat → Int32} (ha : ws[q0]? = some (a, .inl (g.2 1, nn, .inl f))) (hdg : decode cc pc = .ok (.bastore, 1)) {x v : Int32} (j : Nat) (hx : x = nI j) (hj : j < nn) (hn : nn < 2 ^ 31) (hv : vp_nar .boolean v = v) (hw : ws.set q0 (a, .inl (g.2 1, nn, .inl (upd f j v))) = ws') (h : Z g C k n ws' lv (pc + 1) st) : Z g C k n ws lv pc (.int v :: .int x :: .ref a :: st) := by
  subst hx hw
  have hc := nI_clamp (n := j) (by omega)
  rw [← hc] at h
  refine fun H locs ls hP hD hS hl => va_zast hC.1 hC.2.1 hC.2.2.2.2.1 hP hD hS q0 1 ha rfl (vp_in_nI hj hn) hdg (fun H1 locs1 hP1 hD1 hS1 => h H1 locs1 ls ?_ ?_ hS1 hl)
  · rw [hv] at hP1; exact hP1
  · rw [hv] at hD1; exact hD1
end ZROWS
end
section
/-! contracts, entries, ends, calls -/
/-- what a method starts from -/
def zPre (g : zG) (av : List Value) (w : va_W) (sz : Nat) : Array Value → State → Prop := va_Pc av (fun U => U.heap.size = sz ∧ va_P g.1 vwCl w U.heap ∧ va_K g.1 vwCl (zT g.2) U ∧ va_D (fun _ => True) w ∧ zN U)
def zPost {S : Type} (g : zG) (w : va_W) (sz : Nat) (w' : S → va_W) : S → State → Prop := fun u t => va_P g.1 vwCl (w' u) t.heap ∧ va_D (va_A w sz) (w' u)
/-- a method that answers an int -/
def FI {S : Type} (g : zG) (y : MethodName) (cy : ByteArray) (nl : Nat) (ret : FieldType) (d mc ms : Nat) (av : List Value) (w : va_W) (post : Int32 → S → Prop) (w' : S → va_W) : Prop :=
  ∀ (l : Launch) (sz : Nat), Met l y (w_ y cy nl (some ret)) (zRm d mc ms) (zPre g av w sz) (va_Qi post (zPost g w sz w') (va_A w sz)) mc ms (va_A w sz)
/-- a method that answers nothing -/
def FV {S : Type} (g : zG) (y : MethodName) (cy : ByteArray) (nl : Nat) (d mc ms : Nat) (av : List Value) (w : va_W) (post : S → Prop) (w' : S → va_W) : Prop :=
  ∀ (l : Launch) (sz : Nat), Met l y (w_ y cy nl none) (zRm d mc ms) (zPre g av w sz) (va_Qv post (zPost g w sz w') (va_A w sz)) mc ms (va_A w sz)
/-- .. of which the answer and the new world are known, and which makes nothing -/
abbrev Gi (g : zG) (y : MethodName) (cy : ByteArray) (nl : Nat) (ret : FieldType) (d : Nat) (av : List Value) (w : va_W) (r : Int32) (w' : va_W) : Prop :=
  FI (S := Unit) g y cy nl ret d 0 0 av w (fun r' _ => r' = r) (fun _ => w')
abbrev Gv (g : zG) (y : MethodName) (cy : ByteArray) (nl : Nat) (d : Nat) (av : List Value) (w w' : va_W) : Prop :=
  FV (S := Unit) g y cy nl d 0 0 av w (fun _ => True) (fun _ => w')
theorem zPre_blind {g : zG} {av : List Value} {w : va_W} {sz : Nat} : FrameBlind (zPre g av w sz) := fun a U f mk q => by
  obtain ⟨q0, q1, qP, qK, qD, qN⟩ := q
  exact ⟨q0, q1, qP, va_K.moved (u := U) (U := U.calling f mk a) (Vm.Alike.refl U.vm) qK, qD, zN.same (u := U) (U := U.calling f mk a) rfl qN⟩
/-- the ends of a body -/
def zI {S : Type} (g : zG) (C : zC) (cc : ByteArray) (ret : FieldType) (mc ms : Nat) (post : Int32 → S → Prop) (w' : S → va_W) : Prop :=
  ∀ (pc : Nat) (lv : List (Nat × Value)) (r : Int32) (u : S) (k n : Nat) (ws : va_W), decode cc pc = .ok (.ireturn, 1) → narrow ret (.int r) = .int r → post r u → ws = w' u → k ≤ mc → n ≤ ms → Z g C k n ws lv pc [.int r]
def zV {S : Type} (g : zG) (C : zC) (cc : ByteArray) (mc ms : Nat) (post : S → Prop) (w' : S → va_W) : Prop :=
  ∀ (pc : Nat) (lv : List (Nat × Value)) (u : S) (k n : Nat) (ws : va_W), decode cc pc = .ok (.return_, 1) → post u → ws = w' u → k ≤ mc → n ≤ ms → Z g C k n ws lv pc []
theorem fi_entry {S : Type} {g : zG} {y : MethodName} {cy : ByteArray} {nl : Nat} {ret : FieldType} {d mc ms : Nat} {av : List Value} {w : va_W} {post : Int32 → S → Prop} {w' : S → va_W} (hy : plainName y.cls = true) (hn : (lg_sl av).length ≤ nl)
    (h : ∀ C : zC, zOK g C cy y.cls d mc ms → (zc C).maxLocals = nl → zI g C cy ret mc ms post w' → Z g C 0 0 w (lv_args 0 av) 0 []) : FI g y cy nl ret d mc ms av w post w' := by
  intro l sz
  refine Met.ofW (cc := cy) (maxL := nl) (ret := some ret) hy rfl ?_
  intro p e s m args below meth c s₁ B hml hv
  obtain ⟨rfl, hsz, hP, hK, hD0, hN⟩ := hv
  have hx := B.exec
  have hb := B.bytes
  have hr := B.returns
  have hts := atoms_spec (ws := w_ y cy nl (some ret)) B.pre
  have hown : s.vm.findClass y.cls = some m.cls := findClass_of_methodNamed B.named
  have hlocks := B.notSynchronized
  subst hsz
  rw [lg_entry_eq]
  have hl := lv_entry av (n := nl) hn
  generalize (lg_sl av ++ List.replicate (nl - (lg_sl av).length) Slot.unset).toArray = ls at hl ⊢
  refine h (p, l, e, zRm d mc ms, s, m, av.toArray, below, meth, c, va_A w s.heap.size, MQ below (va_Qi post (zPost g w s.heap.size w') (va_A w s.heap.size)) av.toArray s mc ms (va_A w s.heap.size)) ⟨hx, hb, hown, fun x hx' => hts x (List.mem_cons_of_mem _ hx'), hK, rfl, fun q hq => Or.inr hq, hN⟩ hml ?_ s.heap [] ls hP hD0.self va_S.rf (by rw [show (zc (p, l, e, zRm d mc ms, s, m, av.toArray, below, meth, c, va_A w s.heap.size, MQ below (va_Qi post (zPost g w s.heap.size w') (va_A w s.heap.size)) av.toArray s mc ms (va_A w s.heap.size))).maxLocals = nl from hml]; exact hl)
  intro pc lv r u k n ws hdg hnar hp hw h1 h2
  subst hw
  intro H locs ls2 hP hD hS hl2
  refine W.widen h1 h2 ?_
  exact W.zret hx hb hr hnar (fun t ht hW => ⟨⟨r, u, rfl, hp, by rw [ht]; exact hP, hD⟩, hS.F ht⟩) hS.2.2 hdg
theorem fv_entry {S : Type} {g : zG} {y : MethodName} {cy : ByteArray} {nl : Nat} {d mc ms : Nat} {av : List Value} {w : va_W} {post : S → Prop} {w' : S → va_W} (hy : plainName y.cls = true) (hn : (lg_sl av).length ≤ nl)
    (h : ∀ C : zC, zOK g C cy y.cls d mc ms → (zc C).maxLocals = nl → (zM C).name = y.name → zV g C cy mc ms post w' → Z g C 0 0 w (lv_args 0 av) 0 []) : FV g y cy nl d mc ms av w post w' := by
  intro l sz
  refine Met.ofW (cc := cy) (maxL := nl) (ret := none) hy rfl ?_
  intro p e s m args below meth c s₁ B hml hv
  obtain ⟨rfl, hsz, hP, hK, hD0, hN⟩ := hv
  have hx := B.exec
  have hb := B.bytes
  have hr := B.returns
  have hts := atoms_spec (ws := w_ y cy nl none) B.pre
  have hown : s.vm.findClass y.cls = some m.cls := findClass_of_methodNamed B.named
  have hlocks := B.notSynchronized
  have hin : meth.name = y.name := (name_of_methodNamed B.named B.method).1
  subst hsz
  rw [lg_entry_eq]
  have hl := lv_entry av (n := nl) hn
  generalize (lg_sl av ++ List.replicate (nl - (lg_sl av).length) Slot.unset).toArray = ls at hl ⊢
  refine h (p, l, e, zRm d mc ms, s, m, av.toArray, below, meth, c, va_A w s.heap.size, MQ below (va_Qv post (zPost g w s.heap.size w') (va_A w s.heap.size)) av.toArray s mc ms (va_A w s.heap.size)) ⟨hx, hb, hown, fun x hx' => hts x (List.mem_cons_of_mem _ hx'), hK, rfl, fun q hq => Or.inr hq, hN⟩ hml hin ?_ s.heap [] ls hP hD0.self va_S.rf (by rw [show (zc (p, l, e, zRm d mc ms, s, m, av.toArray, below, meth, c, va_A w s.heap.size, MQ below (va_Qv post (zPost g w s.heap.size w') (va_A w s.heap.size)) av.toArray s mc ms (va_A w s.heap.size))).maxLocals = nl from hml]; exact hl)
  intro pc lv u k n ws hdg hp hw h1 h2
  subst hw
  intro H locs ls2 hP hD hS hl2
  refine W.widen h1 h2 ?_
  exact W.vret hx hb hr (fun t ht hW => ⟨⟨u, rfl, hp, by rw [ht]; exact hP, hD⟩, hS.F ht⟩) hS.2.2 hdg
/-! worlds as lists: a part in the middle -/
theorem va_P_mem {D : va_G} {cl : List vw_C} {ws : va_W} {H : Heap} : va_P D cl ws H ↔ ∀ q ∈ ws, va_at D cl q H := by
  refine ⟨fun h q hq => ?_, fun h k q hk => h q (List.mem_of_getElem? hk)⟩
  obtain ⟨k, hk⟩ := List.getElem?_of_mem hq
  exact h k q hk
theorem va_D_iff {A : Nat → Prop} {ws : va_W} : va_D A ws ↔ (ws.map Prod.fst).Nodup ∧ ∀ q ∈ ws, A q.1 := by
  constructor
  · intro h
    refine ⟨?_, fun q hq => ?_⟩
    · rw [List.Nodup, List.pairwise_iff_getElem]
      intro i j hi hj hij he
      have hi' : i < ws.length := by simpa using hi
      have hj' : j < ws.length := by simpa using hj
      have := h.1 i j ws[i] ws[j] (List.getElem?_eq_getElem hi') (List.getElem?_eq_getElem hj') (by simpa using he)
      omega
    · obtain ⟨k, hk⟩ := List.getElem?_of_mem hq
      exact h.2 k q hk
  · intro h
    refine ⟨fun i j p q hi hj he => ?_, fun k q hk => h.2 q (List.mem_of_getElem? hk)⟩
    obtain ⟨hi', ei⟩ := List.getElem?_eq_some_iff.mp hi
    obtain ⟨hj', ej⟩ := List.getElem?_eq_some_iff.mp hj
    have h1 := h.1
    rw [List.Nodup, List.pairwise_iff_getElem] at h1
    have key : ∀ (a b : Nat) (ha : a < ws.length) (hb : b < ws.length), a < b → ws[a].1 ≠ ws[b].1 := fun a b ha hb hab => by
      have := h1 a b (by simpa using ha) (by simpa using hb) hab
      simpa using this
    rcases Nat.lt_trichotomy i j with q1 | q1 | q1
    · exact absurd (by rw [ei, ej, he]) (key i j hi' hj' q1)
    · exact q1
    · exact absurd (by rw [ei, ej, he]) (key j i hj' hi' q1)
theorem va_P_app {D : va_G} {cl : List vw_C} {w1 w2 : va_W} {H : Heap} : va_P D cl (w1 ++ w2) H ↔ va_P D cl w1 H ∧ va_P D cl w2 H := by
  simp only [va_P_mem, List.mem_append]
  exact ⟨fun h => ⟨fun q hq => h q (Or.inl hq), fun q hq => h q (Or.inr hq)⟩, fun h q hq => hq.elim (h.1 q) (h.2 q)⟩
theorem va_D_app {A : Nat → Prop} {w1 w2 : va_W} : va_D A (w1 ++ w2) ↔ va_D A w1 ∧ va_D A w2 ∧ ∀ q ∈ w1, ∀ q' ∈ w2, q.1 ≠ q'.1 := by
  simp only [va_D_iff, List.map_append, List.nodup_append, List.mem_append, List.mem_map]
  constructor
  · rintro ⟨⟨h1, h2, h3⟩, h4⟩
    exact ⟨⟨h1, fun q hq => h4 q (Or.inl hq)⟩, ⟨h2, fun q hq => h4 q (Or.inr hq)⟩, fun q hq q' hq' => h3 _ ⟨q, hq, rfl⟩ _ ⟨q', hq', rfl⟩⟩
  · rintro ⟨⟨h1, h2⟩, ⟨h3, h4⟩, h5⟩
    refine ⟨⟨h1, h3, ?_⟩, fun q hq => hq.elim (h2 q) (h4 q)⟩
    rintro a ⟨q, hq, rfl⟩ b ⟨q', hq', rfl⟩
    exact h5 q hq q' hq'
theorem va_A_in {w : va_W} {sz : Nat} {q : Nat × va_E} (h : q ∈ w) : va_A w sz q.1 := by
  obtain ⟨k, hk⟩ := List.getElem?_of_mem h
  exact va_A.in hk
theorem va_A_out {w : va_W} {sz a : Nat} (h1 : a < sz) (h2 : ∀ q ∈ w, q.1 ≠ a) : ¬ va_A w sz a := by
  rintro (⟨k, e, hk⟩ | h)
  · exact h2 _ (List.mem_of_getElem? hk) rfl
  · omega
theorem mid_free {A : Nat → Prop} {pre w suf : va_W} {H0 H : Heap} {locs : List Loc} (hD : va_D A (pre ++ (w ++ suf))) (hS : va_S A H0 H locs) (hA : ∀ q : Nat, H0.size ≤ q → A q) : ∀ q, va_A w H.size q → A q := by
  rintro q (⟨k, e, hk⟩ | h)
  · exact (va_D_iff.mp hD).2 (q, e) (List.mem_append_right _ (List.mem_append_left _ (List.mem_of_getElem? hk)))
  · exact hA q (Nat.le_trans hS.1 h)
theorem mid_join {A : Nat → Prop} {D : va_G} {cl : List vw_C} {pre w w' suf : va_W} {H H1 : Heap} (hP : va_P D cl (pre ++ (w ++ suf)) H) (hD : va_D A (pre ++ (w ++ suf))) (hk : ∀ q : Nat, q < H.size → ¬ va_A w H.size q → H1[q]? = H[q]?) (hF : ∀ q, va_A w H.size q → A q)
    (hP1 : va_P D cl w' H1) (hD1 : va_D (va_A w H.size) w') : va_P D cl (pre ++ (w' ++ suf)) H1 ∧ va_D A (pre ++ (w' ++ suf)) := by
  obtain ⟨hPa, hPb⟩ := va_P_app.mp hP
  obtain ⟨hPw, hPs⟩ := va_P_app.mp hPb
  obtain ⟨hDa, hDb, hab⟩ := va_D_app.mp hD
  obtain ⟨hDw, hDs, hws⟩ := va_D_app.mp hDb
  have oa : ∀ q ∈ pre, q.1 < H.size ∧ ¬ va_A w H.size q.1 := fun q hq => by
    have hl := (va_P_mem.mp hPa q hq).lt
    exact ⟨hl, va_A_out hl (fun q' hq' => (hab q hq q' (List.mem_append_left _ hq')).symm)⟩
  have os : ∀ q ∈ suf, q.1 < H.size ∧ ¬ va_A w H.size q.1 := fun q hq => by
    have hl := (va_P_mem.mp hPs q hq).lt
    exact ⟨hl, va_A_out hl (fun q' hq' => hws q' hq' q hq)⟩
  refine ⟨va_P_app.mpr ⟨?_, va_P_app.mpr ⟨hP1, ?_⟩⟩, va_D_app.mpr ⟨hDa, va_D_app.mpr ⟨hD1.weaken (fun _ q _ h => hF q.1 h), hDs, ?_⟩, ?_⟩⟩
  · exact va_P_mem.mpr fun q hq => (va_P_mem.mp hPa q hq).kept (hk q.1 (oa q hq).1 (oa q hq).2)
  · exact va_P_mem.mpr fun q hq => (va_P_mem.mp hPs q hq).kept (hk q.1 (os q hq).1 (os q hq).2)
  · intro q hq q' hq' he
    exact (os q' hq').2 (he ▸ (va_D_iff.mp hD1).2 q hq)
  · intro q hq q' hq' he
    rcases List.mem_append.mp hq' with h | h
    · exact (oa q hq).2 (he ▸ (va_D_iff.mp hD1).2 q' h)
    · exact hab q hq q' (List.mem_append_right _ h) he
/-! calls -/
def mOK (y : MethodName) (cy : ByteArray) (nl : Nat) (ret : Option FieldType) (np : Nat) : Prop :=
  Cond.initialized y.cls ∈ aw ∧ Cond.code y cy nl ret ∈ aw ∧ (y.cls ≠ "java/lang/invoke/MethodHandle" ∧ y.cls ≠ "java/lang/invoke/VarHandle" ∧ (parseMethodDescriptor y.desc).map (fun d => d.parameters.length) = some np) ∧ nl ≤ 13
/-- a virtual method -/
def vM (y : MethodName) (cy : ByteArray) (nl : Nat) (ret : Option FieldType) (np : Nat) : Prop := Cond.instanceMethod y ∈ aw ∧ Cond.selects y.cls y y ∈ aw ∧ mOK y cy nl ret np
/-- a static one -/
def sM (y : MethodName) (cy : ByteArray) (nl : Nat) (ret : Option FieldType) (np : Nat) : Prop := Cond.static y ∈ aw ∧ mOK y cy nl ret np
/-- a constructor -/
def iM (y : MethodName) (cy : ByteArray) (nl : Nat) (np : Nat) : Prop := Cond.instanceMethod y ∈ aw ∧ y.name = "<init>" ∧ mOK y cy nl none np
theorem good_wV {big : List Cond} {own : String} {idx : Nat} {y : MethodName} {cy : ByteArray} {nl np : Nat} {ret : Option FieldType} (h : ∀ w ∈ aw, w ∈ big) (hl : Cond.methodLink own idx y ∈ aw) (hy : vM y cy nl ret np) : GoodIn big (wsV own idx y.cls y (w_ y cy nl ret)) := by
  intro w hw
  unfold wsV at hw
  have key : ∀ w ∈ aw, w ∈ big ∧ ((w.onTables && w.keeps) = true ∨ ∃ ty, w = .arrayClass ty) := fun w hw => ⟨h w hw, good_of_word (aw_good w hw)⟩
  rcases List.mem_append.mp hw with hw | hw
  · simp only [List.mem_cons, List.not_mem_nil, or_false] at hw
    rcases hw with rfl | rfl | rfl | rfl
    · exact key _ hl
    · exact key _ hy.1
    · exact key _ hy.2.1
    · exact key _ hy.2.2.1
  · exact good_w h hy.2.2.2.1 w hw
section ZCALLS
variable {g : zG} {C : zC} {cc : ByteArray} {own : String} {d mc ms k n : Nat} {ws ws' : va_W} {lv lv' : List (Nat × Value)} {pc : Nat} {st rest : List Value}
variable {S : Type} {y : MethodName} {cy : ByteArray} {nl d' mc' ms' np idx b : Nat} {ret : FieldType} {As : List Value} {pre w suf : va_W} {w' : S → va_W}
theorem z_room (hC : zOK g C cc own d mc ms) (hd : d' + 1 ≤ d) (hnl : nl ≤ 13) : (zRm d' mc' ms').frames + 1 ≤ (zR C).frames ∧ 8 + (nl + 11) + (zRm d' mc' ms').locals ≤ (zR C).locals := by
  rw [hC.2.2.2.2.2.1]
  exact ⟨hd, by show 8 + (nl + 11) + 32 * d' ≤ 32 * d; omega⟩
theorem z_preS (hC : zOK g C cc own d mc ms) {av : List Value} {H : Heap} (hP : va_P g.1 vwCl w H) (hD : va_D (fun _ => True) w) : PreS (zs C) H (zPre g av w H.size) av :=
  ⟨zPre_blind, fun U hU hW => ⟨rfl, by rw [hU], by rw [hU]; exact hP, va_K.moved hW.alike hC.2.2.2.2.1, hD, zN.warm hW hC.2.2.2.2.2.2.2⟩⟩
theorem z_preV (hC : zOK g C cc own d mc ms) {H : Heap} {R : String} {q0 ci : Nat} {fs : List Value} {r : vw_C} (hP : va_P g.1 vwCl w H) (hD : va_D (fun _ => True) w) (hr : vwCl[ci]? = some r) (hR : r.1 = R) (he : w[q0]? = some (b, .inr (ci, fs))) : PreV (zs C) H R b (zPre g (.ref b :: As) w H.size) As :=
  ⟨zPre_blind, by rw [← hR]; exact va_recv hC.2.2.2.2.1 hP hr he, fun U hU hW => ⟨rfl, by rw [hU], by rw [hU]; exact hP, va_K.moved hW.alike hC.2.2.2.2.1, hD, zN.warm hW hC.2.2.2.2.2.2.2⟩⟩
theorem z_fix (hC : zOK g C cc own d mc ms) : CallFix (zp C) (zm C) (zc C) cc (zc C).maxLocals (zs C) (za C) aw own := ⟨hC.1, hC.2.1, rfl, hC.2.2.1, hC.2.2.2.1⟩
theorem z_cw (hC : zOK g C cc own d mc ms) {rt : Option FieldType} (hy : vM y cy nl rt np) (hl : Cond.methodLink own idx y ∈ aw) (hd : d' + 1 ≤ d) : CallW (zR C) (zs C) (za C) own y.cls idx y cy nl rt (w_ y cy nl rt) (zRm d' mc' ms') mc' ms' np :=
  cwV np hC.2.2.2.1 (good_wV (fun _ h => h) hl hy) rfl rfl rfl ⟨rfl, hy.2.2.2.2.1⟩ (z_room hC hd hy.2.2.2.2.2)
/-- a virtual call with an int for an answer: the callee's world w lies within the caller's -/
theorem z_vi (hC : zOK g C cc own d mc ms) (hy : vM y cy nl (some ret) np) (hl : Cond.methodLink own idx y ∈ aw) (hdg : decode cc pc = .ok (.invokevirtual idx, 3)) {post : Int32 → S → Prop} (hM : FI g y cy nl ret d' mc' ms' (.ref b :: As) w post w') (pre suf : va_W) (hw : ws = pre ++ (w ++ suf)) (q0 ci : Nat) {fs : List Value} {r : vw_C} (he : w[q0]? = some (b, .inr (ci, fs))) (hr : vwCl[ci]? = some r) (hR : r.1 = y.cls)
    (hn : As.length = np) (hst : st = As.reverse ++ .ref b :: rest) (hd : d' + 1 ≤ d) (hcat : (rest.map fun v => v.category).sum ≤ 8) (hk : k + mc' ≤ mc ∧ n + ms' ≤ ms)
    (kk : ∀ (r : Int32) (u : S), post r u → Z g C (k + mc') (n + ms') (pre ++ (w' u ++ suf)) lv (pc + 3) (.int r :: rest)) : Z g C k n ws lv pc st := by
  subst hw hst
  intro H locs ls hP hD hS hl0
  have hPw : va_P g.1 vwCl w H := (va_P_app.mp (va_P_app.mp hP).2).1
  have hDw : va_D (fun _ => True) w := ((va_D_app.mp (va_D_app.mp hD).2.1).1).weaken (fun _ _ _ _ => trivial)
  have hF := mid_free hD hS hC.2.2.2.2.2.2.1
  refine va_calli (va_runV (As := As) (rest := rest) (z_fix hC) (hM (zl C) H.size) (z_cw hC hy hl hd) (z_preV hC hPw hDw hr hR he) rfl hn hl0.1 rfl (lv_room hcat) hdg ?_) hS (fun q _ h => hF q h) hF (fun r u t H1 locs1 ht hvm hp hB hz hk1 hS1 => ?_)
  · rw [hC.2.2.2.2.2.1]; exact hk
  · obtain ⟨hP1, hD1⟩ := hB
    rw [ht] at hP1
    obtain ⟨hP2, hD2⟩ := mid_join hP hD hk1 hF hP1 hD1
    exact kk r u hp H1 locs1 ls hP2 hD2 hS1 hl0
theorem z_vv (hC : zOK g C cc own d mc ms) (hy : vM y cy nl none np) (hl : Cond.methodLink own idx y ∈ aw) (hdg : decode cc pc = .ok (.invokevirtual idx, 3)) {post : S → Prop} (hM : FV g y cy nl d' mc' ms' (.ref b :: As) w post w') (pre suf : va_W) (hw : ws = pre ++ (w ++ suf)) (q0 ci : Nat) {fs : List Value} {r : vw_C} (he : w[q0]? = some (b, .inr (ci, fs))) (hr : vwCl[ci]? = some r) (hR : r.1 = y.cls)
    (hn : As.length = np) (hst : st = As.reverse ++ .ref b :: rest) (hd : d' + 1 ≤ d) (hcat : (rest.map fun v => v.category).sum ≤ 8) (hk : k + mc' ≤ mc ∧ n + ms' ≤ ms)
    (kk : ∀ (u : S), post u → Z g C (k + mc') (n + ms') (pre ++ (w' u ++ suf)) lv (pc + 3) rest) : Z g C k n ws lv pc st := by
  subst hw hst
  intro H locs ls hP hD hS hl0
  have hPw : va_P g.1 vwCl w H := (va_P_app.mp (va_P_app.mp hP).2).1
  have hDw : va_D (fun _ => True) w := ((va_D_app.mp (va_D_app.mp hD).2.1).1).weaken (fun _ _ _ _ => trivial)
  have hF := mid_free hD hS hC.2.2.2.2.2.2.1
  refine va_callv (va_runV (As := As) (rest := rest) (z_fix hC) (hM (zl C) H.size) (z_cw hC hy hl hd) (z_preV hC hPw hDw hr hR he) rfl hn hl0.1 rfl (lv_room hcat) hdg ?_) hS (fun q _ h => hF q h) hF (fun u t H1 locs1 ht hvm hp hB hz hk1 hS1 => ?_)
  · rw [hC.2.2.2.2.2.1]; exact hk
  · obtain ⟨hP1, hD1⟩ := hB
    rw [ht] at hP1
    obtain ⟨hP2, hD2⟩ := mid_join hP hD hk1 hF hP1 hD1
    exact kk u hp H1 locs1 ls hP2 hD2 hS1 hl0
theorem z_iv (hC : zOK g C cc own d mc ms) (hy : iM y cy nl np) (hl : Cond.methodLink own idx y ∈ aw) (hdg : decode cc pc = .ok (.invokespecial idx, 3)) {post : S → Prop} (hM : FV g y cy nl d' mc' ms' (.ref b :: As) w post w') (pre suf : va_W) (hw : ws = pre ++ (w ++ suf))
    (hn : As.length = np) (hst : st = As.reverse ++ .ref b :: rest) (hd : d' + 1 ≤ d) (hcat : (rest.map fun v => v.category).sum ≤ 8) (hk : k + mc' ≤ mc ∧ n + ms' ≤ ms)
    (kk : ∀ (u : S), post u → Z g C (k + mc') (n + ms') (pre ++ (w' u ++ suf)) lv (pc + 3) rest) : Z g C k n ws lv pc st := by
  subst hw hst
  intro H locs ls hP hD hS hl0
  have hPw : va_P g.1 vwCl w H := (va_P_app.mp (va_P_app.mp hP).2).1
  have hDw : va_D (fun _ => True) w := ((va_D_app.mp (va_D_app.mp hD).2.1).1).weaken (fun _ _ _ _ => trivial)
  have hF := mid_free hD hS hC.2.2.2.2.2.2.1
  refine va_callv (va_runI (As := As) (rest := rest) (z_fix hC) (hM (zl C) H.size) (cwI np hC.2.2.2.1 (good_w (fun _ h => h) hy.2.2.2.1) rfl rfl rfl (hC.2.2.2.1 _ hy.2.2.1) (hC.2.2.2.1 _ hl) (hC.2.2.2.1 _ hy.1) hy.2.1 hy.2.2.2.2.1 (z_room hC hd hy.2.2.2.2.2)) (z_preS hC hPw hDw) rfl hn hl0.1 rfl (lv_room hcat) hdg ?_) hS (fun q _ h => hF q h) hF (fun u t H1 locs1 ht hvm hp hB hz hk1 hS1 => ?_)
  · rw [hC.2.2.2.2.2.1]; exact hk
  · obtain ⟨hP1, hD1⟩ := hB
    rw [ht] at hP1
    obtain ⟨hP2, hD2⟩ := mid_join hP hD hk1 hF hP1 hD1
    exact kk u hp H1 locs1 ls hP2 hD2 hS1 hl0
/-- .. a private constructor of a nest mate -/
theorem z_ivN (hC : zOK g C cc own d mc ms) (hy : iM y cy nl np) {host : String} (hl : Cond.methodLinkNest own idx y host ∈ aN) (hdg : decode cc pc = .ok (.invokespecial idx, 3)) {post : S → Prop} (hM : FV g y cy nl d' mc' ms' (.ref b :: As) w post w') (pre suf : va_W) (hw : ws = pre ++ (w ++ suf))
    (hn : As.length = np) (hst : st = As.reverse ++ .ref b :: rest) (hd : d' + 1 ≤ d) (hcat : (rest.map fun v => v.category).sum ≤ 8) (hk : k + mc' ≤ mc ∧ n + ms' ≤ ms)
    (kk : ∀ (u : S), post u → Z g C (k + mc') (n + ms') (pre ++ (w' u ++ suf)) lv (pc + 3) rest) : Z g C k n ws lv pc st := by
  subst hw hst
  intro H locs ls hP hD hS hl0
  have hPw : va_P g.1 vwCl w H := (va_P_app.mp (va_P_app.mp hP).2).1
  have hDw : va_D (fun _ => True) w := ((va_D_app.mp (va_D_app.mp hD).2.1).1).weaken (fun _ _ _ _ => trivial)
  have hF := mid_free hD hS hC.2.2.2.2.2.2.1
  refine va_callv (va_runIN (As := As) (rest := rest) (z_fix hC) (hM (zl C) H.size) ⟨va_cnB np hC.2.2.2.1 (good_w (fun _ h => h) hy.2.2.2.1) rfl rfl rfl (hC.2.2.2.2.2.2.2 _ hl) (hC.2.2.2.1 _ hy.2.2.1) hy.2.2.2.2.1 (z_room hC hd hy.2.2.2.2.2), hy.2.1, hC.2.2.2.1 _ hy.1⟩ (z_preS hC hPw hDw) rfl hn hl0.1 rfl (lv_room hcat) hdg ?_) hS (fun q _ h => hF q h) hF (fun u t H1 locs1 ht hvm hp hB hz hk1 hS1 => ?_)
  · rw [hC.2.2.2.2.2.1]; exact hk
  · obtain ⟨hP1, hD1⟩ := hB
    rw [ht] at hP1
    obtain ⟨hP2, hD2⟩ := mid_join hP hD hk1 hF hP1 hD1
    exact kk u hp H1 locs1 ls hP2 hD2 hS1 hl0
/-- a static call -/
theorem z_si (hC : zOK g C cc own d mc ms) (hy : sM y cy nl (some ret) np) (hl : Cond.methodLink own idx y ∈ aw) (hdg : decode cc pc = .ok (.invokestatic idx, 3)) {post : Int32 → S → Prop} (hM : FI g y cy nl ret d' mc' ms' As w post w') (pre suf : va_W) (hw : ws = pre ++ (w ++ suf))
    (hn : As.length = np) (hst : st = As.reverse ++ rest) (hd : d' + 1 ≤ d) (hcat : (rest.map fun v => v.category).sum ≤ 8) (hk : k + mc' ≤ mc ∧ n + ms' ≤ ms)
    (kk : ∀ (r : Int32) (u : S), post r u → Z g C (k + mc') (n + ms') (pre ++ (w' u ++ suf)) lv (pc + 3) (.int r :: rest)) : Z g C k n ws lv pc st := by
  subst hw hst
  intro H locs ls hP hD hS hl0
  have hPw : va_P g.1 vwCl w H := (va_P_app.mp (va_P_app.mp hP).2).1
  have hDw : va_D (fun _ => True) w := ((va_D_app.mp (va_D_app.mp hD).2.1).1).weaken (fun _ _ _ _ => trivial)
  have hF := mid_free hD hS hC.2.2.2.2.2.2.1
  refine va_calli (va_runS (As := As) (rest := rest) (z_fix hC) (hM (zl C) H.size) ⟨callB_of np hC.2.2.2.1 (good_w (fun _ h => h) hy.2.2.1) rfl rfl rfl (hC.2.2.2.1 _ hy.2.1) (hC.2.2.2.1 _ hl) hy.2.2.2.1 (z_room hC hd hy.2.2.2.2), hC.2.2.2.1 _ hy.1⟩ (z_preS hC hPw hDw) rfl hn hl0.1 rfl (lv_room hcat) hdg ?_) hS (fun q _ h => hF q h) hF (fun r u t H1 locs1 ht hvm hp hB hz hk1 hS1 => ?_)
  · rw [hC.2.2.2.2.2.1]; exact hk
  · obtain ⟨hP1, hD1⟩ := hB
    rw [ht] at hP1
    obtain ⟨hP2, hD2⟩ := mid_join hP hD hk1 hF hP1 hD1
    exact kk r u hp H1 locs1 ls hP2 hD2 hS1 hl0
/-- .. of a private static method of a nest mate -/
theorem z_siN (hC : zOK g C cc own d mc ms) (hy : sM y cy nl (some ret) np) {host : String} (hl : Cond.methodLinkNest own idx y host ∈ aN) (hdg : decode cc pc = .ok (.invokestatic idx, 3)) {post : Int32 → S → Prop} (hM : FI g y cy nl ret d' mc' ms' As w post w') (pre suf : va_W) (hw : ws = pre ++ (w ++ suf))
    (hn : As.length = np) (hst : st = As.reverse ++ rest) (hd : d' + 1 ≤ d) (hcat : (rest.map fun v => v.category).sum ≤ 8) (hk : k + mc' ≤ mc ∧ n + ms' ≤ ms)
    (kk : ∀ (r : Int32) (u : S), post r u → Z g C (k + mc') (n + ms') (pre ++ (w' u ++ suf)) lv (pc + 3) (.int r :: rest)) : Z g C k n ws lv pc st := by
  subst hw hst
  intro H locs ls hP hD hS hl0
  have hPw : va_P g.1 vwCl w H := (va_P_app.mp (va_P_app.mp hP).2).1
  have hDw : va_D (fun _ => True) w := ((va_D_app.mp (va_D_app.mp hD).2.1).1).weaken (fun _ _ _ _ => trivial)
  have hF := mid_free hD hS hC.2.2.2.2.2.2.1
  refine va_calli (va_runSN (As := As) (rest := rest) (z_fix hC) (hM (zl C) H.size) ⟨va_cnB np hC.2.2.2.1 (good_w (fun _ h => h) hy.2.2.1) rfl rfl rfl (hC.2.2.2.2.2.2.2 _ hl) (hC.2.2.2.1 _ hy.2.1) hy.2.2.2.1 (z_room hC hd hy.2.2.2.2), hC.2.2.2.1 _ hy.1, trivial⟩ (z_preS hC hPw hDw) rfl hn hl0.1 rfl (lv_room hcat) hdg ?_) hS (fun q _ h => hF q h) hF (fun r u t H1 locs1 ht hvm hp hB hz hk1 hS1 => ?_)
  · rw [hC.2.2.2.2.2.1]; exact hk
  · obtain ⟨hP1, hD1⟩ := hB
    rw [ht] at hP1
    obtain ⟨hP2, hD2⟩ := mid_join hP hD hk1 hF hP1 hD1
    exact kk r u hp H1 locs1 ls hP2 hD2 hS1 hl0
end ZCALLS
end
section
theorem uX0 : ∀ w ∈ wsX00, w ∈ aw := by decide +kernel
theorem uX1 : ∀ w ∈ wsX10, w ∈ aw := by decide +kernel
theorem uX2 : ∀ w ∈ wsX20, w ∈ aw := by decide +kernel
theorem uX3 : ∀ w ∈ wsX30, w ∈ aw := by decide +kernel
theorem uX4 : ∀ w ∈ wsX40, w ∈ aw := by decide +kernel
theorem uX5 : ∀ w ∈ wsX50, w ∈ aw := by decide +kernel
theorem uX6 : ∀ w ∈ wsX60, w ∈ aw := by decide +kernel
theorem fX3_9 : fl RX3 9 3 0 := ⟨(RX3, TX3, 6), rfl, by decide, uX3, in_aw 73 (by decide +kernel) (by decide +kernel)⟩
theorem fX4_159 : fl RX4 159 3 0 := ⟨(RX3, TX3, 6), rfl, by decide, uX3, in_aw 74 (by decide +kernel) (by decide +kernel)⟩
theorem fX5_193 : fl RX5 193 3 0 := ⟨(RX3, TX3, 6), rfl, by decide, uX3, in_aw 75 (by decide +kernel) (by decide +kernel)⟩
theorem fX3_15 : fl RX3 15 3 1 := ⟨(RX3, TX3, 6), rfl, by decide, uX3, in_aw 76 (by decide +kernel) (by decide +kernel)⟩
theorem fX5_100 : fl RX5 100 3 1 := ⟨(RX3, TX3, 6), rfl, by decide, uX3, in_aw 77 (by decide +kernel) (by decide +kernel)⟩
theorem fX4_168 : fl RX4 168 3 1 := ⟨(RX3, TX3, 6), rfl, by decide, uX3, in_aw 78 (by decide +kernel) (by decide +kernel)⟩
theorem fX3_18 : fl RX3 18 3 2 := ⟨(RX3, TX3, 6), rfl, by decide, uX3, in_aw 79 (by decide +kernel) (by decide +kernel)⟩
theorem fX5_110 : fl RX5 110 3 2 := ⟨(RX3, TX3, 6), rfl, by decide, uX3, in_aw 80 (by decide +kernel) (by decide +kernel)⟩
theorem fX4_144 : fl RX4 144 3 2 := ⟨(RX3, TX3, 6), rfl, by decide, uX3, in_aw 81 (by decide +kernel) (by decide +kernel)⟩
theorem fX3_22 : fl RX3 22 3 3 := ⟨(RX3, TX3, 6), rfl, by decide, uX3, in_aw 82 (by decide +kernel) (by decide +kernel)⟩
theorem fX4_171 : fl RX4 171 3 3 := ⟨(RX3, TX3, 6), rfl, by decide, uX3, in_aw 83 (by decide +kernel) (by decide +kernel)⟩
theorem fX5_196 : fl RX5 196 3 3 := ⟨(RX3, TX3, 6), rfl, by decide, uX3, in_aw 84 (by decide +kernel) (by decide +kernel)⟩
theorem fX3_25 : fl RX3 25 3 4 := ⟨(RX3, TX3, 6), rfl, by decide, uX3, in_aw 85 (by decide +kernel) (by decide +kernel)⟩
theorem fX4_120 : fl RX4 120 3 4 := ⟨(RX3, TX3, 6), rfl, by decide, uX3, in_aw 86 (by decide +kernel) (by decide +kernel)⟩
theorem fX5_199 : fl RX5 199 3 4 := ⟨(RX3, TX3, 6), rfl, by decide, uX3, in_aw 87 (by decide +kernel) (by decide +kernel)⟩
theorem fX3_28 : fl RX3 28 3 5 := ⟨(RX3, TX3, 6), rfl, by decide, uX3, in_aw 88 (by decide +kernel) (by decide +kernel)⟩
theorem fX4_82 : fl RX4 82 3 5 := ⟨(RX3, TX3, 6), rfl, by decide, uX3, in_aw 89 (by decide +kernel) (by decide +kernel)⟩
theorem fX5_105 : fl RX5 105 3 5 := ⟨(RX3, TX3, 6), rfl, by decide, uX3, in_aw 90 (by decide +kernel) (by decide +kernel)⟩
theorem fX2_9 : fl RX2 9 2 0 := ⟨(RX2, TX2, 9), rfl, by decide, uX2, in_aw 112 (by decide +kernel) (by decide +kernel)⟩
theorem fX4_117 : fl RX4 117 2 0 := ⟨(RX2, TX2, 9), rfl, by decide, uX2, in_aw 113 (by decide +kernel) (by decide +kernel)⟩
theorem fX5_213 : fl RX5 213 2 0 := ⟨(RX2, TX2, 9), rfl, by decide, uX2, in_aw 114 (by decide +kernel) (by decide +kernel)⟩
theorem fX2_15 : fl RX2 15 2 1 := ⟨(RX2, TX2, 9), rfl, by decide, uX2, in_aw 115 (by decide +kernel) (by decide +kernel)⟩
theorem fX4_162 : fl RX4 162 2 1 := ⟨(RX2, TX2, 9), rfl, by decide, uX2, in_aw 116 (by decide +kernel) (by decide +kernel)⟩
theorem fX5_216 : fl RX5 216 2 1 := ⟨(RX2, TX2, 9), rfl, by decide, uX2, in_aw 117 (by decide +kernel) (by decide +kernel)⟩
theorem fX2_18 : fl RX2 18 2 2 := ⟨(RX2, TX2, 9), rfl, by decide, uX2, in_aw 118 (by decide +kernel) (by decide +kernel)⟩
theorem fX4_102 : fl RX4 102 2 2 := ⟨(RX2, TX2, 9), rfl, by decide, uX2, in_aw 119 (by decide +kernel) (by decide +kernel)⟩
theorem fX5_219 : fl RX5 219 2 2 := ⟨(RX2, TX2, 9), rfl, by decide, uX2, in_aw 120 (by decide +kernel) (by decide +kernel)⟩
theorem fX2_21 : fl RX2 21 2 3 := ⟨(RX2, TX2, 9), rfl, by decide, uX2, in_aw 121 (by decide +kernel) (by decide +kernel)⟩
theorem fX4_128 : fl RX4 128 2 3 := ⟨(RX2, TX2, 9), rfl, by decide, uX2, in_aw 122 (by decide +kernel) (by decide +kernel)⟩
theorem fX5_221 : fl RX5 221 2 3 := ⟨(RX2, TX2, 9), rfl, by decide, uX2, in_aw 123 (by decide +kernel) (by decide +kernel)⟩
theorem fX2_24 : fl RX2 24 2 4 := ⟨(RX2, TX2, 9), rfl, by decide, uX2, in_aw 124 (by decide +kernel) (by decide +kernel)⟩
theorem fX5_76 : fl RX5 76 2 4 := ⟨(RX2, TX2, 9), rfl, by decide, uX2, in_aw 125 (by decide +kernel) (by decide +kernel)⟩
theorem fX4_85 : fl RX4 85 2 4 := ⟨(RX2, TX2, 9), rfl, by decide, uX2, in_aw 126 (by decide +kernel) (by decide +kernel)⟩
theorem fX2_27 : fl RX2 27 2 5 := ⟨(RX2, TX2, 9), rfl, by decide, uX2, in_aw 127 (by decide +kernel) (by decide +kernel)⟩
theorem fX5_86 : fl RX5 86 2 5 := ⟨(RX2, TX2, 9), rfl, by decide, uX2, in_aw 128 (by decide +kernel) (by decide +kernel)⟩
theorem fX4_99 : fl RX4 99 2 5 := ⟨(RX2, TX2, 9), rfl, by decide, uX2, in_aw 129 (by decide +kernel) (by decide +kernel)⟩
theorem fX2_30 : fl RX2 30 2 6 := ⟨(RX2, TX2, 9), rfl, by decide, uX2, in_aw 130 (by decide +kernel) (by decide +kernel)⟩
theorem fX4_75 : fl RX4 75 2 6 := ⟨(RX2, TX2, 9), rfl, by decide, uX2, in_aw 131 (by decide +kernel) (by decide +kernel)⟩
theorem fX5_224 : fl RX5 224 2 6 := ⟨(RX2, TX2, 9), rfl, by decide, uX2, in_aw 132 (by decide +kernel) (by decide +kernel)⟩
theorem fX2_33 : fl RX2 33 2 7 := ⟨(RX2, TX2, 9), rfl, by decide, uX2, in_aw 133 (by decide +kernel) (by decide +kernel)⟩
theorem fX4_174 : fl RX4 174 2 7 := ⟨(RX2, TX2, 9), rfl, by decide, uX2, in_aw 134 (by decide +kernel) (by decide +kernel)⟩
theorem fX5_227 : fl RX5 227 2 7 := ⟨(RX2, TX2, 9), rfl, by decide, uX2, in_aw 135 (by decide +kernel) (by decide +kernel)⟩
theorem fX2_36 : fl RX2 36 2 8 := ⟨(RX2, TX2, 9), rfl, by decide, uX2, in_aw 136 (by decide +kernel) (by decide +kernel)⟩
theorem fX4_92 : fl RX4 92 2 8 := ⟨(RX2, TX2, 9), rfl, by decide, uX2, in_aw 137 (by decide +kernel) (by decide +kernel)⟩
theorem fX5_210 : fl RX5 210 2 8 := ⟨(RX2, TX2, 9), rfl, by decide, uX2, in_aw 138 (by decide +kernel) (by decide +kernel)⟩
theorem fX4_12 : fl RX4 12 4 0 := ⟨(RX4, TX4, 12), rfl, by decide, uX4, in_aw 158 (by decide +kernel) (by decide +kernel)⟩
theorem fX5_96 : fl RX5 96 4 0 := ⟨(RX4, TX4, 12), rfl, by decide, uX4, in_aw 159 (by decide +kernel) (by decide +kernel)⟩
theorem fX4_21 : fl RX4 21 4 1 := ⟨(RX4, TX4, 12), rfl, by decide, uX4, in_aw 160 (by decide +kernel) (by decide +kernel)⟩
theorem fX5_57 : fl RX5 57 4 1 := ⟨(RX4, TX4, 12), rfl, by decide, uX4, in_aw 161 (by decide +kernel) (by decide +kernel)⟩
theorem fX4_25 : fl RX4 25 4 2 := ⟨(RX4, TX4, 12), rfl, by decide, uX4, in_aw 162 (by decide +kernel) (by decide +kernel)⟩
theorem fX5_126 : fl RX5 126 4 2 := ⟨(RX4, TX4, 12), rfl, by decide, uX4, in_aw 163 (by decide +kernel) (by decide +kernel)⟩
theorem fX4_29 : fl RX4 29 4 3 := ⟨(RX4, TX4, 12), rfl, by decide, uX4, in_aw 164 (by decide +kernel) (by decide +kernel)⟩
theorem fX5_134 : fl RX5 134 4 3 := ⟨(RX4, TX4, 12), rfl, by decide, uX4, in_aw 165 (by decide +kernel) (by decide +kernel)⟩
theorem fX4_32 : fl RX4 32 4 4 := ⟨(RX4, TX4, 12), rfl, by decide, uX4, in_aw 166 (by decide +kernel) (by decide +kernel)⟩
theorem fX5_137 : fl RX5 137 4 4 := ⟨(RX4, TX4, 12), rfl, by decide, uX4, in_aw 167 (by decide +kernel) (by decide +kernel)⟩
theorem fX4_35 : fl RX4 35 4 5 := ⟨(RX4, TX4, 12), rfl, by decide, uX4, in_aw 168 (by decide +kernel) (by decide +kernel)⟩
theorem fX5_260 : fl RX5 260 4 5 := ⟨(RX4, TX4, 12), rfl, by decide, uX4, in_aw 169 (by decide +kernel) (by decide +kernel)⟩
theorem fX4_38 : fl RX4 38 4 6 := ⟨(RX4, TX4, 12), rfl, by decide, uX4, in_aw 170 (by decide +kernel) (by decide +kernel)⟩
theorem fX5_244 : fl RX5 244 4 6 := ⟨(RX4, TX4, 12), rfl, by decide, uX4, in_aw 171 (by decide +kernel) (by decide +kernel)⟩
theorem fX4_41 : fl RX4 41 4 7 := ⟨(RX4, TX4, 12), rfl, by decide, uX4, in_aw 172 (by decide +kernel) (by decide +kernel)⟩
theorem fX5_261 : fl RX5 261 4 7 := ⟨(RX4, TX4, 12), rfl, by decide, uX4, in_aw 173 (by decide +kernel) (by decide +kernel)⟩
theorem fX4_44 : fl RX4 44 4 8 := ⟨(RX4, TX4, 12), rfl, by decide, uX4, in_aw 174 (by decide +kernel) (by decide +kernel)⟩
theorem fX5_264 : fl RX5 264 4 8 := ⟨(RX4, TX4, 12), rfl, by decide, uX4, in_aw 175 (by decide +kernel) (by decide +kernel)⟩
theorem fX4_47 : fl RX4 47 4 9 := ⟨(RX4, TX4, 12), rfl, by decide, uX4, in_aw 176 (by decide +kernel) (by decide +kernel)⟩
theorem fX5_266 : fl RX5 266 4 9 := ⟨(RX4, TX4, 12), rfl, by decide, uX4, in_aw 177 (by decide +kernel) (by decide +kernel)⟩
theorem fX4_50 : fl RX4 50 4 10 := ⟨(RX4, TX4, 12), rfl, by decide, uX4, in_aw 178 (by decide +kernel) (by decide +kernel)⟩
theorem fX5_269 : fl RX5 269 4 10 := ⟨(RX4, TX4, 12), rfl, by decide, uX4, in_aw 179 (by decide +kernel) (by decide +kernel)⟩
theorem fX4_53 : fl RX4 53 4 11 := ⟨(RX4, TX4, 12), rfl, by decide, uX4, in_aw 180 (by decide +kernel) (by decide +kernel)⟩
theorem fX5_272 : fl RX5 272 4 11 := ⟨(RX4, TX4, 12), rfl, by decide, uX4, in_aw 181 (by decide +kernel) (by decide +kernel)⟩
theorem fX1_11 : fl RX1 11 1 0 := ⟨(RX1, TX1, 3), rfl, by decide, uX1, in_aw 216 (by decide +kernel) (by decide +kernel)⟩
theorem fX1_17 : fl RX1 17 1 1 := ⟨(RX1, TX1, 3), rfl, by decide, uX1, in_aw 217 (by decide +kernel) (by decide +kernel)⟩
theorem fX5_185 : fl RX5 185 1 1 := ⟨(RX1, TX1, 3), rfl, by decide, uX1, in_aw 218 (by decide +kernel) (by decide +kernel)⟩
theorem fX1_21 : fl RX1 21 1 2 := ⟨(RX1, TX1, 3), rfl, by decide, uX1, in_aw 219 (by decide +kernel) (by decide +kernel)⟩
theorem fX0_9 : fl RX0 9 0 0 := ⟨(RX0, TX0, 8), rfl, by decide, uX0, in_aw 233 (by decide +kernel) (by decide +kernel)⟩
theorem fX0_15 : fl RX0 15 0 1 := ⟨(RX0, TX0, 8), rfl, by decide, uX0, in_aw 234 (by decide +kernel) (by decide +kernel)⟩
theorem fX5_142 : fl RX5 142 0 1 := ⟨(RX0, TX0, 8), rfl, by decide, uX0, in_aw 235 (by decide +kernel) (by decide +kernel)⟩
theorem fX0_19 : fl RX0 19 0 2 := ⟨(RX0, TX0, 8), rfl, by decide, uX0, in_aw 236 (by decide +kernel) (by decide +kernel)⟩
theorem fX0_22 : fl RX0 22 0 3 := ⟨(RX0, TX0, 8), rfl, by decide, uX0, in_aw 237 (by decide +kernel) (by decide +kernel)⟩
theorem fX5_170 : fl RX5 170 0 3 := ⟨(RX0, TX0, 8), rfl, by decide, uX0, in_aw 238 (by decide +kernel) (by decide +kernel)⟩
theorem fX0_25 : fl RX0 25 0 4 := ⟨(RX0, TX0, 8), rfl, by decide, uX0, in_aw 239 (by decide +kernel) (by decide +kernel)⟩
theorem fX5_176 : fl RX5 176 0 4 := ⟨(RX0, TX0, 8), rfl, by decide, uX0, in_aw 240 (by decide +kernel) (by decide +kernel)⟩
theorem fX0_28 : fl RX0 28 0 5 := ⟨(RX0, TX0, 8), rfl, by decide, uX0, in_aw 241 (by decide +kernel) (by decide +kernel)⟩
theorem fX5_179 : fl RX5 179 0 5 := ⟨(RX0, TX0, 8), rfl, by decide, uX0, in_aw 242 (by decide +kernel) (by decide +kernel)⟩
theorem fX0_31 : fl RX0 31 0 6 := ⟨(RX0, TX0, 8), rfl, by decide, uX0, in_aw 243 (by decide +kernel) (by decide +kernel)⟩
theorem fX5_173 : fl RX5 173 0 6 := ⟨(RX0, TX0, 8), rfl, by decide, uX0, in_aw 244 (by decide +kernel) (by decide +kernel)⟩
theorem fX0_34 : fl RX0 34 0 7 := ⟨(RX0, TX0, 8), rfl, by decide, uX0, in_aw 245 (by decide +kernel) (by decide +kernel)⟩
theorem fX5_182 : fl RX5 182 0 7 := ⟨(RX0, TX0, 8), rfl, by decide, uX0, in_aw 246 (by decide +kernel) (by decide +kernel)⟩
theorem fX5_10 : fl RX5 10 5 0 := ⟨(RX5, TX5, 4), rfl, by decide, uX5, in_aw 264 (by decide +kernel) (by decide +kernel)⟩
theorem fX5_16 : fl RX5 16 5 1 := ⟨(RX5, TX5, 4), rfl, by decide, uX5, in_aw 265 (by decide +kernel) (by decide +kernel)⟩
theorem fX5_22 : fl RX5 22 5 2 := ⟨(RX5, TX5, 4), rfl, by decide, uX5, in_aw 266 (by decide +kernel) (by decide +kernel)⟩
theorem fX5_29 : fl RX5 29 5 3 := ⟨(RX5, TX5, 4), rfl, by decide, uX5, in_aw 267 (by decide +kernel) (by decide +kernel)⟩
theorem fX6_7 : fl RX6 7 6 0 := ⟨(RX6, TX6, 14), rfl, by decide, uX6, in_aw 761 (by decide +kernel) (by decide +kernel)⟩
theorem fX6_13 : fl RX6 13 6 1 := ⟨(RX6, TX6, 14), rfl, by decide, uX6, in_aw 762 (by decide +kernel) (by decide +kernel)⟩
theorem fX6_50 : fl RX6 50 6 2 := ⟨(RX6, TX6, 14), rfl, by decide, uX6, in_aw 763 (by decide +kernel) (by decide +kernel)⟩
theorem fX6_16 : fl RX6 16 6 3 := ⟨(RX6, TX6, 14), rfl, by decide, uX6, in_aw 764 (by decide +kernel) (by decide +kernel)⟩
theorem fX6_38 : fl RX6 38 6 4 := ⟨(RX6, TX6, 14), rfl, by decide, uX6, in_aw 765 (by decide +kernel) (by decide +kernel)⟩
theorem fX6_19 : fl RX6 19 6 5 := ⟨(RX6, TX6, 14), rfl, by decide, uX6, in_aw 766 (by decide +kernel) (by decide +kernel)⟩
theorem fX6_136 : fl RX6 136 6 6 := ⟨(RX6, TX6, 14), rfl, by decide, uX6, in_aw 767 (by decide +kernel) (by decide +kernel)⟩
theorem fX6_139 : fl RX6 139 6 7 := ⟨(RX6, TX6, 14), rfl, by decide, uX6, in_aw 768 (by decide +kernel) (by decide +kernel)⟩
theorem fX6_145 : fl RX6 145 6 8 := ⟨(RX6, TX6, 14), rfl, by decide, uX6, in_aw 769 (by decide +kernel) (by decide +kernel)⟩
theorem fX6_151 : fl RX6 151 6 9 := ⟨(RX6, TX6, 14), rfl, by decide, uX6, in_aw 770 (by decide +kernel) (by decide +kernel)⟩
theorem fX6_22 : fl RX6 22 6 10 := ⟨(RX6, TX6, 14), rfl, by decide, uX6, in_aw 771 (by decide +kernel) (by decide +kernel)⟩
theorem fX6_25 : fl RX6 25 6 11 := ⟨(RX6, TX6, 14), rfl, by decide, uX6, in_aw 772 (by decide +kernel) (by decide +kernel)⟩
theorem fX6_28 : fl RX6 28 6 12 := ⟨(RX6, TX6, 14), rfl, by decide, uX6, in_aw 773 (by decide +kernel) (by decide +kernel)⟩
theorem fX6_31 : fl RX6 31 6 13 := ⟨(RX6, TX6, 14), rfl, by decide, uX6, in_aw 774 (by decide +kernel) (by decide +kernel)⟩
theorem p0_1 : fp 0 1 .int := ⟨(RX0, TX0, 8), tyX0, rfl, tyX0_ok, nmX0, rfl, by decide +kernel⟩
theorem p0_2 : fp 0 2 .int := ⟨(RX0, TX0, 8), tyX0, rfl, tyX0_ok, nmX0, rfl, by decide +kernel⟩
theorem p0_3 : fp 0 3 .int := ⟨(RX0, TX0, 8), tyX0, rfl, tyX0_ok, nmX0, rfl, by decide +kernel⟩
theorem p0_4 : fp 0 4 .int := ⟨(RX0, TX0, 8), tyX0, rfl, tyX0_ok, nmX0, rfl, by decide +kernel⟩
theorem p0_5 : fp 0 5 .int := ⟨(RX0, TX0, 8), tyX0, rfl, tyX0_ok, nmX0, rfl, by decide +kernel⟩
theorem p0_6 : fp 0 6 .int := ⟨(RX0, TX0, 8), tyX0, rfl, tyX0_ok, nmX0, rfl, by decide +kernel⟩
theorem p0_7 : fp 0 7 .int := ⟨(RX0, TX0, 8), tyX0, rfl, tyX0_ok, nmX0, rfl, by decide +kernel⟩
theorem p1_1 : fp 1 1 .int := ⟨(RX1, TX1, 3), tyX1, rfl, tyX1_ok, nmX1, rfl, by decide +kernel⟩
theorem p1_2 : fp 1 2 .int := ⟨(RX1, TX1, 3), tyX1, rfl, tyX1_ok, nmX1, rfl, by decide +kernel⟩
theorem p2_8 : fp 2 8 .int := ⟨(RX2, TX2, 9), tyX2, rfl, tyX2_ok, nmX2, rfl, by decide +kernel⟩
theorem p4_2 : fp 4 2 .int := ⟨(RX4, TX4, 12), tyX4, rfl, tyX4_ok, nmX4, rfl, by decide +kernel⟩
theorem p4_3 : fp 4 3 .int := ⟨(RX4, TX4, 12), tyX4, rfl, tyX4_ok, nmX4, rfl, by decide +kernel⟩
theorem p4_4 : fp 4 4 .int := ⟨(RX4, TX4, 12), tyX4, rfl, tyX4_ok, nmX4, rfl, by decide +kernel⟩
theorem p4_5 : fp 4 5 .int := ⟨(RX4, TX4, 12), tyX4, rfl, tyX4_ok, nmX4, rfl, by decide +kernel⟩
theorem p4_6 : fp 4 6 .int := ⟨(RX4, TX4, 12), tyX4, rfl, tyX4_ok, nmX4, rfl, by decide +kernel⟩
theorem p4_7 : fp 4 7 .int := ⟨(RX4, TX4, 12), tyX4, rfl, tyX4_ok, nmX4, rfl, by decide +kernel⟩
theorem p4_8 : fp 4 8 .int := ⟨(RX4, TX4, 12), tyX4, rfl, tyX4_ok, nmX4, rfl, by decide +kernel⟩
theorem p4_9 : fp 4 9 .int := ⟨(RX4, TX4, 12), tyX4, rfl, tyX4_ok, nmX4, rfl, by decide +kernel⟩
theorem p4_10 : fp 4 10 .int := ⟨(RX4, TX4, 12), tyX4, rfl, tyX4_ok, nmX4, rfl, by decide +kernel⟩
theorem p4_11 : fp 4 11 .int := ⟨(RX4, TX4, 12), tyX4, rfl, tyX4_ok, nmX4, rfl, by decide +kernel⟩
theorem p6_2 : fp 6 2 .int := ⟨(RX6, TX6, 14), tyX6, rfl, tyX6_ok, nmX6, rfl, by decide +kernel⟩
theorem p6_4 : fp 6 4 .int := ⟨(RX6, TX6, 14), tyX6, rfl, tyX6_ok, nmX6, rfl, by decide +kernel⟩
theorem p6_6 : fp 6 6 .int := ⟨(RX6, TX6, 14), tyX6, rfl, tyX6_ok, nmX6, rfl, by decide +kernel⟩
theorem p6_7 : fp 6 7 .int := ⟨(RX6, TX6, 14), tyX6, rfl, tyX6_ok, nmX6, rfl, by decide +kernel⟩
theorem p6_8 : fp 6 8 .int := ⟨(RX6, TX6, 14), tyX6, rfl, tyX6_ok, nmX6, rfl, by decide +kernel⟩
theorem p6_9 : fp 6 9 .int := ⟨(RX6, TX6, 14), tyX6, rfl, tyX6_ok, nmX6, rfl, by decide +kernel⟩
theorem lL_72 : Cond.methodLink RL 72 yX5_init ∈ aw := in_aw 55 (by decide +kernel) (by decide +kernel)
theorem nX5_9 : Cond.methodLinkNest RX5 9 yX4_init "ReelConsole" ∈ aN := by simp [aN]
theorem lX4_11 : Cond.methodLink RX4 11 yX3_init ∈ aw := in_aw 69 (by decide +kernel) (by decide +kernel)
theorem nX4_20 : Cond.methodLinkNest RX4 20 yX2_init "ReelConsole" ∈ aN := by simp [aN]
theorem lX5_21 : Cond.methodLink RX5 21 yX1_init ∈ aw := in_aw 209 (by decide +kernel) (by decide +kernel)
theorem nX1_24 : Cond.methodLinkNest RX1 24 yX4_init "ReelConsole" ∈ aN := by simp [aN]
theorem nX5_28 : Cond.methodLinkNest RX5 28 yX0_init "ReelConsole" ∈ aN := by simp [aN]
theorem lL_110 : Cond.methodLink RL 110 yX5_clearText ∈ aw := in_aw 277 (by decide +kernel) (by decide +kernel)
theorem lL_114 : Cond.methodLink RL 114 yX5_errorPosition ∈ aw := in_aw 281 (by decide +kernel) (by decide +kernel)
theorem lX5_151 : Cond.methodLink RX5 151 yX0_findError ∈ aw := in_aw 285 (by decide +kernel) (by decide +kernel)
theorem lX0_37 : Cond.methodLink RX0 37 yX0_rewind ∈ aw := in_aw 289 (by decide +kernel) (by decide +kernel)
theorem lX0_40 : Cond.methodLink RX0 40 yX0_readCommand ∈ aw := in_aw 293 (by decide +kernel) (by decide +kernel)
theorem lX0_48 : Cond.methodLink RX0 48 yX0_characterHere ∈ aw := in_aw 297 (by decide +kernel) (by decide +kernel)
theorem nX0_66 : Cond.methodLinkNest RX0 66 yX5_isWithin "ReelConsole" ∈ aN := by simp [aN]
theorem lX0_52 : Cond.methodLink RX0 52 yX0_readSubmission ∈ aw := in_aw 304 (by decide +kernel) (by decide +kernel)
theorem lX0_56 : Cond.methodLink RX0 56 yX0_readNumber ∈ aw := in_aw 308 (by decide +kernel) (by decide +kernel)
theorem lX0_63 : Cond.methodLink RX0 63 yX0_digitHere ∈ aw := in_aw 312 (by decide +kernel) (by decide +kernel)
theorem lX0_44 : Cond.methodLink RX0 44 yX0_skip ∈ aw := in_aw 316 (by decide +kernel) (by decide +kernel)
theorem lX0_60 : Cond.methodLink RX0 60 yX0_readPriority ∈ aw := in_aw 320 (by decide +kernel) (by decide +kernel)
theorem lL_130 : Cond.methodLink RL 130 yX5_scratchReels ∈ aw := in_aw 324 (by decide +kernel) (by decide +kernel)
theorem lX5_200 : Cond.methodLink RX5 200 yX3_isScratch ∈ aw := in_aw 328 (by decide +kernel) (by decide +kernel)
theorem lL_134 : Cond.methodLink RL 134 yX5_jobs ∈ aw := in_aw 332 (by decide +kernel) (by decide +kernel)
theorem lL_147 : Cond.methodLink RL 147 yX5_nextJob ∈ aw := in_aw 336 (by decide +kernel) (by decide +kernel)
theorem lX5_241 : Cond.methodLink RX5 241 yX4_findNextJob ∈ aw := in_aw 340 (by decide +kernel) (by decide +kernel)
theorem lX4_131 : Cond.methodLink RX4 131 yX4_lacksReel ∈ aw := in_aw 344 (by decide +kernel) (by decide +kernel)
theorem lX4_121 : Cond.methodLink RX4 121 yX2_wantedSticker ∈ aw := in_aw 348 (by decide +kernel) (by decide +kernel)
theorem lX4_125 : Cond.methodLink RX4 125 yX3_findOnShelf ∈ aw := in_aw 352 (by decide +kernel) (by decide +kernel)
theorem lL_151 : Cond.methodLink RL 151 yX5_nextReel ∈ aw := in_aw 356 (by decide +kernel) (by decide +kernel)
theorem lX5_247 : Cond.methodLink RX5 247 yX4_isSlip ∈ aw := in_aw 360 (by decide +kernel) (by decide +kernel)
theorem lX5_250 : Cond.methodLink RX5 250 yX4_chooseReel ∈ aw := in_aw 364 (by decide +kernel) (by decide +kernel)
theorem lX4_134 : Cond.methodLink RX4 134 yX3_findNextOnShelf ∈ aw := in_aw 368 (by decide +kernel) (by decide +kernel)
theorem lL_161 : Cond.methodLink RL 161 yX5_success ∈ aw := in_aw 372 (by decide +kernel) (by decide +kernel)
theorem lL_166 : Cond.methodLink RL 166 yX5_savedStates ∈ aw := in_aw 376 (by decide +kernel) (by decide +kernel)
theorem lL_170 : Cond.methodLink RL 170 yX5_textLength ∈ aw := in_aw 380 (by decide +kernel) (by decide +kernel)
theorem lL_76 : Cond.methodLink RL 76 yL_submit ∈ aw := in_aw 384 (by decide +kernel) (by decide +kernel)
theorem lL_7 : Cond.methodLink RL 7 yX5_submit ∈ aw := in_aw 389 (by decide +kernel) (by decide +kernel)
theorem lX5_33 : Cond.methodLink RX5 33 yX5_isWithin ∈ aw := in_aw 393 (by decide +kernel) (by decide +kernel)
theorem lX5_44 : Cond.methodLink RX5 44 yX4_takesJob ∈ aw := in_aw 462 (by decide +kernel) (by decide +kernel)
theorem lX4_63 : Cond.methodLink RX4 63 yX2_isFull ∈ aw := in_aw 466 (by decide +kernel) (by decide +kernel)
theorem lX4_67 : Cond.methodLink RX4 67 yX3_keepsLabel ∈ aw := in_aw 470 (by decide +kernel) (by decide +kernel)
theorem lX3_37 : Cond.methodLink RX3 37 yX3_isScratch ∈ aw := in_aw 474 (by decide +kernel) (by decide +kernel)
theorem lX4_71 : Cond.methodLink RX4 71 yX2_hasWaitingCreate ∈ aw := in_aw 475 (by decide +kernel) (by decide +kernel)
theorem lX5_53 : Cond.methodLink RX5 53 yX1_save ∈ aw := in_aw 495 (by decide +kernel) (by decide +kernel)
theorem lX1_25 : Cond.methodLink RX1 25 yX4_copyFrom ∈ aw := in_aw 499 (by decide +kernel) (by decide +kernel)
theorem lX4_56 : Cond.methodLink RX4 56 yX3_copyFrom ∈ aw := in_aw 503 (by decide +kernel) (by decide +kernel)
theorem lX4_60 : Cond.methodLink RX4 60 yX2_copyFrom ∈ aw := in_aw 510 (by decide +kernel) (by decide +kernel)
theorem lX1_29 : Cond.methodLink RX1 29 yJ9_floorMod_7cf53 ∈ aw := in_aw 515 (by decide +kernel) (by decide +kernel)
theorem lX5_61 : Cond.methodLink RX5 61 yX2_add ∈ aw := in_aw 518 (by decide +kernel) (by decide +kernel)
theorem lX2_50 : Cond.methodLink RX2 50 yX2_isFull ∈ aw := in_aw 522 (by decide +kernel) (by decide +kernel)
theorem lL_85 : Cond.methodLink RL 85 yL_cancel ∈ aw := in_aw 523 (by decide +kernel) (by decide +kernel)
theorem lL_17 : Cond.methodLink RL 17 yX5_cancel ∈ aw := in_aw 527 (by decide +kernel) (by decide +kernel)
theorem lX5_67 : Cond.methodLink RX5 67 yX2_has ∈ aw := in_aw 531 (by decide +kernel) (by decide +kernel)
theorem nX2_46 : Cond.methodLinkNest RX2 46 yX5_isWithin "ReelConsole" ∈ aN := by simp [aN]
theorem lX5_82 : Cond.methodLink RX5 82 yX4_endJob ∈ aw := in_aw 553 (by decide +kernel) (by decide +kernel)
theorem nX4_79 : Cond.methodLinkNest RX4 79 yX5_isReel "ReelConsole" ∈ aN := by simp [aN]
theorem lL_89 : Cond.methodLink RL 89 yL_setSticker ∈ aw := in_aw 560 (by decide +kernel) (by decide +kernel)
theorem lL_23 : Cond.methodLink RL 23 yX5_setSticker ∈ aw := in_aw 563 (by decide +kernel) (by decide +kernel)
theorem lX5_89 : Cond.methodLink RX5 89 yX5_isReel ∈ aw := in_aw 567 (by decide +kernel) (by decide +kernel)
theorem lL_93 : Cond.methodLink RL 93 yL_setRing ∈ aw := in_aw 570 (by decide +kernel) (by decide +kernel)
theorem lL_27 : Cond.methodLink RL 27 yX5_setRing ∈ aw := in_aw 573 (by decide +kernel) (by decide +kernel)
theorem lL_97 : Cond.methodLink RL 97 yL_pass ∈ aw := in_aw 578 (by decide +kernel) (by decide +kernel)
theorem lL_31 : Cond.methodLink RL 31 yX5_pass ∈ aw := in_aw 581 (by decide +kernel) (by decide +kernel)
theorem lX5_116 : Cond.methodLink RX5 116 yX4_runMinutes ∈ aw := in_aw 586 (by decide +kernel) (by decide +kernel)
theorem lX4_88 : Cond.methodLink RX4 88 yX4_runMinute ∈ aw := in_aw 590 (by decide +kernel) (by decide +kernel)
theorem lX4_95 : Cond.methodLink RX4 95 yX4_moveBlock ∈ aw := in_aw 594 (by decide +kernel) (by decide +kernel)
theorem lX4_104 : Cond.methodLink RX4 104 yX4_endJob ∈ aw := in_aw 598 (by decide +kernel) (by decide +kernel)
theorem lX4_108 : Cond.methodLink RX4 108 yX3_findEmptyDrive ∈ aw := in_aw 599 (by decide +kernel) (by decide +kernel)
theorem lX3_41 : Cond.methodLink RX3 41 yX3_findOn ∈ aw := in_aw 603 (by decide +kernel) (by decide +kernel)
theorem lX4_111 : Cond.methodLink RX4 111 yX4_findNextJob ∈ aw := in_aw 607 (by decide +kernel) (by decide +kernel)
theorem lX4_114 : Cond.methodLink RX4 114 yX4_serve ∈ aw := in_aw 608 (by decide +kernel) (by decide +kernel)
theorem lX4_137 : Cond.methodLink RX4 137 yX4_isSlip ∈ aw := in_aw 612 (by decide +kernel) (by decide +kernel)
theorem lX4_140 : Cond.methodLink RX4 140 yX4_chooseReel ∈ aw := in_aw 613 (by decide +kernel) (by decide +kernel)
theorem lX4_148 : Cond.methodLink RX4 148 yX4_check ∈ aw := in_aw 614 (by decide +kernel) (by decide +kernel)
theorem lX4_165 : Cond.methodLink RX4 165 yX3_isScratch ∈ aw := in_aw 618 (by decide +kernel) (by decide +kernel)
theorem lX4_152 : Cond.methodLink RX4 152 yX4_mount ∈ aw := in_aw 619 (by decide +kernel) (by decide +kernel)
theorem lX4_156 : Cond.methodLink RX4 156 yX4_sendBack ∈ aw := in_aw 623 (by decide +kernel) (by decide +kernel)
theorem lL_100 : Cond.methodLink RL 100 yL_nextDay ∈ aw := in_aw 627 (by decide +kernel) (by decide +kernel)
theorem lL_34 : Cond.methodLink RL 34 yX5_nextDay ∈ aw := in_aw 630 (by decide +kernel) (by decide +kernel)
theorem lX5_120 : Cond.methodLink RX5 120 yX4_hasNextDay ∈ aw := in_aw 634 (by decide +kernel) (by decide +kernel)
theorem lL_104 : Cond.methodLink RL 104 yL_set ∈ aw := in_aw 639 (by decide +kernel) (by decide +kernel)
theorem lL_38 : Cond.methodLink RL 38 yX5_set ∈ aw := in_aw 642 (by decide +kernel) (by decide +kernel)
theorem lL_107 : Cond.methodLink RL 107 yL_appendText ∈ aw := in_aw 648 (by decide +kernel) (by decide +kernel)
theorem lL_41 : Cond.methodLink RL 41 yX5_appendText ∈ aw := in_aw 651 (by decide +kernel) (by decide +kernel)
theorem lX5_147 : Cond.methodLink RX5 147 yX0_append ∈ aw := in_aw 657 (by decide +kernel) (by decide +kernel)
theorem lL_118 : Cond.methodLink RL 118 yL_runText ∈ aw := in_aw 661 (by decide +kernel) (by decide +kernel)
theorem lL_44 : Cond.methodLink RL 44 yX5_runText ∈ aw := in_aw 664 (by decide +kernel) (by decide +kernel)
theorem lX5_157 : Cond.methodLink RX5 157 yX0_rewind ∈ aw := in_aw 669 (by decide +kernel) (by decide +kernel)
theorem lX5_160 : Cond.methodLink RX5 160 yX0_readCommand ∈ aw := in_aw 670 (by decide +kernel) (by decide +kernel)
theorem lX5_163 : Cond.methodLink RX5 163 yX5_execute ∈ aw := in_aw 671 (by decide +kernel) (by decide +kernel)
theorem lX5_166 : Cond.methodLink RX5 166 yX0_skip ∈ aw := in_aw 675 (by decide +kernel) (by decide +kernel)
theorem lL_121 : Cond.methodLink RL 121 yL_undo ∈ aw := in_aw 676 (by decide +kernel) (by decide +kernel)
theorem lL_47 : Cond.methodLink RL 47 yX5_undo ∈ aw := in_aw 679 (by decide +kernel) (by decide +kernel)
theorem lX5_190 : Cond.methodLink RX5 190 yX1_restore ∈ aw := in_aw 684 (by decide +kernel) (by decide +kernel)
theorem lL_124 : Cond.methodLink RL 124 yL_reel ∈ aw := in_aw 688 (by decide +kernel) (by decide +kernel)
theorem lL_50 : Cond.methodLink RL 50 yX5_reel ∈ aw := in_aw 691 (by decide +kernel) (by decide +kernel)
theorem lL_127 : Cond.methodLink RL 127 yL_reelOn ∈ aw := in_aw 696 (by decide +kernel) (by decide +kernel)
theorem lL_53 : Cond.methodLink RL 53 yX5_reelOn ∈ aw := in_aw 699 (by decide +kernel) (by decide +kernel)
theorem lX5_207 : Cond.methodLink RX5 207 yX3_findOn ∈ aw := in_aw 704 (by decide +kernel) (by decide +kernel)
theorem lL_138 : Cond.methodLink RL 138 yL_job ∈ aw := in_aw 705 (by decide +kernel) (by decide +kernel)
theorem lL_56 : Cond.methodLink RL 56 yX5_job ∈ aw := in_aw 708 (by decide +kernel) (by decide +kernel)
theorem lL_141 : Cond.methodLink RL 141 yL_isStuck ∈ aw := in_aw 713 (by decide +kernel) (by decide +kernel)
theorem lL_59 : Cond.methodLink RL 59 yX5_isStuck ∈ aw := in_aw 716 (by decide +kernel) (by decide +kernel)
theorem lX5_232 : Cond.methodLink RX5 232 yX4_lacksReel ∈ aw := in_aw 720 (by decide +kernel) (by decide +kernel)
theorem lL_144 : Cond.methodLink RL 144 yL_verdict ∈ aw := in_aw 721 (by decide +kernel) (by decide +kernel)
theorem lL_63 : Cond.methodLink RL 63 yX5_verdict ∈ aw := in_aw 724 (by decide +kernel) (by decide +kernel)
theorem lX5_237 : Cond.methodLink RX5 237 yX4_check ∈ aw := in_aw 729 (by decide +kernel) (by decide +kernel)
theorem lL_155 : Cond.methodLink RL 155 yL_minutesToDone ∈ aw := in_aw 730 (by decide +kernel) (by decide +kernel)
theorem lL_66 : Cond.methodLink RL 66 yX5_minutesToDone ∈ aw := in_aw 733 (by decide +kernel) (by decide +kernel)
theorem lX5_254 : Cond.methodLink RX5 254 yX4_copyFrom ∈ aw := in_aw 737 (by decide +kernel) (by decide +kernel)
theorem lX5_257 : Cond.methodLink RX5 257 yX4_runMinute ∈ aw := in_aw 738 (by decide +kernel) (by decide +kernel)
theorem lL_158 : Cond.methodLink RL 158 yL_count ∈ aw := in_aw 739 (by decide +kernel) (by decide +kernel)
theorem lL_69 : Cond.methodLink RL 69 yX5_count ∈ aw := in_aw 742 (by decide +kernel) (by decide +kernel)
theorem lX5_275 : Cond.methodLink RX5 275 yX2_countIn ∈ aw := in_aw 746 (by decide +kernel) (by decide +kernel)
theorem lL_75 : Cond.methodLink RL 75 yX6_init ∈ aw := in_aw 753 (by decide +kernel) (by decide +kernel)
theorem lX6_34 : Cond.methodLink RX6 34 yX6_put ∈ aw := in_aw 757 (by decide +kernel) (by decide +kernel)
theorem lL_82 : Cond.methodLink RL 82 yX6_thrown ∈ aw := in_aw 804 (by decide +kernel) (by decide +kernel)
theorem lL_123 : Cond.methodLink RL 123 yX6_undo ∈ aw := in_aw 808 (by decide +kernel) (by decide +kernel)
theorem lX6_53 : Cond.methodLink RX6 53 yX6_fails ∈ aw := in_aw 812 (by decide +kernel) (by decide +kernel)
theorem lL_81 : Cond.methodLink RL 81 yX6_submit ∈ aw := in_aw 816 (by decide +kernel) (by decide +kernel)
theorem lX6_112 : Cond.methodLink RX6 112 yX6_areRight ∈ aw := in_aw 820 (by decide +kernel) (by decide +kernel)
theorem lX6_42 : Cond.methodLink RX6 42 yX6_in ∈ aw := in_aw 823 (by decide +kernel) (by decide +kernel)
theorem lX6_116 : Cond.methodLink RX6 116 yX6_canSubmit ∈ aw := in_aw 826 (by decide +kernel) (by decide +kernel)
theorem lX6_109 : Cond.methodLink RX6 109 yX6_isKept ∈ aw := in_aw 830 (by decide +kernel) (by decide +kernel)
theorem lX6_67 : Cond.methodLink RX6 67 yX6_isScratch ∈ aw := in_aw 834 (by decide +kernel) (by decide +kernel)
theorem lX6_46 : Cond.methodLink RX6 46 yX6_of ∈ aw := in_aw 838 (by decide +kernel) (by decide +kernel)
theorem lX6_57 : Cond.methodLink RX6 57 yX6_ofJob ∈ aw := in_aw 842 (by decide +kernel) (by decide +kernel)
theorem lX6_120 : Cond.methodLink RX6 120 yX6_save ∈ aw := in_aw 846 (by decide +kernel) (by decide +kernel)
theorem lX6_123 : Cond.methodLink RX6 123 yX6_submitNow ∈ aw := in_aw 850 (by decide +kernel) (by decide +kernel)
theorem lX6_73 : Cond.methodLink RX6 73 yX6_putJob ∈ aw := in_aw 854 (by decide +kernel) (by decide +kernel)
theorem lL_88 : Cond.methodLink RL 88 yX6_cancel ∈ aw := in_aw 858 (by decide +kernel) (by decide +kernel)
theorem lX6_127 : Cond.methodLink RX6 127 yX6_isJob ∈ aw := in_aw 862 (by decide +kernel) (by decide +kernel)
theorem lX6_91 : Cond.methodLink RX6 91 yX6_takeOff ∈ aw := in_aw 866 (by decide +kernel) (by decide +kernel)
theorem lL_92 : Cond.methodLink RL 92 yX6_setSticker ∈ aw := in_aw 870 (by decide +kernel) (by decide +kernel)
theorem lX6_130 : Cond.methodLink RX6 130 yX6_isReel ∈ aw := in_aw 874 (by decide +kernel) (by decide +kernel)
theorem lL_96 : Cond.methodLink RL 96 yX6_setRing ∈ aw := in_aw 877 (by decide +kernel) (by decide +kernel)
theorem lX6_60 : Cond.methodLink RX6 60 yX6_isOnShelf ∈ aw := in_aw 881 (by decide +kernel) (by decide +kernel)
theorem lL_99 : Cond.methodLink RL 99 yX6_pass ∈ aw := in_aw 885 (by decide +kernel) (by decide +kernel)
theorem lX6_133 : Cond.methodLink RX6 133 yX6_passNow ∈ aw := in_aw 889 (by decide +kernel) (by decide +kernel)
theorem lX6_106 : Cond.methodLink RX6 106 yX6_minute ∈ aw := in_aw 893 (by decide +kernel) (by decide +kernel)
theorem lX6_88 : Cond.methodLink RX6 88 yX6_isDoneNow ∈ aw := in_aw 897 (by decide +kernel) (by decide +kernel)
theorem lX6_95 : Cond.methodLink RX6 95 yX6_next ∈ aw := in_aw 901 (by decide +kernel) (by decide +kernel)
theorem lX6_64 : Cond.methodLink RX6 64 yX6_found ∈ aw := in_aw 905 (by decide +kernel) (by decide +kernel)
theorem lX6_99 : Cond.methodLink RX6 99 yX6_emptyDrive ∈ aw := in_aw 909 (by decide +kernel) (by decide +kernel)
theorem lX6_70 : Cond.methodLink RX6 70 yX6_onDrive ∈ aw := in_aw 913 (by decide +kernel) (by decide +kernel)
theorem lX6_102 : Cond.methodLink RX6 102 yX6_serve ∈ aw := in_aw 917 (by decide +kernel) (by decide +kernel)
theorem lX6_76 : Cond.methodLink RX6 76 yX6_isSlip ∈ aw := in_aw 921 (by decide +kernel) (by decide +kernel)
theorem lX6_79 : Cond.methodLink RX6 79 yX6_after ∈ aw := in_aw 925 (by decide +kernel) (by decide +kernel)
theorem lX6_82 : Cond.methodLink RX6 82 yX6_check ∈ aw := in_aw 929 (by decide +kernel) (by decide +kernel)
theorem lX6_85 : Cond.methodLink RX6 85 yX6_mount ∈ aw := in_aw 933 (by decide +kernel) (by decide +kernel)
theorem lL_103 : Cond.methodLink RL 103 yX6_nextDay ∈ aw := in_aw 937 (by decide +kernel) (by decide +kernel)
theorem lL_106 : Cond.methodLink RL 106 yX6_set ∈ aw := in_aw 941 (by decide +kernel) (by decide +kernel)
theorem lL_109 : Cond.methodLink RL 109 yX6_appendText ∈ aw := in_aw 945 (by decide +kernel) (by decide +kernel)
theorem lL_113 : Cond.methodLink RL 113 yX6_clearText ∈ aw := in_aw 949 (by decide +kernel) (by decide +kernel)
theorem lL_117 : Cond.methodLink RL 117 yX6_errorPosition ∈ aw := in_aw 953 (by decide +kernel) (by decide +kernel)
theorem lX6_167 : Cond.methodLink RX6 167 yX6_isValid ∈ aw := in_aw 957 (by decide +kernel) (by decide +kernel)
theorem lX6_164 : Cond.methodLink RX6 164 yX6_readsCommand ∈ aw := in_aw 961 (by decide +kernel) (by decide +kernel)
theorem lX6_142 : Cond.methodLink RX6 142 yX6_sign ∈ aw := in_aw 965 (by decide +kernel) (by decide +kernel)
theorem lX6_157 : Cond.methodLink RX6 157 yX6_readsJob ∈ aw := in_aw 969 (by decide +kernel) (by decide +kernel)
theorem lX6_148 : Cond.methodLink RX6 148 yX6_readsNumber ∈ aw := in_aw 973 (by decide +kernel) (by decide +kernel)
theorem lX6_154 : Cond.methodLink RX6 154 yX6_takes ∈ aw := in_aw 977 (by decide +kernel) (by decide +kernel)
theorem lX6_161 : Cond.methodLink RX6 161 yX6_readsMinutes ∈ aw := in_aw 981 (by decide +kernel) (by decide +kernel)
theorem lL_120 : Cond.methodLink RL 120 yX6_runText ∈ aw := in_aw 985 (by decide +kernel) (by decide +kernel)
theorem lX6_173 : Cond.methodLink RX6 173 yX6_isCarriedOut ∈ aw := in_aw 989 (by decide +kernel) (by decide +kernel)
theorem lX6_170 : Cond.methodLink RX6 170 yX6_kindOf ∈ aw := in_aw 993 (by decide +kernel) (by decide +kernel)
theorem lL_126 : Cond.methodLink RL 126 yX6_reel ∈ aw := in_aw 996 (by decide +kernel) (by decide +kernel)
theorem lL_129 : Cond.methodLink RL 129 yX6_reelOn ∈ aw := in_aw 1000 (by decide +kernel) (by decide +kernel)
theorem lL_133 : Cond.methodLink RL 133 yX6_scratchReels ∈ aw := in_aw 1004 (by decide +kernel) (by decide +kernel)
theorem lL_137 : Cond.methodLink RL 137 yX6_jobs ∈ aw := in_aw 1008 (by decide +kernel) (by decide +kernel)
theorem lL_140 : Cond.methodLink RL 140 yX6_job ∈ aw := in_aw 1012 (by decide +kernel) (by decide +kernel)
theorem lL_143 : Cond.methodLink RL 143 yX6_isStuck ∈ aw := in_aw 1016 (by decide +kernel) (by decide +kernel)
theorem lL_146 : Cond.methodLink RL 146 yX6_verdict ∈ aw := in_aw 1020 (by decide +kernel) (by decide +kernel)
theorem lL_150 : Cond.methodLink RL 150 yX6_nextJob ∈ aw := in_aw 1024 (by decide +kernel) (by decide +kernel)
theorem lL_154 : Cond.methodLink RL 154 yX6_nextReel ∈ aw := in_aw 1028 (by decide +kernel) (by decide +kernel)
theorem lL_157 : Cond.methodLink RL 157 yX6_minutesToDone ∈ aw := in_aw 1032 (by decide +kernel) (by decide +kernel)
theorem lX6_176 : Cond.methodLink RX6 176 yX6_minutesTo ∈ aw := in_aw 1036 (by decide +kernel) (by decide +kernel)
theorem lL_160 : Cond.methodLink RL 160 yX6_count ∈ aw := in_aw 1040 (by decide +kernel) (by decide +kernel)
theorem lX6_179 : Cond.methodLink RX6 179 yX6_with ∈ aw := in_aw 1044 (by decide +kernel) (by decide +kernel)
theorem lL_165 : Cond.methodLink RL 165 yX6_success ∈ aw := in_aw 1048 (by decide +kernel) (by decide +kernel)
theorem lL_169 : Cond.methodLink RL 169 yX6_savedStates ∈ aw := in_aw 1052 (by decide +kernel) (by decide +kernel)
theorem lL_173 : Cond.methodLink RL 173 yX6_textLength ∈ aw := in_aw 1056 (by decide +kernel) (by decide +kernel)
theorem iX0_init : iM yX0_init cX0_init 1 0 := ⟨in_aw 230 (by decide +kernel) (by decide +kernel), rfl, ⟨in_aw 43 (by decide +kernel) (by decide +kernel), in_aw 231 (by decide +kernel) (by decide +kernel), by decide +kernel, by decide⟩⟩
theorem vX0_append : vM yX0_append cX0_append 2 none 1 := ⟨in_aw 658 (by decide +kernel) (by decide +kernel), in_aw 659 (by decide +kernel) (by decide +kernel), ⟨in_aw 43 (by decide +kernel) (by decide +kernel), in_aw 660 (by decide +kernel) (by decide +kernel), by decide +kernel, by decide⟩⟩
theorem vX0_rewind : vM yX0_rewind cX0_rewind 1 none 0 := ⟨in_aw 290 (by decide +kernel) (by decide +kernel), in_aw 291 (by decide +kernel) (by decide +kernel), ⟨in_aw 43 (by decide +kernel) (by decide +kernel), in_aw 292 (by decide +kernel) (by decide +kernel), by decide +kernel, by decide⟩⟩
theorem vX0_findError : vM yX0_findError cX0_findError 2 (some .int) 0 := ⟨in_aw 286 (by decide +kernel) (by decide +kernel), in_aw 287 (by decide +kernel) (by decide +kernel), ⟨in_aw 43 (by decide +kernel) (by decide +kernel), in_aw 288 (by decide +kernel) (by decide +kernel), by decide +kernel, by decide⟩⟩
theorem vX0_readCommand : vM yX0_readCommand cX0_readCommand 1 (some .boolean) 0 := ⟨in_aw 294 (by decide +kernel) (by decide +kernel), in_aw 295 (by decide +kernel) (by decide +kernel), ⟨in_aw 43 (by decide +kernel) (by decide +kernel), in_aw 296 (by decide +kernel) (by decide +kernel), by decide +kernel, by decide⟩⟩
theorem vX0_readSubmission : vM yX0_readSubmission cX0_readSubmission 2 (some .boolean) 1 := ⟨in_aw 305 (by decide +kernel) (by decide +kernel), in_aw 306 (by decide +kernel) (by decide +kernel), ⟨in_aw 43 (by decide +kernel) (by decide +kernel), in_aw 307 (by decide +kernel) (by decide +kernel), by decide +kernel, by decide⟩⟩
theorem vX0_readPriority : vM yX0_readPriority cX0_readPriority 2 (some .boolean) 0 := ⟨in_aw 321 (by decide +kernel) (by decide +kernel), in_aw 322 (by decide +kernel) (by decide +kernel), ⟨in_aw 43 (by decide +kernel) (by decide +kernel), in_aw 323 (by decide +kernel) (by decide +kernel), by decide +kernel, by decide⟩⟩
theorem vX0_readNumber : vM yX0_readNumber cX0_readNumber 5 (some .int) 1 := ⟨in_aw 309 (by decide +kernel) (by decide +kernel), in_aw 310 (by decide +kernel) (by decide +kernel), ⟨in_aw 43 (by decide +kernel) (by decide +kernel), in_aw 311 (by decide +kernel) (by decide +kernel), by decide +kernel, by decide⟩⟩
theorem vX0_skip : vM yX0_skip cX0_skip 2 (some .boolean) 1 := ⟨in_aw 317 (by decide +kernel) (by decide +kernel), in_aw 318 (by decide +kernel) (by decide +kernel), ⟨in_aw 43 (by decide +kernel) (by decide +kernel), in_aw 319 (by decide +kernel) (by decide +kernel), by decide +kernel, by decide⟩⟩
theorem vX0_digitHere : vM yX0_digitHere cX0_digitHere 2 (some .int) 0 := ⟨in_aw 313 (by decide +kernel) (by decide +kernel), in_aw 314 (by decide +kernel) (by decide +kernel), ⟨in_aw 43 (by decide +kernel) (by decide +kernel), in_aw 315 (by decide +kernel) (by decide +kernel), by decide +kernel, by decide⟩⟩
theorem vX0_characterHere : vM yX0_characterHere cX0_characterHere 1 (some .int) 0 := ⟨in_aw 298 (by decide +kernel) (by decide +kernel), in_aw 299 (by decide +kernel) (by decide +kernel), ⟨in_aw 43 (by decide +kernel) (by decide +kernel), in_aw 300 (by decide +kernel) (by decide +kernel), by decide +kernel, by decide⟩⟩
theorem iX1_init : iM yX1_init cX1_init 2 0 := ⟨in_aw 210 (by decide +kernel) (by decide +kernel), rfl, ⟨in_aw 42 (by decide +kernel) (by decide +kernel), in_aw 211 (by decide +kernel) (by decide +kernel), by decide +kernel, by decide⟩⟩
theorem vX1_save : vM yX1_save cX1_save 3 none 1 := ⟨in_aw 496 (by decide +kernel) (by decide +kernel), in_aw 497 (by decide +kernel) (by decide +kernel), ⟨in_aw 42 (by decide +kernel) (by decide +kernel), in_aw 498 (by decide +kernel) (by decide +kernel), by decide +kernel, by decide⟩⟩
theorem vX1_restore : vM yX1_restore cX1_restore 3 none 1 := ⟨in_aw 685 (by decide +kernel) (by decide +kernel), in_aw 686 (by decide +kernel) (by decide +kernel), ⟨in_aw 42 (by decide +kernel) (by decide +kernel), in_aw 687 (by decide +kernel) (by decide +kernel), by decide +kernel, by decide⟩⟩
theorem iX2_init : iM yX2_init cX2_init 1 0 := ⟨in_aw 109 (by decide +kernel) (by decide +kernel), rfl, ⟨in_aw 41 (by decide +kernel) (by decide +kernel), in_aw 110 (by decide +kernel) (by decide +kernel), by decide +kernel, by decide⟩⟩
theorem vX2_copyFrom : vM yX2_copyFrom cX2_copyFrom 2 none 1 := ⟨in_aw 511 (by decide +kernel) (by decide +kernel), in_aw 512 (by decide +kernel) (by decide +kernel), ⟨in_aw 41 (by decide +kernel) (by decide +kernel), in_aw 513 (by decide +kernel) (by decide +kernel), by decide +kernel, by decide⟩⟩
theorem vX2_has : vM yX2_has cX2_has 2 (some .boolean) 1 := ⟨in_aw 532 (by decide +kernel) (by decide +kernel), in_aw 533 (by decide +kernel) (by decide +kernel), ⟨in_aw 41 (by decide +kernel) (by decide +kernel), in_aw 534 (by decide +kernel) (by decide +kernel), by decide +kernel, by decide⟩⟩
theorem vX2_isFull : vM yX2_isFull cX2_isFull 1 (some .boolean) 0 := ⟨in_aw 467 (by decide +kernel) (by decide +kernel), in_aw 468 (by decide +kernel) (by decide +kernel), ⟨in_aw 41 (by decide +kernel) (by decide +kernel), in_aw 469 (by decide +kernel) (by decide +kernel), by decide +kernel, by decide⟩⟩
theorem vX2_add : vM yX2_add cX2_add 6 (some .int) 4 := ⟨in_aw 519 (by decide +kernel) (by decide +kernel), in_aw 520 (by decide +kernel) (by decide +kernel), ⟨in_aw 41 (by decide +kernel) (by decide +kernel), in_aw 521 (by decide +kernel) (by decide +kernel), by decide +kernel, by decide⟩⟩
theorem vX2_countIn : vM yX2_countIn cX2_countIn 4 (some .int) 1 := ⟨in_aw 747 (by decide +kernel) (by decide +kernel), in_aw 748 (by decide +kernel) (by decide +kernel), ⟨in_aw 41 (by decide +kernel) (by decide +kernel), in_aw 749 (by decide +kernel) (by decide +kernel), by decide +kernel, by decide⟩⟩
theorem vX2_wantedSticker : vM yX2_wantedSticker cX2_wantedSticker 2 (some .int) 1 := ⟨in_aw 349 (by decide +kernel) (by decide +kernel), in_aw 350 (by decide +kernel) (by decide +kernel), ⟨in_aw 41 (by decide +kernel) (by decide +kernel), in_aw 351 (by decide +kernel) (by decide +kernel), by decide +kernel, by decide⟩⟩
theorem vX2_hasWaitingCreate : vM yX2_hasWaitingCreate cX2_hasWaitingCreate 3 (some .boolean) 1 := ⟨in_aw 476 (by decide +kernel) (by decide +kernel), in_aw 477 (by decide +kernel) (by decide +kernel), ⟨in_aw 41 (by decide +kernel) (by decide +kernel), in_aw 478 (by decide +kernel) (by decide +kernel), by decide +kernel, by decide⟩⟩
theorem iX3_init : iM yX3_init cX3_init 3 0 := ⟨in_aw 70 (by decide +kernel) (by decide +kernel), rfl, ⟨in_aw 40 (by decide +kernel) (by decide +kernel), in_aw 71 (by decide +kernel) (by decide +kernel), by decide +kernel, by decide⟩⟩
theorem vX3_copyFrom : vM yX3_copyFrom cX3_copyFrom 2 none 1 := ⟨in_aw 504 (by decide +kernel) (by decide +kernel), in_aw 505 (by decide +kernel) (by decide +kernel), ⟨in_aw 40 (by decide +kernel) (by decide +kernel), in_aw 506 (by decide +kernel) (by decide +kernel), by decide +kernel, by decide⟩⟩
theorem vX3_isScratch : vM yX3_isScratch cX3_isScratch 3 (some .boolean) 2 := ⟨in_aw 329 (by decide +kernel) (by decide +kernel), in_aw 330 (by decide +kernel) (by decide +kernel), ⟨in_aw 40 (by decide +kernel) (by decide +kernel), in_aw 331 (by decide +kernel) (by decide +kernel), by decide +kernel, by decide⟩⟩
theorem vX3_keepsLabel : vM yX3_keepsLabel cX3_keepsLabel 4 (some .boolean) 2 := ⟨in_aw 471 (by decide +kernel) (by decide +kernel), in_aw 472 (by decide +kernel) (by decide +kernel), ⟨in_aw 40 (by decide +kernel) (by decide +kernel), in_aw 473 (by decide +kernel) (by decide +kernel), by decide +kernel, by decide⟩⟩
theorem vX3_findOn : vM yX3_findOn cX3_findOn 3 (some .int) 1 := ⟨in_aw 604 (by decide +kernel) (by decide +kernel), in_aw 605 (by decide +kernel) (by decide +kernel), ⟨in_aw 40 (by decide +kernel) (by decide +kernel), in_aw 606 (by decide +kernel) (by decide +kernel), by decide +kernel, by decide⟩⟩
theorem vX3_findEmptyDrive : vM yX3_findEmptyDrive cX3_findEmptyDrive 2 (some .int) 0 := ⟨in_aw 600 (by decide +kernel) (by decide +kernel), in_aw 601 (by decide +kernel) (by decide +kernel), ⟨in_aw 40 (by decide +kernel) (by decide +kernel), in_aw 602 (by decide +kernel) (by decide +kernel), by decide +kernel, by decide⟩⟩
theorem vX3_findOnShelf : vM yX3_findOnShelf cX3_findOnShelf 3 (some .int) 1 := ⟨in_aw 353 (by decide +kernel) (by decide +kernel), in_aw 354 (by decide +kernel) (by decide +kernel), ⟨in_aw 40 (by decide +kernel) (by decide +kernel), in_aw 355 (by decide +kernel) (by decide +kernel), by decide +kernel, by decide⟩⟩
theorem vX3_findNextOnShelf : vM yX3_findNextOnShelf cX3_findNextOnShelf 4 (some .int) 1 := ⟨in_aw 369 (by decide +kernel) (by decide +kernel), in_aw 370 (by decide +kernel) (by decide +kernel), ⟨in_aw 40 (by decide +kernel) (by decide +kernel), in_aw 371 (by decide +kernel) (by decide +kernel), by decide +kernel, by decide⟩⟩
theorem iX4_init : iM yX4_init cX4_init 1 0 := ⟨in_aw 64 (by decide +kernel) (by decide +kernel), rfl, ⟨in_aw 39 (by decide +kernel) (by decide +kernel), in_aw 65 (by decide +kernel) (by decide +kernel), by decide +kernel, by decide⟩⟩
theorem vX4_copyFrom : vM yX4_copyFrom cX4_copyFrom 2 none 1 := ⟨in_aw 500 (by decide +kernel) (by decide +kernel), in_aw 501 (by decide +kernel) (by decide +kernel), ⟨in_aw 39 (by decide +kernel) (by decide +kernel), in_aw 502 (by decide +kernel) (by decide +kernel), by decide +kernel, by decide⟩⟩
theorem vX4_hasNextDay : vM yX4_hasNextDay cX4_hasNextDay 1 (some .boolean) 0 := ⟨in_aw 635 (by decide +kernel) (by decide +kernel), in_aw 636 (by decide +kernel) (by decide +kernel), ⟨in_aw 39 (by decide +kernel) (by decide +kernel), in_aw 637 (by decide +kernel) (by decide +kernel), by decide +kernel, by decide⟩⟩
theorem vX4_takesJob : vM yX4_takesJob cX4_takesJob 3 (some .boolean) 2 := ⟨in_aw 463 (by decide +kernel) (by decide +kernel), in_aw 464 (by decide +kernel) (by decide +kernel), ⟨in_aw 39 (by decide +kernel) (by decide +kernel), in_aw 465 (by decide +kernel) (by decide +kernel), by decide +kernel, by decide⟩⟩
theorem vX4_endJob : vM yX4_endJob cX4_endJob 4 none 2 := ⟨in_aw 554 (by decide +kernel) (by decide +kernel), in_aw 555 (by decide +kernel) (by decide +kernel), ⟨in_aw 39 (by decide +kernel) (by decide +kernel), in_aw 556 (by decide +kernel) (by decide +kernel), by decide +kernel, by decide⟩⟩
theorem vX4_runMinutes : vM yX4_runMinutes cX4_runMinutes 4 (some .int) 1 := ⟨in_aw 587 (by decide +kernel) (by decide +kernel), in_aw 588 (by decide +kernel) (by decide +kernel), ⟨in_aw 39 (by decide +kernel) (by decide +kernel), in_aw 589 (by decide +kernel) (by decide +kernel), by decide +kernel, by decide⟩⟩
theorem vX4_runMinute : vM yX4_runMinute cX4_runMinute 4 (some .int) 0 := ⟨in_aw 591 (by decide +kernel) (by decide +kernel), in_aw 592 (by decide +kernel) (by decide +kernel), ⟨in_aw 39 (by decide +kernel) (by decide +kernel), in_aw 593 (by decide +kernel) (by decide +kernel), by decide +kernel, by decide⟩⟩
theorem vX4_moveBlock : vM yX4_moveBlock cX4_moveBlock 3 none 1 := ⟨in_aw 595 (by decide +kernel) (by decide +kernel), in_aw 596 (by decide +kernel) (by decide +kernel), ⟨in_aw 39 (by decide +kernel) (by decide +kernel), in_aw 597 (by decide +kernel) (by decide +kernel), by decide +kernel, by decide⟩⟩
theorem vX4_lacksReel : vM yX4_lacksReel cX4_lacksReel 2 (some .boolean) 1 := ⟨in_aw 345 (by decide +kernel) (by decide +kernel), in_aw 346 (by decide +kernel) (by decide +kernel), ⟨in_aw 39 (by decide +kernel) (by decide +kernel), in_aw 347 (by decide +kernel) (by decide +kernel), by decide +kernel, by decide⟩⟩
theorem vX4_findNextJob : vM yX4_findNextJob cX4_findNextJob 4 (some .int) 0 := ⟨in_aw 341 (by decide +kernel) (by decide +kernel), in_aw 342 (by decide +kernel) (by decide +kernel), ⟨in_aw 39 (by decide +kernel) (by decide +kernel), in_aw 343 (by decide +kernel) (by decide +kernel), by decide +kernel, by decide⟩⟩
theorem vX4_isSlip : vM yX4_isSlip cX4_isSlip 2 (some .boolean) 1 := ⟨in_aw 361 (by decide +kernel) (by decide +kernel), in_aw 362 (by decide +kernel) (by decide +kernel), ⟨in_aw 39 (by decide +kernel) (by decide +kernel), in_aw 363 (by decide +kernel) (by decide +kernel), by decide +kernel, by decide⟩⟩
theorem vX4_chooseReel : vM yX4_chooseReel cX4_chooseReel 4 (some .int) 2 := ⟨in_aw 365 (by decide +kernel) (by decide +kernel), in_aw 366 (by decide +kernel) (by decide +kernel), ⟨in_aw 39 (by decide +kernel) (by decide +kernel), in_aw 367 (by decide +kernel) (by decide +kernel), by decide +kernel, by decide⟩⟩
theorem vX4_serve : vM yX4_serve cX4_serve 5 none 2 := ⟨in_aw 609 (by decide +kernel) (by decide +kernel), in_aw 610 (by decide +kernel) (by decide +kernel), ⟨in_aw 39 (by decide +kernel) (by decide +kernel), in_aw 611 (by decide +kernel) (by decide +kernel), by decide +kernel, by decide⟩⟩
theorem vX4_check : vM yX4_check cX4_check 4 (some .int) 2 := ⟨in_aw 615 (by decide +kernel) (by decide +kernel), in_aw 616 (by decide +kernel) (by decide +kernel), ⟨in_aw 39 (by decide +kernel) (by decide +kernel), in_aw 617 (by decide +kernel) (by decide +kernel), by decide +kernel, by decide⟩⟩
theorem vX4_mount : vM yX4_mount cX4_mount 4 none 3 := ⟨in_aw 620 (by decide +kernel) (by decide +kernel), in_aw 621 (by decide +kernel) (by decide +kernel), ⟨in_aw 39 (by decide +kernel) (by decide +kernel), in_aw 622 (by decide +kernel) (by decide +kernel), by decide +kernel, by decide⟩⟩
theorem vX4_sendBack : vM yX4_sendBack cX4_sendBack 3 none 2 := ⟨in_aw 624 (by decide +kernel) (by decide +kernel), in_aw 625 (by decide +kernel) (by decide +kernel), ⟨in_aw 39 (by decide +kernel) (by decide +kernel), in_aw 626 (by decide +kernel) (by decide +kernel), by decide +kernel, by decide⟩⟩
theorem iX5_init : iM yX5_init cX5_init 1 0 := ⟨in_aw 56 (by decide +kernel) (by decide +kernel), rfl, ⟨in_aw 38 (by decide +kernel) (by decide +kernel), in_aw 57 (by decide +kernel) (by decide +kernel), by decide +kernel, by decide⟩⟩
theorem vX5_submit : vM yX5_submit cX5_submit 5 (some .int) 4 := ⟨in_aw 390 (by decide +kernel) (by decide +kernel), in_aw 391 (by decide +kernel) (by decide +kernel), ⟨in_aw 38 (by decide +kernel) (by decide +kernel), in_aw 392 (by decide +kernel) (by decide +kernel), by decide +kernel, by decide⟩⟩
theorem vX5_cancel : vM yX5_cancel cX5_cancel 2 (some .int) 1 := ⟨in_aw 528 (by decide +kernel) (by decide +kernel), in_aw 529 (by decide +kernel) (by decide +kernel), ⟨in_aw 38 (by decide +kernel) (by decide +kernel), in_aw 530 (by decide +kernel) (by decide +kernel), by decide +kernel, by decide⟩⟩
theorem vX5_setSticker : vM yX5_setSticker cX5_setSticker 4 (some .int) 2 := ⟨in_aw 564 (by decide +kernel) (by decide +kernel), in_aw 565 (by decide +kernel) (by decide +kernel), ⟨in_aw 38 (by decide +kernel) (by decide +kernel), in_aw 566 (by decide +kernel) (by decide +kernel), by decide +kernel, by decide⟩⟩
theorem vX5_setRing : vM yX5_setRing cX5_setRing 4 (some .boolean) 2 := ⟨in_aw 574 (by decide +kernel) (by decide +kernel), in_aw 575 (by decide +kernel) (by decide +kernel), ⟨in_aw 38 (by decide +kernel) (by decide +kernel), in_aw 576 (by decide +kernel) (by decide +kernel), by decide +kernel, by decide⟩⟩
theorem vX5_pass : vM yX5_pass cX5_pass 2 (some .int) 1 := ⟨in_aw 582 (by decide +kernel) (by decide +kernel), in_aw 583 (by decide +kernel) (by decide +kernel), ⟨in_aw 38 (by decide +kernel) (by decide +kernel), in_aw 584 (by decide +kernel) (by decide +kernel), by decide +kernel, by decide⟩⟩
theorem vX5_nextDay : vM yX5_nextDay cX5_nextDay 1 (some .int) 0 := ⟨in_aw 631 (by decide +kernel) (by decide +kernel), in_aw 632 (by decide +kernel) (by decide +kernel), ⟨in_aw 38 (by decide +kernel) (by decide +kernel), in_aw 633 (by decide +kernel) (by decide +kernel), by decide +kernel, by decide⟩⟩
theorem vX5_set : vM yX5_set cX5_set 4 (some .int) 2 := ⟨in_aw 643 (by decide +kernel) (by decide +kernel), in_aw 644 (by decide +kernel) (by decide +kernel), ⟨in_aw 38 (by decide +kernel) (by decide +kernel), in_aw 645 (by decide +kernel) (by decide +kernel), by decide +kernel, by decide⟩⟩
theorem vX5_appendText : vM yX5_appendText cX5_appendText 2 (some .int) 1 := ⟨in_aw 652 (by decide +kernel) (by decide +kernel), in_aw 653 (by decide +kernel) (by decide +kernel), ⟨in_aw 38 (by decide +kernel) (by decide +kernel), in_aw 654 (by decide +kernel) (by decide +kernel), by decide +kernel, by decide⟩⟩
theorem vX5_clearText : vM yX5_clearText cX5_clearText 2 (some .int) 0 := ⟨in_aw 278 (by decide +kernel) (by decide +kernel), in_aw 279 (by decide +kernel) (by decide +kernel), ⟨in_aw 38 (by decide +kernel) (by decide +kernel), in_aw 280 (by decide +kernel) (by decide +kernel), by decide +kernel, by decide⟩⟩
theorem vX5_errorPosition : vM yX5_errorPosition cX5_errorPosition 1 (some .int) 0 := ⟨in_aw 282 (by decide +kernel) (by decide +kernel), in_aw 283 (by decide +kernel) (by decide +kernel), ⟨in_aw 38 (by decide +kernel) (by decide +kernel), in_aw 284 (by decide +kernel) (by decide +kernel), by decide +kernel, by decide⟩⟩
theorem vX5_runText : vM yX5_runText cX5_runText 2 (some .int) 0 := ⟨in_aw 665 (by decide +kernel) (by decide +kernel), in_aw 666 (by decide +kernel) (by decide +kernel), ⟨in_aw 38 (by decide +kernel) (by decide +kernel), in_aw 667 (by decide +kernel) (by decide +kernel), by decide +kernel, by decide⟩⟩
theorem vX5_execute : vM yX5_execute cX5_execute 1 (some .boolean) 0 := ⟨in_aw 673 (by decide +kernel) (by decide +kernel), in_aw 1 (by decide +kernel) (by decide +kernel), ⟨in_aw 38 (by decide +kernel) (by decide +kernel), in_aw 674 (by decide +kernel) (by decide +kernel), by decide +kernel, by decide⟩⟩
theorem vX5_undo : vM yX5_undo cX5_undo 1 (some .int) 0 := ⟨in_aw 680 (by decide +kernel) (by decide +kernel), in_aw 681 (by decide +kernel) (by decide +kernel), ⟨in_aw 38 (by decide +kernel) (by decide +kernel), in_aw 682 (by decide +kernel) (by decide +kernel), by decide +kernel, by decide⟩⟩
theorem vX5_reel : vM yX5_reel cX5_reel 3 (some .int) 2 := ⟨in_aw 692 (by decide +kernel) (by decide +kernel), in_aw 693 (by decide +kernel) (by decide +kernel), ⟨in_aw 38 (by decide +kernel) (by decide +kernel), in_aw 694 (by decide +kernel) (by decide +kernel), by decide +kernel, by decide⟩⟩
theorem vX5_reelOn : vM yX5_reelOn cX5_reelOn 2 (some .int) 1 := ⟨in_aw 700 (by decide +kernel) (by decide +kernel), in_aw 701 (by decide +kernel) (by decide +kernel), ⟨in_aw 38 (by decide +kernel) (by decide +kernel), in_aw 702 (by decide +kernel) (by decide +kernel), by decide +kernel, by decide⟩⟩
theorem vX5_scratchReels : vM yX5_scratchReels cX5_scratchReels 3 (some .int) 0 := ⟨in_aw 325 (by decide +kernel) (by decide +kernel), in_aw 326 (by decide +kernel) (by decide +kernel), ⟨in_aw 38 (by decide +kernel) (by decide +kernel), in_aw 327 (by decide +kernel) (by decide +kernel), by decide +kernel, by decide⟩⟩
theorem vX5_jobs : vM yX5_jobs cX5_jobs 1 (some .int) 0 := ⟨in_aw 333 (by decide +kernel) (by decide +kernel), in_aw 334 (by decide +kernel) (by decide +kernel), ⟨in_aw 38 (by decide +kernel) (by decide +kernel), in_aw 335 (by decide +kernel) (by decide +kernel), by decide +kernel, by decide⟩⟩
theorem vX5_job : vM yX5_job cX5_job 3 (some .int) 2 := ⟨in_aw 709 (by decide +kernel) (by decide +kernel), in_aw 710 (by decide +kernel) (by decide +kernel), ⟨in_aw 38 (by decide +kernel) (by decide +kernel), in_aw 711 (by decide +kernel) (by decide +kernel), by decide +kernel, by decide⟩⟩
theorem vX5_isStuck : vM yX5_isStuck cX5_isStuck 2 (some .boolean) 1 := ⟨in_aw 717 (by decide +kernel) (by decide +kernel), in_aw 718 (by decide +kernel) (by decide +kernel), ⟨in_aw 38 (by decide +kernel) (by decide +kernel), in_aw 719 (by decide +kernel) (by decide +kernel), by decide +kernel, by decide⟩⟩
theorem vX5_verdict : vM yX5_verdict cX5_verdict 3 (some .int) 2 := ⟨in_aw 725 (by decide +kernel) (by decide +kernel), in_aw 726 (by decide +kernel) (by decide +kernel), ⟨in_aw 38 (by decide +kernel) (by decide +kernel), in_aw 727 (by decide +kernel) (by decide +kernel), by decide +kernel, by decide⟩⟩
theorem vX5_nextJob : vM yX5_nextJob cX5_nextJob 1 (some .int) 0 := ⟨in_aw 337 (by decide +kernel) (by decide +kernel), in_aw 338 (by decide +kernel) (by decide +kernel), ⟨in_aw 38 (by decide +kernel) (by decide +kernel), in_aw 339 (by decide +kernel) (by decide +kernel), by decide +kernel, by decide⟩⟩
theorem vX5_nextReel : vM yX5_nextReel cX5_nextReel 2 (some .int) 0 := ⟨in_aw 357 (by decide +kernel) (by decide +kernel), in_aw 358 (by decide +kernel) (by decide +kernel), ⟨in_aw 38 (by decide +kernel) (by decide +kernel), in_aw 359 (by decide +kernel) (by decide +kernel), by decide +kernel, by decide⟩⟩
theorem vX5_minutesToDone : vM yX5_minutesToDone cX5_minutesToDone 3 (some .int) 1 := ⟨in_aw 734 (by decide +kernel) (by decide +kernel), in_aw 735 (by decide +kernel) (by decide +kernel), ⟨in_aw 38 (by decide +kernel) (by decide +kernel), in_aw 736 (by decide +kernel) (by decide +kernel), by decide +kernel, by decide⟩⟩
theorem vX5_count : vM yX5_count cX5_count 2 (some .int) 1 := ⟨in_aw 743 (by decide +kernel) (by decide +kernel), in_aw 744 (by decide +kernel) (by decide +kernel), ⟨in_aw 38 (by decide +kernel) (by decide +kernel), in_aw 745 (by decide +kernel) (by decide +kernel), by decide +kernel, by decide⟩⟩
theorem vX5_success : vM yX5_success cX5_success 1 (some .double) 0 := ⟨in_aw 373 (by decide +kernel) (by decide +kernel), in_aw 374 (by decide +kernel) (by decide +kernel), ⟨in_aw 38 (by decide +kernel) (by decide +kernel), in_aw 375 (by decide +kernel) (by decide +kernel), by decide +kernel, by decide⟩⟩
theorem vX5_savedStates : vM yX5_savedStates cX5_savedStates 1 (some .int) 0 := ⟨in_aw 377 (by decide +kernel) (by decide +kernel), in_aw 378 (by decide +kernel) (by decide +kernel), ⟨in_aw 38 (by decide +kernel) (by decide +kernel), in_aw 379 (by decide +kernel) (by decide +kernel), by decide +kernel, by decide⟩⟩
theorem vX5_textLength : vM yX5_textLength cX5_textLength 1 (some .int) 0 := ⟨in_aw 381 (by decide +kernel) (by decide +kernel), in_aw 382 (by decide +kernel) (by decide +kernel), ⟨in_aw 38 (by decide +kernel) (by decide +kernel), in_aw 383 (by decide +kernel) (by decide +kernel), by decide +kernel, by decide⟩⟩
theorem sX5_isWithin : sM yX5_isWithin cX5_isWithin 3 (some .boolean) 3 := ⟨in_aw 302 (by decide +kernel) (by decide +kernel), ⟨in_aw 38 (by decide +kernel) (by decide +kernel), in_aw 303 (by decide +kernel) (by decide +kernel), by decide +kernel, by decide⟩⟩
theorem sX5_isReel : sM yX5_isReel cX5_isReel 1 (some .boolean) 1 := ⟨in_aw 558 (by decide +kernel) (by decide +kernel), ⟨in_aw 38 (by decide +kernel) (by decide +kernel), in_aw 559 (by decide +kernel) (by decide +kernel), by decide +kernel, by decide⟩⟩
theorem iX6_init : iM yX6_init cX6_init 2 0 := ⟨in_aw 754 (by decide +kernel) (by decide +kernel), rfl, ⟨in_aw 44 (by decide +kernel) (by decide +kernel), in_aw 755 (by decide +kernel) (by decide +kernel), by decide +kernel, by decide⟩⟩
theorem vX6_thrown : vM yX6_thrown cX6_thrown 1 (some .int) 0 := ⟨in_aw 805 (by decide +kernel) (by decide +kernel), in_aw 806 (by decide +kernel) (by decide +kernel), ⟨in_aw 44 (by decide +kernel) (by decide +kernel), in_aw 807 (by decide +kernel) (by decide +kernel), by decide +kernel, by decide⟩⟩
theorem vX6_fails : vM yX6_fails cX6_fails 2 (some .int) 1 := ⟨in_aw 814 (by decide +kernel) (by decide +kernel), in_aw 3 (by decide +kernel) (by decide +kernel), ⟨in_aw 44 (by decide +kernel) (by decide +kernel), in_aw 815 (by decide +kernel) (by decide +kernel), by decide +kernel, by decide⟩⟩
theorem sX6_in : sM yX6_in cX6_in 3 (some .boolean) 3 := ⟨in_aw 824 (by decide +kernel) (by decide +kernel), ⟨in_aw 44 (by decide +kernel) (by decide +kernel), in_aw 825 (by decide +kernel) (by decide +kernel), by decide +kernel, by decide⟩⟩
theorem sX6_isReel : sM yX6_isReel cX6_isReel 1 (some .boolean) 1 := ⟨in_aw 875 (by decide +kernel) (by decide +kernel), ⟨in_aw 44 (by decide +kernel) (by decide +kernel), in_aw 876 (by decide +kernel) (by decide +kernel), by decide +kernel, by decide⟩⟩
theorem vX6_isJob : vM yX6_isJob cX6_isJob 2 (some .boolean) 1 := ⟨in_aw 864 (by decide +kernel) (by decide +kernel), in_aw 12 (by decide +kernel) (by decide +kernel), ⟨in_aw 44 (by decide +kernel) (by decide +kernel), in_aw 865 (by decide +kernel) (by decide +kernel), by decide +kernel, by decide⟩⟩
theorem vX6_of : vM yX6_of cX6_of 3 (some .int) 2 := ⟨in_aw 840 (by decide +kernel) (by decide +kernel), in_aw 7 (by decide +kernel) (by decide +kernel), ⟨in_aw 44 (by decide +kernel) (by decide +kernel), in_aw 841 (by decide +kernel) (by decide +kernel), by decide +kernel, by decide⟩⟩
theorem vX6_put : vM yX6_put cX6_put 4 none 3 := ⟨in_aw 759 (by decide +kernel) (by decide +kernel), in_aw 2 (by decide +kernel) (by decide +kernel), ⟨in_aw 44 (by decide +kernel) (by decide +kernel), in_aw 760 (by decide +kernel) (by decide +kernel), by decide +kernel, by decide⟩⟩
theorem vX6_ofJob : vM yX6_ofJob cX6_ofJob 3 (some .int) 2 := ⟨in_aw 844 (by decide +kernel) (by decide +kernel), in_aw 8 (by decide +kernel) (by decide +kernel), ⟨in_aw 44 (by decide +kernel) (by decide +kernel), in_aw 845 (by decide +kernel) (by decide +kernel), by decide +kernel, by decide⟩⟩
theorem vX6_putJob : vM yX6_putJob cX6_putJob 4 none 3 := ⟨in_aw 856 (by decide +kernel) (by decide +kernel), in_aw 11 (by decide +kernel) (by decide +kernel), ⟨in_aw 44 (by decide +kernel) (by decide +kernel), in_aw 857 (by decide +kernel) (by decide +kernel), by decide +kernel, by decide⟩⟩
theorem vX6_isOnShelf : vM yX6_isOnShelf cX6_isOnShelf 2 (some .boolean) 1 := ⟨in_aw 883 (by decide +kernel) (by decide +kernel), in_aw 14 (by decide +kernel) (by decide +kernel), ⟨in_aw 44 (by decide +kernel) (by decide +kernel), in_aw 884 (by decide +kernel) (by decide +kernel), by decide +kernel, by decide⟩⟩
theorem vX6_isScratch : vM yX6_isScratch cX6_isScratch 2 (some .boolean) 1 := ⟨in_aw 836 (by decide +kernel) (by decide +kernel), in_aw 6 (by decide +kernel) (by decide +kernel), ⟨in_aw 44 (by decide +kernel) (by decide +kernel), in_aw 837 (by decide +kernel) (by decide +kernel), by decide +kernel, by decide⟩⟩
theorem vX6_save : vM yX6_save cX6_save 2 none 0 := ⟨in_aw 848 (by decide +kernel) (by decide +kernel), in_aw 9 (by decide +kernel) (by decide +kernel), ⟨in_aw 44 (by decide +kernel) (by decide +kernel), in_aw 849 (by decide +kernel) (by decide +kernel), by decide +kernel, by decide⟩⟩
theorem vX6_undo : vM yX6_undo cX6_undo 2 (some .int) 0 := ⟨in_aw 809 (by decide +kernel) (by decide +kernel), in_aw 810 (by decide +kernel) (by decide +kernel), ⟨in_aw 44 (by decide +kernel) (by decide +kernel), in_aw 811 (by decide +kernel) (by decide +kernel), by decide +kernel, by decide⟩⟩
theorem vX6_found : vM yX6_found cX6_found 5 (some .int) 1 := ⟨in_aw 907 (by decide +kernel) (by decide +kernel), in_aw 19 (by decide +kernel) (by decide +kernel), ⟨in_aw 44 (by decide +kernel) (by decide +kernel), in_aw 908 (by decide +kernel) (by decide +kernel), by decide +kernel, by decide⟩⟩
theorem vX6_next : vM yX6_next cX6_next 4 (some .int) 0 := ⟨in_aw 903 (by decide +kernel) (by decide +kernel), in_aw 18 (by decide +kernel) (by decide +kernel), ⟨in_aw 44 (by decide +kernel) (by decide +kernel), in_aw 904 (by decide +kernel) (by decide +kernel), by decide +kernel, by decide⟩⟩
theorem vX6_isSlip : vM yX6_isSlip cX6_isSlip 2 (some .boolean) 1 := ⟨in_aw 923 (by decide +kernel) (by decide +kernel), in_aw 23 (by decide +kernel) (by decide +kernel), ⟨in_aw 44 (by decide +kernel) (by decide +kernel), in_aw 924 (by decide +kernel) (by decide +kernel), by decide +kernel, by decide⟩⟩
theorem vX6_after : vM yX6_after cX6_after 5 (some .int) 1 := ⟨in_aw 927 (by decide +kernel) (by decide +kernel), in_aw 24 (by decide +kernel) (by decide +kernel), ⟨in_aw 44 (by decide +kernel) (by decide +kernel), in_aw 928 (by decide +kernel) (by decide +kernel), by decide +kernel, by decide⟩⟩
theorem vX6_check : vM yX6_check cX6_check 5 (some .int) 2 := ⟨in_aw 931 (by decide +kernel) (by decide +kernel), in_aw 25 (by decide +kernel) (by decide +kernel), ⟨in_aw 44 (by decide +kernel) (by decide +kernel), in_aw 932 (by decide +kernel) (by decide +kernel), by decide +kernel, by decide⟩⟩
theorem vX6_onDrive : vM yX6_onDrive cX6_onDrive 4 (some .int) 1 := ⟨in_aw 915 (by decide +kernel) (by decide +kernel), in_aw 21 (by decide +kernel) (by decide +kernel), ⟨in_aw 44 (by decide +kernel) (by decide +kernel), in_aw 916 (by decide +kernel) (by decide +kernel), by decide +kernel, by decide⟩⟩
theorem vX6_emptyDrive : vM yX6_emptyDrive cX6_emptyDrive 3 (some .int) 0 := ⟨in_aw 911 (by decide +kernel) (by decide +kernel), in_aw 20 (by decide +kernel) (by decide +kernel), ⟨in_aw 44 (by decide +kernel) (by decide +kernel), in_aw 912 (by decide +kernel) (by decide +kernel), by decide +kernel, by decide⟩⟩
theorem vX6_mount : vM yX6_mount cX6_mount 4 none 3 := ⟨in_aw 935 (by decide +kernel) (by decide +kernel), in_aw 26 (by decide +kernel) (by decide +kernel), ⟨in_aw 44 (by decide +kernel) (by decide +kernel), in_aw 936 (by decide +kernel) (by decide +kernel), by decide +kernel, by decide⟩⟩
theorem vX6_serve : vM yX6_serve cX6_serve 4 none 2 := ⟨in_aw 919 (by decide +kernel) (by decide +kernel), in_aw 22 (by decide +kernel) (by decide +kernel), ⟨in_aw 44 (by decide +kernel) (by decide +kernel), in_aw 920 (by decide +kernel) (by decide +kernel), by decide +kernel, by decide⟩⟩
theorem vX6_takeOff : vM yX6_takeOff cX6_takeOff 2 none 1 := ⟨in_aw 868 (by decide +kernel) (by decide +kernel), in_aw 13 (by decide +kernel) (by decide +kernel), ⟨in_aw 44 (by decide +kernel) (by decide +kernel), in_aw 869 (by decide +kernel) (by decide +kernel), by decide +kernel, by decide⟩⟩
theorem vX6_isDoneNow : vM yX6_isDoneNow cX6_isDoneNow 3 (some .boolean) 1 := ⟨in_aw 899 (by decide +kernel) (by decide +kernel), in_aw 17 (by decide +kernel) (by decide +kernel), ⟨in_aw 44 (by decide +kernel) (by decide +kernel), in_aw 900 (by decide +kernel) (by decide +kernel), by decide +kernel, by decide⟩⟩
theorem vX6_minute : vM yX6_minute cX6_minute 4 (some .int) 0 := ⟨in_aw 895 (by decide +kernel) (by decide +kernel), in_aw 16 (by decide +kernel) (by decide +kernel), ⟨in_aw 44 (by decide +kernel) (by decide +kernel), in_aw 896 (by decide +kernel) (by decide +kernel), by decide +kernel, by decide⟩⟩
theorem vX6_passNow : vM yX6_passNow cX6_passNow 4 (some .int) 1 := ⟨in_aw 891 (by decide +kernel) (by decide +kernel), in_aw 15 (by decide +kernel) (by decide +kernel), ⟨in_aw 44 (by decide +kernel) (by decide +kernel), in_aw 892 (by decide +kernel) (by decide +kernel), by decide +kernel, by decide⟩⟩
theorem sX6_areRight : sM yX6_areRight cX6_areRight 4 (some .boolean) 4 := ⟨in_aw 821 (by decide +kernel) (by decide +kernel), ⟨in_aw 44 (by decide +kernel) (by decide +kernel), in_aw 822 (by decide +kernel) (by decide +kernel), by decide +kernel, by decide⟩⟩
theorem vX6_isKept : vM yX6_isKept cX6_isKept 4 (some .boolean) 1 := ⟨in_aw 832 (by decide +kernel) (by decide +kernel), in_aw 5 (by decide +kernel) (by decide +kernel), ⟨in_aw 44 (by decide +kernel) (by decide +kernel), in_aw 833 (by decide +kernel) (by decide +kernel), by decide +kernel, by decide⟩⟩
theorem vX6_canSubmit : vM yX6_canSubmit cX6_canSubmit 3 (some .boolean) 2 := ⟨in_aw 828 (by decide +kernel) (by decide +kernel), in_aw 4 (by decide +kernel) (by decide +kernel), ⟨in_aw 44 (by decide +kernel) (by decide +kernel), in_aw 829 (by decide +kernel) (by decide +kernel), by decide +kernel, by decide⟩⟩
theorem vX6_submitNow : vM yX6_submitNow cX6_submitNow 6 (some .int) 4 := ⟨in_aw 852 (by decide +kernel) (by decide +kernel), in_aw 10 (by decide +kernel) (by decide +kernel), ⟨in_aw 44 (by decide +kernel) (by decide +kernel), in_aw 853 (by decide +kernel) (by decide +kernel), by decide +kernel, by decide⟩⟩
theorem vX6_submit : vM yX6_submit cX6_submit 5 (some .int) 4 := ⟨in_aw 817 (by decide +kernel) (by decide +kernel), in_aw 818 (by decide +kernel) (by decide +kernel), ⟨in_aw 44 (by decide +kernel) (by decide +kernel), in_aw 819 (by decide +kernel) (by decide +kernel), by decide +kernel, by decide⟩⟩
theorem vX6_cancel : vM yX6_cancel cX6_cancel 2 (some .int) 1 := ⟨in_aw 859 (by decide +kernel) (by decide +kernel), in_aw 860 (by decide +kernel) (by decide +kernel), ⟨in_aw 44 (by decide +kernel) (by decide +kernel), in_aw 861 (by decide +kernel) (by decide +kernel), by decide +kernel, by decide⟩⟩
theorem vX6_setSticker : vM yX6_setSticker cX6_setSticker 4 (some .int) 2 := ⟨in_aw 871 (by decide +kernel) (by decide +kernel), in_aw 872 (by decide +kernel) (by decide +kernel), ⟨in_aw 44 (by decide +kernel) (by decide +kernel), in_aw 873 (by decide +kernel) (by decide +kernel), by decide +kernel, by decide⟩⟩
theorem vX6_setRing : vM yX6_setRing cX6_setRing 4 (some .boolean) 2 := ⟨in_aw 878 (by decide +kernel) (by decide +kernel), in_aw 879 (by decide +kernel) (by decide +kernel), ⟨in_aw 44 (by decide +kernel) (by decide +kernel), in_aw 880 (by decide +kernel) (by decide +kernel), by decide +kernel, by decide⟩⟩
theorem vX6_pass : vM yX6_pass cX6_pass 2 (some .int) 1 := ⟨in_aw 886 (by decide +kernel) (by decide +kernel), in_aw 887 (by decide +kernel) (by decide +kernel), ⟨in_aw 44 (by decide +kernel) (by decide +kernel), in_aw 888 (by decide +kernel) (by decide +kernel), by decide +kernel, by decide⟩⟩
theorem vX6_nextDay : vM yX6_nextDay cX6_nextDay 1 (some .int) 0 := ⟨in_aw 938 (by decide +kernel) (by decide +kernel), in_aw 939 (by decide +kernel) (by decide +kernel), ⟨in_aw 44 (by decide +kernel) (by decide +kernel), in_aw 940 (by decide +kernel) (by decide +kernel), by decide +kernel, by decide⟩⟩
theorem vX6_set : vM yX6_set cX6_set 4 (some .int) 2 := ⟨in_aw 942 (by decide +kernel) (by decide +kernel), in_aw 943 (by decide +kernel) (by decide +kernel), ⟨in_aw 44 (by decide +kernel) (by decide +kernel), in_aw 944 (by decide +kernel) (by decide +kernel), by decide +kernel, by decide⟩⟩
theorem vX6_appendText : vM yX6_appendText cX6_appendText 2 (some .int) 1 := ⟨in_aw 946 (by decide +kernel) (by decide +kernel), in_aw 947 (by decide +kernel) (by decide +kernel), ⟨in_aw 44 (by decide +kernel) (by decide +kernel), in_aw 948 (by decide +kernel) (by decide +kernel), by decide +kernel, by decide⟩⟩
theorem vX6_clearText : vM yX6_clearText cX6_clearText 2 (some .int) 0 := ⟨in_aw 950 (by decide +kernel) (by decide +kernel), in_aw 951 (by decide +kernel) (by decide +kernel), ⟨in_aw 44 (by decide +kernel) (by decide +kernel), in_aw 952 (by decide +kernel) (by decide +kernel), by decide +kernel, by decide⟩⟩
theorem vX6_sign : vM yX6_sign cX6_sign 1 (some .int) 0 := ⟨in_aw 967 (by decide +kernel) (by decide +kernel), in_aw 29 (by decide +kernel) (by decide +kernel), ⟨in_aw 44 (by decide +kernel) (by decide +kernel), in_aw 968 (by decide +kernel) (by decide +kernel), by decide +kernel, by decide⟩⟩
theorem vX6_takes : vM yX6_takes cX6_takes 3 (some .boolean) 1 := ⟨in_aw 979 (by decide +kernel) (by decide +kernel), in_aw 32 (by decide +kernel) (by decide +kernel), ⟨in_aw 44 (by decide +kernel) (by decide +kernel), in_aw 980 (by decide +kernel) (by decide +kernel), by decide +kernel, by decide⟩⟩
theorem vX6_readsNumber : vM yX6_readsNumber cX6_readsNumber 2 (some .boolean) 1 := ⟨in_aw 975 (by decide +kernel) (by decide +kernel), in_aw 31 (by decide +kernel) (by decide +kernel), ⟨in_aw 44 (by decide +kernel) (by decide +kernel), in_aw 976 (by decide +kernel) (by decide +kernel), by decide +kernel, by decide⟩⟩
theorem vX6_readsJob : vM yX6_readsJob cX6_readsJob 2 (some .boolean) 0 := ⟨in_aw 971 (by decide +kernel) (by decide +kernel), in_aw 30 (by decide +kernel) (by decide +kernel), ⟨in_aw 44 (by decide +kernel) (by decide +kernel), in_aw 972 (by decide +kernel) (by decide +kernel), by decide +kernel, by decide⟩⟩
theorem vX6_readsMinutes : vM yX6_readsMinutes cX6_readsMinutes 2 (some .boolean) 0 := ⟨in_aw 983 (by decide +kernel) (by decide +kernel), in_aw 33 (by decide +kernel) (by decide +kernel), ⟨in_aw 44 (by decide +kernel) (by decide +kernel), in_aw 984 (by decide +kernel) (by decide +kernel), by decide +kernel, by decide⟩⟩
theorem vX6_readsCommand : vM yX6_readsCommand cX6_readsCommand 4 (some .boolean) 0 := ⟨in_aw 963 (by decide +kernel) (by decide +kernel), in_aw 28 (by decide +kernel) (by decide +kernel), ⟨in_aw 44 (by decide +kernel) (by decide +kernel), in_aw 964 (by decide +kernel) (by decide +kernel), by decide +kernel, by decide⟩⟩
theorem vX6_isValid : vM yX6_isValid cX6_isValid 2 (some .boolean) 0 := ⟨in_aw 959 (by decide +kernel) (by decide +kernel), in_aw 27 (by decide +kernel) (by decide +kernel), ⟨in_aw 44 (by decide +kernel) (by decide +kernel), in_aw 960 (by decide +kernel) (by decide +kernel), by decide +kernel, by decide⟩⟩
theorem vX6_errorPosition : vM yX6_errorPosition cX6_errorPosition 1 (some .int) 0 := ⟨in_aw 954 (by decide +kernel) (by decide +kernel), in_aw 955 (by decide +kernel) (by decide +kernel), ⟨in_aw 44 (by decide +kernel) (by decide +kernel), in_aw 956 (by decide +kernel) (by decide +kernel), by decide +kernel, by decide⟩⟩
theorem sX6_kindOf : sM yX6_kindOf cX6_kindOf 1 (some .int) 1 := ⟨in_aw 994 (by decide +kernel) (by decide +kernel), ⟨in_aw 44 (by decide +kernel) (by decide +kernel), in_aw 995 (by decide +kernel) (by decide +kernel), by decide +kernel, by decide⟩⟩
theorem vX6_isCarriedOut : vM yX6_isCarriedOut cX6_isCarriedOut 4 (some .boolean) 1 := ⟨in_aw 991 (by decide +kernel) (by decide +kernel), in_aw 34 (by decide +kernel) (by decide +kernel), ⟨in_aw 44 (by decide +kernel) (by decide +kernel), in_aw 992 (by decide +kernel) (by decide +kernel), by decide +kernel, by decide⟩⟩
theorem vX6_runText : vM yX6_runText cX6_runText 2 (some .int) 0 := ⟨in_aw 986 (by decide +kernel) (by decide +kernel), in_aw 987 (by decide +kernel) (by decide +kernel), ⟨in_aw 44 (by decide +kernel) (by decide +kernel), in_aw 988 (by decide +kernel) (by decide +kernel), by decide +kernel, by decide⟩⟩
theorem vX6_reel : vM yX6_reel cX6_reel 3 (some .int) 2 := ⟨in_aw 997 (by decide +kernel) (by decide +kernel), in_aw 998 (by decide +kernel) (by decide +kernel), ⟨in_aw 44 (by decide +kernel) (by decide +kernel), in_aw 999 (by decide +kernel) (by decide +kernel), by decide +kernel, by decide⟩⟩
theorem vX6_reelOn : vM yX6_reelOn cX6_reelOn 2 (some .int) 1 := ⟨in_aw 1001 (by decide +kernel) (by decide +kernel), in_aw 1002 (by decide +kernel) (by decide +kernel), ⟨in_aw 44 (by decide +kernel) (by decide +kernel), in_aw 1003 (by decide +kernel) (by decide +kernel), by decide +kernel, by decide⟩⟩
theorem vX6_scratchReels : vM yX6_scratchReels cX6_scratchReels 3 (some .int) 0 := ⟨in_aw 1005 (by decide +kernel) (by decide +kernel), in_aw 1006 (by decide +kernel) (by decide +kernel), ⟨in_aw 44 (by decide +kernel) (by decide +kernel), in_aw 1007 (by decide +kernel) (by decide +kernel), by decide +kernel, by decide⟩⟩
theorem vX6_jobs : vM yX6_jobs cX6_jobs 1 (some .int) 0 := ⟨in_aw 1009 (by decide +kernel) (by decide +kernel), in_aw 1010 (by decide +kernel) (by decide +kernel), ⟨in_aw 44 (by decide +kernel) (by decide +kernel), in_aw 1011 (by decide +kernel) (by decide +kernel), by decide +kernel, by decide⟩⟩
theorem vX6_job : vM yX6_job cX6_job 3 (some .int) 2 := ⟨in_aw 1013 (by decide +kernel) (by decide +kernel), in_aw 1014 (by decide +kernel) (by decide +kernel), ⟨in_aw 44 (by decide +kernel) (by decide +kernel), in_aw 1015 (by decide +kernel) (by decide +kernel), by decide +kernel, by decide⟩⟩
theorem vX6_isStuck : vM yX6_isStuck cX6_isStuck 2 (some .boolean) 1 := ⟨in_aw 1017 (by decide +kernel) (by decide +kernel), in_aw 1018 (by decide +kernel) (by decide +kernel), ⟨in_aw 44 (by decide +kernel) (by decide +kernel), in_aw 1019 (by decide +kernel) (by decide +kernel), by decide +kernel, by decide⟩⟩
theorem vX6_verdict : vM yX6_verdict cX6_verdict 3 (some .int) 2 := ⟨in_aw 1021 (by decide +kernel) (by decide +kernel), in_aw 1022 (by decide +kernel) (by decide +kernel), ⟨in_aw 44 (by decide +kernel) (by decide +kernel), in_aw 1023 (by decide +kernel) (by decide +kernel), by decide +kernel, by decide⟩⟩
theorem vX6_nextJob : vM yX6_nextJob cX6_nextJob 1 (some .int) 0 := ⟨in_aw 1025 (by decide +kernel) (by decide +kernel), in_aw 1026 (by decide +kernel) (by decide +kernel), ⟨in_aw 44 (by decide +kernel) (by decide +kernel), in_aw 1027 (by decide +kernel) (by decide +kernel), by decide +kernel, by decide⟩⟩
theorem vX6_nextReel : vM yX6_nextReel cX6_nextReel 2 (some .int) 0 := ⟨in_aw 1029 (by decide +kernel) (by decide +kernel), in_aw 1030 (by decide +kernel) (by decide +kernel), ⟨in_aw 44 (by decide +kernel) (by decide +kernel), in_aw 1031 (by decide +kernel) (by decide +kernel), by decide +kernel, by decide⟩⟩
theorem vX6_minutesTo : vM yX6_minutesTo cX6_minutesTo 5 (some .int) 1 := ⟨in_aw 1038 (by decide +kernel) (by decide +kernel), in_aw 35 (by decide +kernel) (by decide +kernel), ⟨in_aw 44 (by decide +kernel) (by decide +kernel), in_aw 1039 (by decide +kernel) (by decide +kernel), by decide +kernel, by decide⟩⟩
theorem vX6_minutesToDone : vM yX6_minutesToDone cX6_minutesToDone 2 (some .int) 1 := ⟨in_aw 1033 (by decide +kernel) (by decide +kernel), in_aw 1034 (by decide +kernel) (by decide +kernel), ⟨in_aw 44 (by decide +kernel) (by decide +kernel), in_aw 1035 (by decide +kernel) (by decide +kernel), by decide +kernel, by decide⟩⟩
theorem vX6_with : vM yX6_with cX6_with 4 (some .int) 1 := ⟨in_aw 1046 (by decide +kernel) (by decide +kernel), in_aw 36 (by decide +kernel) (by decide +kernel), ⟨in_aw 44 (by decide +kernel) (by decide +kernel), in_aw 1047 (by decide +kernel) (by decide +kernel), by decide +kernel, by decide⟩⟩
theorem vX6_count : vM yX6_count cX6_count 2 (some .int) 1 := ⟨in_aw 1041 (by decide +kernel) (by decide +kernel), in_aw 1042 (by decide +kernel) (by decide +kernel), ⟨in_aw 44 (by decide +kernel) (by decide +kernel), in_aw 1043 (by decide +kernel) (by decide +kernel), by decide +kernel, by decide⟩⟩
theorem vX6_success : vM yX6_success cX6_success 1 (some .double) 0 := ⟨in_aw 1049 (by decide +kernel) (by decide +kernel), in_aw 1050 (by decide +kernel) (by decide +kernel), ⟨in_aw 44 (by decide +kernel) (by decide +kernel), in_aw 1051 (by decide +kernel) (by decide +kernel), by decide +kernel, by decide⟩⟩
theorem vX6_savedStates : vM yX6_savedStates cX6_savedStates 1 (some .int) 0 := ⟨in_aw 1053 (by decide +kernel) (by decide +kernel), in_aw 1054 (by decide +kernel) (by decide +kernel), ⟨in_aw 44 (by decide +kernel) (by decide +kernel), in_aw 1055 (by decide +kernel) (by decide +kernel), by decide +kernel, by decide⟩⟩
theorem vX6_textLength : vM yX6_textLength cX6_textLength 1 (some .int) 0 := ⟨in_aw 1057 (by decide +kernel) (by decide +kernel), in_aw 1058 (by decide +kernel) (by decide +kernel), ⟨in_aw 44 (by decide +kernel) (by decide +kernel), in_aw 1059 (by decide +kernel) (by decide +kernel), by decide +kernel, by decide⟩⟩
theorem sJ9_floorMod_7cf53 : sM yJ9_floorMod_7cf53 cJ9_floorMod_7cf53 3 (some .int) 2 := ⟨in_aw 516 (by decide +kernel) (by decide +kernel), ⟨in_aw 51 (by decide +kernel) (by decide +kernel), in_aw 517 (by decide +kernel) (by decide +kernel), by decide +kernel, by decide⟩⟩
end
section
/-! THE STATE: what a room is (columns 0..5 of reels, 6..13 of jobs, 14: numbers), the cells of a room and of the reference -/
abbrev St : Type := Nat → Nat → Int32
def setS (R : St) (c j : Nat) (v : Int32) : St := va_up R c (upd (R c) j v)
theorem setS_eq (R : St) (c j : Nat) (v : Int32) : setS R c j v c j = v := by simp [setS, va_up, upd]
theorem setS_c (R : St) {c c' : Nat} (j : Nat) (v : Int32) (h : c' ≠ c) (j' : Nat) : setS R c j v c' j' = R c' j' := by simp [setS, va_up, h]
theorem setS_j (R : St) (c : Nat) {j j' : Nat} (v : Int32) (h : j' ≠ j) : setS R c j v c j' = R c j' := by simp [setS, va_up, upd, h]
theorem setS_at (R : St) (c j : Nat) (v : Int32) (c' j' : Nat) : setS R c j v c' j' = if c' = c ∧ j' = j then v else R c' j' := by
  by_cases h1 : c' = c
  · subst h1
    by_cases h2 : j' = j
    · subst h2; simp [setS_eq]
    · simp [setS_j R c' v h2, h2]
  · simp [setS_c R j v h1, h1]
theorem setS_ss (R : St) (c j : Nat) (v v' : Int32) : setS (setS R c j v) c j v' = setS R c j v' := by
  funext a b; simp only [setS_at]; split <;> simp_all
theorem setS_comm (R : St) {c j c' j' : Nat} (v v' : Int32) (h : c ≠ c' ∨ j ≠ j') : setS (setS R c j v) c' j' v' = setS (setS R c' j' v') c j v := by
  funext a b; simp only [setS_at]; split <;> split <;> simp_all
/-- the reference's row -/
def flat (R : St) (q : Nat) : Int32 := if q < 10 then R 14 q else if q < 82 then R ((q - 10) % 6) ((q - 10) / 6) else if q = 82 then R 14 10 else R (6 + (q - 83) % 8) ((q - 83) / 8)
theorem flat_reel (R : St) {r w : Nat} (hr : r < 12) (hw : w < 6) : flat R (10 + 6 * r + w) = R w r := by
  unfold flat
  rw [if_neg (by omega), if_pos (by omega), show (10 + 6 * r + w - 10) % 6 = w by omega, show (10 + 6 * r + w - 10) / 6 = r by omega]
theorem flat_job (R : St) {j w : Nat} (hw : w < 8) : flat R (83 + 8 * j + w) = R (6 + w) j := by
  unfold flat
  rw [if_neg (by omega), if_neg (by omega), if_neg (by omega), show (83 + 8 * j + w - 83) % 8 = w by omega, show (83 + 8 * j + w - 83) / 8 = j by omega]
theorem flat_num (R : St) {k : Nat} (hk : k < 10) : flat R k = R 14 k := by
  unfold flat; rw [if_pos hk]
theorem flat_82 (R : St) : flat R 82 = R 14 10 := by
  unfold flat; simp
theorem flat_set_reel (R : St) {r w : Nat} (hr : r < 12) (hw : w < 6) (v : Int32) : upd (flat R) (10 + 6 * r + w) v = flat (setS R w r v) := by
  funext q
  simp only [upd, flat, setS_at]
  repeat' split
  all_goals first | rfl | omega | (exfalso; omega)
theorem flat_set_job (R : St) {j w : Nat} (hw : w < 8) (v : Int32) : upd (flat R) (83 + 8 * j + w) v = flat (setS R (6 + w) j v) := by
  funext q
  simp only [upd, flat, setS_at]
  repeat' split
  all_goals first | rfl | omega | (exfalso; omega)
theorem flat_set_num (R : St) {k : Nat} (hk : k < 10) (v : Int32) : upd (flat R) k v = flat (setS R 14 k v) := by
  funext q
  by_cases h : q = k
  · subst h
    rw [flat_num _ hk, setS_eq]
    simp [upd]
  · simp only [upd, if_neg h, flat]
    rw [setS_j R 14 v h, setS_c R k v (show (q - 10) % 6 ≠ 14 by omega), setS_c R k v (show 6 + (q - 83) % 8 ≠ 14 by omega), setS_j R 14 v (show 10 ≠ k by omega)]
theorem flat_set_82 (R : St) (v : Int32) : upd (flat R) 82 v = flat (setS R 14 10 v) := by
  funext q
  by_cases h : q = 82
  · subst h
    rw [flat_82, setS_eq]
    simp [upd]
  · simp only [upd, if_neg h, flat]
    by_cases h1 : q < 10
    · rw [if_pos h1, if_pos h1, setS_j R 14 v (show q ≠ 10 by omega)]
    · rw [setS_c R 10 v (show (q - 10) % 6 ≠ 14 by omega), setS_c R 10 v (show 6 + (q - 83) % 8 ≠ 14 by omega), if_neg h1, if_neg h1]
/-- the cells of a room: the room, its reels, its jobs, six columns, eight columns -/
def rW (i : Nat → ClassId) (a : Nat → Nat) (R : St) : va_W :=
  [(a 0, .inr (4, [.ref (a 1), .ref (a 2), .int (R 14 0), .int (R 14 8), .int (R 14 9), .int (R 14 1), .int (R 14 2), .int (R 14 3), .int (R 14 4), .int (R 14 5), .int (R 14 6), .int (R 14 7)])),
   (a 1, .inr (3, [.ref (a 3), .ref (a 4), .ref (a 5), .ref (a 6), .ref (a 7), .ref (a 8)])),
   (a 2, .inr (2, [.ref (a 9), .ref (a 10), .ref (a 11), .ref (a 12), .ref (a 13), .ref (a 14), .ref (a 15), .ref (a 16), .int (R 14 10)])),
   (a 3, .inl (i 0, 12, .inl (R 0))), (a 4, .inl (i 0, 12, .inl (R 1))), (a 5, .inl (i 1, 12, .inl (R 2))), (a 6, .inl (i 0, 12, .inl (R 3))), (a 7, .inl (i 0, 12, .inl (R 4))), (a 8, .inl (i 0, 12, .inl (R 5))),
   (a 9, .inl (i 0, 12, .inl (R 6))), (a 10, .inl (i 0, 12, .inl (R 7))), (a 11, .inl (i 0, 12, .inl (R 8))), (a 12, .inl (i 0, 12, .inl (R 9))), (a 13, .inl (i 0, 12, .inl (R 10))), (a 14, .inl (i 0, 12, .inl (R 11))), (a 15, .inl (i 0, 12, .inl (R 12))), (a 16, .inl (i 0, 12, .inl (R 13)))]
/-- the cells of the reference: F 0 saved, 1 aside, 2 text, 3 letter, 4 one, 5 two, 6 three; V 0 savedMany, 1 thrown, 2 length, 3 spot, 4 number, 5 commands -/
def mW (i : Nat → ClassId) (b : Nat → Nat) (R : St) (F : Nat → Nat → Int32) (V : Nat → Int32) : va_W :=
  [(b 0, .inr (6, [.ref (b 1), .ref (b 2), .int (V 0), .ref (b 3), .int (V 1), .ref (b 4), .int (V 2), .int (V 3), .int (V 4), .int (V 5), .ref (b 5), .ref (b 6), .ref (b 7), .ref (b 8)])),
   (b 1, .inl (i 0, 179, .inl (flat R))), (b 2, .inl (i 0, 1074, .inl (F 0))), (b 3, .inl (i 0, 179, .inl (F 1))), (b 4, .inl (i 0, 80, .inl (F 2))), (b 5, .inl (i 0, 48, .inl (F 3))), (b 6, .inl (i 0, 48, .inl (F 4))), (b 7, .inl (i 0, 48, .inl (F 5))), (b 8, .inl (i 0, 48, .inl (F 6)))]
section RW
variable {i : Nat → ClassId} {a : Nat → Nat} {R : St} {j : Nat} {v : Int32}
theorem rW_0 : (rW i a R).set 3 (a 3, .inl (i 0, 12, .inl (upd (R 0) j v))) = rW i a (setS R 0 j v) := rfl
theorem rW_1 : (rW i a R).set 4 (a 4, .inl (i 0, 12, .inl (upd (R 1) j v))) = rW i a (setS R 1 j v) := rfl
theorem rW_2 : (rW i a R).set 5 (a 5, .inl (i 1, 12, .inl (upd (R 2) j v))) = rW i a (setS R 2 j v) := rfl
theorem rW_3 : (rW i a R).set 6 (a 6, .inl (i 0, 12, .inl (upd (R 3) j v))) = rW i a (setS R 3 j v) := rfl
theorem rW_4 : (rW i a R).set 7 (a 7, .inl (i 0, 12, .inl (upd (R 4) j v))) = rW i a (setS R 4 j v) := rfl
theorem rW_5 : (rW i a R).set 8 (a 8, .inl (i 0, 12, .inl (upd (R 5) j v))) = rW i a (setS R 5 j v) := rfl
theorem rW_6 : (rW i a R).set 9 (a 9, .inl (i 0, 12, .inl (upd (R 6) j v))) = rW i a (setS R 6 j v) := rfl
theorem rW_7 : (rW i a R).set 10 (a 10, .inl (i 0, 12, .inl (upd (R 7) j v))) = rW i a (setS R 7 j v) := rfl
theorem rW_8 : (rW i a R).set 11 (a 11, .inl (i 0, 12, .inl (upd (R 8) j v))) = rW i a (setS R 8 j v) := rfl
theorem rW_9 : (rW i a R).set 12 (a 12, .inl (i 0, 12, .inl (upd (R 9) j v))) = rW i a (setS R 9 j v) := rfl
theorem rW_10 : (rW i a R).set 13 (a 13, .inl (i 0, 12, .inl (upd (R 10) j v))) = rW i a (setS R 10 j v) := rfl
theorem rW_11 : (rW i a R).set 14 (a 14, .inl (i 0, 12, .inl (upd (R 11) j v))) = rW i a (setS R 11 j v) := rfl
theorem rW_12 : (rW i a R).set 15 (a 15, .inl (i 0, 12, .inl (upd (R 12) j v))) = rW i a (setS R 12 j v) := rfl
theorem rW_13 : (rW i a R).set 16 (a 16, .inl (i 0, 12, .inl (upd (R 13) j v))) = rW i a (setS R 13 j v) := rfl
theorem rW_n (f : Nat) (k : Nat) (h : (f = 2 ∧ k = 0) ∨ (f = 3 ∧ k = 8) ∨ (f = 4 ∧ k = 9) ∨ (f = 5 ∧ k = 1) ∨ (f = 6 ∧ k = 2) ∨ (f = 7 ∧ k = 3) ∨ (f = 8 ∧ k = 4) ∨ (f = 9 ∧ k = 5) ∨ (f = 10 ∧ k = 6) ∨ (f = 11 ∧ k = 7)) : (rW i a R).set 0 (a 0, .inr (4, ([.ref (a 1), .ref (a 2), .int (R 14 0), .int (R 14 8), .int (R 14 9), .int (R 14 1), .int (R 14 2), .int (R 14 3), .int (R 14 4), .int (R 14 5), .int (R 14 6), .int (R 14 7)] : List Value).set f (.int v))) = rW i a (setS R 14 k v) := by
  rcases h with ⟨rfl, rfl⟩ | ⟨rfl, rfl⟩ | ⟨rfl, rfl⟩ | ⟨rfl, rfl⟩ | ⟨rfl, rfl⟩ | ⟨rfl, rfl⟩ | ⟨rfl, rfl⟩ | ⟨rfl, rfl⟩ | ⟨rfl, rfl⟩ | ⟨rfl, rfl⟩ <;> rfl
theorem rW_num : (rW i a R).set 2 (a 2, .inr (2, ([.ref (a 9), .ref (a 10), .ref (a 11), .ref (a 12), .ref (a 13), .ref (a 14), .ref (a 15), .ref (a 16), .int (R 14 10)] : List Value).set 8 (.int v))) = rW i a (setS R 14 10 v) := rfl
end RW
section MW
variable {i : Nat → ClassId} {b : Nat → Nat} {R : St} {F : Nat → Nat → Int32} {V : Nat → Int32} {j q : Nat} {v : Int32}
theorem mW_reel {r w : Nat} (hr : r < 12) (hw : w < 6) (hq : q = 10 + 6 * r + w) : (mW i b R F V).set 1 (b 1, .inl (i 0, 179, .inl (upd (flat R) q v))) = mW i b (setS R w r v) F V := by
  subst hq; rw [flat_set_reel R hr hw]; rfl
theorem mW_job {w : Nat} (hw : w < 8) (hq : q = 83 + 8 * j + w) : (mW i b R F V).set 1 (b 1, .inl (i 0, 179, .inl (upd (flat R) q v))) = mW i b (setS R (6 + w) j v) F V := by
  subst hq; rw [flat_set_job R hw]; rfl
theorem mW_n (hk : q < 10) : (mW i b R F V).set 1 (b 1, .inl (i 0, 179, .inl (upd (flat R) q v))) = mW i b (setS R 14 q v) F V := by
  rw [flat_set_num R hk]; rfl
theorem mW_82 : (mW i b R F V).set 1 (b 1, .inl (i 0, 179, .inl (upd (flat R) 82 v))) = mW i b (setS R 14 10 v) F V := by
  rw [flat_set_82 R]; rfl
theorem mW_F0 : (mW i b R F V).set 2 (b 2, .inl (i 0, 1074, .inl (upd (F 0) j v))) = mW i b R (setS F 0 j v) V := rfl
theorem mW_F1 : (mW i b R F V).set 3 (b 3, .inl (i 0, 179, .inl (upd (F 1) j v))) = mW i b R (setS F 1 j v) V := rfl
theorem mW_F2 : (mW i b R F V).set 4 (b 4, .inl (i 0, 80, .inl (upd (F 2) j v))) = mW i b R (setS F 2 j v) V := rfl
theorem mW_F3 : (mW i b R F V).set 5 (b 5, .inl (i 0, 48, .inl (upd (F 3) j v))) = mW i b R (setS F 3 j v) V := rfl
theorem mW_F4 : (mW i b R F V).set 6 (b 6, .inl (i 0, 48, .inl (upd (F 4) j v))) = mW i b R (setS F 4 j v) V := rfl
theorem mW_F5 : (mW i b R F V).set 7 (b 7, .inl (i 0, 48, .inl (upd (F 5) j v))) = mW i b R (setS F 5 j v) V := rfl
theorem mW_F6 : (mW i b R F V).set 8 (b 8, .inl (i 0, 48, .inl (upd (F 6) j v))) = mW i b R (setS F 6 j v) V := rfl
theorem mW_V (f k : Nat) (h : (f = 2 ∧ k = 0) ∨ (f = 4 ∧ k = 1) ∨ (f = 6 ∧ k = 2) ∨ (f = 7 ∧ k = 3) ∨ (f = 8 ∧ k = 4) ∨ (f = 9 ∧ k = 5)) : (mW i b R F V).set 0 (b 0, .inr (6, ([.ref (b 1), .ref (b 2), .int (V 0), .ref (b 3), .int (V 1), .ref (b 4), .int (V 2), .int (V 3), .int (V 4), .int (V 5), .ref (b 5), .ref (b 6), .ref (b 7), .ref (b 8)] : List Value).set f (.int v))) = mW i b R F (upd V k v) := by
  rcases h with ⟨rfl, rfl⟩ | ⟨rfl, rfl⟩ | ⟨rfl, rfl⟩ | ⟨rfl, rfl⟩ | ⟨rfl, rfl⟩ | ⟨rfl, rfl⟩ <;> rfl
end MW
/-! booleans -/
def bI (b : Bool) : Int32 := if b = true then 1 else 0
theorem bI_0 {b : Bool} : bI b = 0 ↔ b = false := by cases b <;> decide
theorem bI_n {b : Bool} : ¬ bI b = 0 ↔ b = true := by cases b <;> decide
theorem bI_t {b : Bool} (h : b = true) : (1 : Int32) = bI b := by subst h; rfl
theorem bI_f {b : Bool} (h : b = false) : (0 : Int32) = bI b := by subst h; rfl
theorem bI_nar (b : Bool) : narrow .boolean (.int (bI b)) = .int (bI b) := by cases b <;> rfl
theorem bI_vnar (b : Bool) : vp_nar .boolean (bI b) = bI b := by cases b <;> rfl
/-- the least number of i .. i + k - 1 with p, or -1 -/
def fst_ (p : Nat → Bool) : Nat → Nat → Int32
  | _, 0 => -1
  | i, k + 1 => if p i = true then nI i else fst_ p (i + 1) k
/-! calls of what is known whole -/
def isCtx (K : va_W → va_W) : Prop := ∃ pre suf : va_W, ∀ w, K w = pre ++ (w ++ suf)
theorem isCtx_id : isCtx (fun w => w) := ⟨[], [], fun w => by simp⟩
section ZG
variable {g : zG} {C : zC} {cc : ByteArray} {own : String} {d mc ms k n : Nat} {ws : va_W} {lv : List (Nat × Value)} {pc : Nat} {st rest : List Value}
variable {y : MethodName} {cy : ByteArray} {nl d' np idx b : Nat} {ret : FieldType} {As : List Value} {w w' : va_W} {val : Int32}
theorem z_g (hC : zOK g C cc own d mc ms) (hy : vM y cy nl (some ret) np) (hl : Cond.methodLink own idx y ∈ aw) (hdg : decode cc pc = .ok (.invokevirtual idx, 3)) (hM : Gi g y cy nl ret d' (.ref b :: As) w val w') (K : va_W → va_W) (hK : isCtx K) (hw : ws = K w) (q0 ci : Nat) {fs : List Value} {r : vw_C} (he : w[q0]? = some (b, .inr (ci, fs))) (hr : vwCl[ci]? = some r) (hR : r.1 = y.cls)
    (hn : As.length = np) (hst : st = As.reverse ++ .ref b :: rest) (hd : d' + 1 ≤ d) (hcat : (rest.map fun v => v.category).sum ≤ 8) (hk : k ≤ mc ∧ n ≤ ms)
    (kk : Z g C k n (K w') lv (pc + 3) (.int val :: rest)) : Z g C k n ws lv pc st := by
  obtain ⟨pre, suf, hKw⟩ := hK
  rw [hKw] at hw kk
  exact z_vi hC hy hl hdg hM pre suf hw q0 ci he hr hR hn hst hd hcat hk (fun r u e => by subst e; exact kk)
theorem z_gv (hC : zOK g C cc own d mc ms) (hy : vM y cy nl none np) (hl : Cond.methodLink own idx y ∈ aw) (hdg : decode cc pc = .ok (.invokevirtual idx, 3)) (hM : Gv g y cy nl d' (.ref b :: As) w w') (K : va_W → va_W) (hK : isCtx K) (hw : ws = K w) (q0 ci : Nat) {fs : List Value} {r : vw_C} (he : w[q0]? = some (b, .inr (ci, fs))) (hr : vwCl[ci]? = some r) (hR : r.1 = y.cls)
    (hn : As.length = np) (hst : st = As.reverse ++ .ref b :: rest) (hd : d' + 1 ≤ d) (hcat : (rest.map fun v => v.category).sum ≤ 8) (hk : k ≤ mc ∧ n ≤ ms)
    (kk : Z g C k n (K w') lv (pc + 3) rest) : Z g C k n ws lv pc st := by
  obtain ⟨pre, suf, hKw⟩ := hK
  rw [hKw] at hw kk
  exact z_vv hC hy hl hdg hM pre suf hw q0 ci he hr hR hn hst hd hcat hk (fun u _ => kk)
/-- a static method of numbers alone -/
theorem z_gs (hC : zOK g C cc own d mc ms) (hy : sM y cy nl (some ret) np) (hl : Cond.methodLink own idx y ∈ aw) (hdg : decode cc pc = .ok (.invokestatic idx, 3)) (hM : Gi g y cy nl ret d' As [] val [])
    (hn : As.length = np) (hst : st = As.reverse ++ rest) (hd : d' + 1 ≤ d) (hcat : (rest.map fun v => v.category).sum ≤ 8) (hk : k ≤ mc ∧ n ≤ ms)
    (kk : Z g C k n ws lv (pc + 3) (.int val :: rest)) : Z g C k n ws lv pc st :=
  z_si hC hy hl hdg hM [] ws rfl hn hst hd hcat hk (fun r u e => by subst e; exact kk)
theorem z_gsN (hC : zOK g C cc own d mc ms) (hy : sM y cy nl (some ret) np) {host : String} (hl : Cond.methodLinkNest own idx y host ∈ aN) (hdg : decode cc pc = .ok (.invokestatic idx, 3)) (hM : Gi g y cy nl ret d' As [] val [])
    (hn : As.length = np) (hst : st = As.reverse ++ rest) (hd : d' + 1 ≤ d) (hcat : (rest.map fun v => v.category).sum ≤ 8) (hk : k ≤ mc ∧ n ≤ ms)
    (kk : Z g C k n ws lv (pc + 3) (.int val :: rest)) : Z g C k n ws lv pc st :=
  z_siN hC hy hl hdg hM [] ws rfl hn hst hd hcat hk (fun r u e => by subst e; exact kk)
end ZG
end
section
/-! WHAT THE ROOM DOES, as functions of its state -/
def inB (x y z : Int32) : Bool := decide (y ≤ x) && decide (x ≤ z)
theorem inB_1 {x y z : Int32} (h : x < y) : 0 = bI (inB x y z) := bI_f (by simp [inB, Int32.not_le.mpr h])
theorem inB_2 {x y z : Int32} (h : z < x) : 0 = bI (inB x y z) := bI_f (by simp [inB, Int32.not_le.mpr h])
theorem inB_3 {x y z : Int32} (h : ¬ x < y) (h2 : ¬ z < x) : 1 = bI (inB x y z) := bI_t (by simp [inB, Int32.not_lt.mp h, Int32.not_lt.mp h2])
theorem inB_iff {x y z : Int32} : inB x y z = true ↔ y ≤ x ∧ x ≤ z := by simp [inB]
def isReel (x : Int32) : Bool := inB x 0 11
def isJob (R : St) (x : Int32) : Bool := inB x 0 (R 14 10 - 1)
theorem dec_iff {p q : Prop} {hp : Decidable p} {hq : Decidable q} (h : p ↔ q) : @decide p hp = @decide q hq := by
  by_cases h1 : p
  · simp [h1, h.mp h1]
  · have h2 : ¬ q := fun z => h1 (h.mpr z)
    simp [h1, h2]
/-- numbers counted down -/
def dn : Nat → Int32
  | 0 => -1
  | k + 1 => nI k
theorem dn_step (k : Nat) : nI k + Int32.ofInt (-1) = dn k := by
  cases k with
  | zero => decide
  | succ k => exact pk_m1 k
theorem up_step (k : Nat) : nI k + Int32.ofInt 1 = nI (k + 1) := nI_1 k
theorem ofInt_1 : Int32.ofInt 1 = 1 := by decide
theorem dn_pred (k : Nat) : nI k - 1 = dn k := by
  cases k with
  | zero => decide
  | succ k => exact nI_pred k
theorem dn_0 : dn 0 < 0 := by decide
theorem nI_nlt0 {n : Nat} (h : n < 2 ^ 31) : ¬ nI n < 0 := nI_pos h
theorem nI_ne {n : Nat} (h : n < 2 ^ 31) : ¬ nI n = -1 := fun e => nI_pos h (by rw [e]; decide)
theorem nI_inj {a b : Nat} (ha : a < 2 ^ 31) (hb : b < 2 ^ 31) (h : nI a = nI b) : a = b := (nI_eq ha hb).mp h
/-- what fst_ finds -/
theorem fst_spec (p : Nat → Bool) : ∀ (k i : Nat), (fst_ p i k = -1 ∧ ∀ j, i ≤ j → j < i + k → p j = false) ∨ ∃ r, i ≤ r ∧ r < i + k ∧ fst_ p i k = nI r ∧ p r = true ∧ ∀ j, i ≤ j → j < r → p j = false
  | 0, i => Or.inl ⟨rfl, fun j h1 h2 => by omega⟩
  | k + 1, i => by
    by_cases h : p i = true
    · exact Or.inr ⟨i, Nat.le_refl _, by omega, by simp [fst_, h], h, fun j h1 h2 => by omega⟩
    · have e : fst_ p i (k + 1) = fst_ p (i + 1) k := by simp [fst_, h]
      have h' : p i = false := by simpa using h
      rcases fst_spec p k (i + 1) with ⟨h1, h2⟩ | ⟨r, h1, h2, h3, h4, h5⟩
      · refine Or.inl ⟨e.trans h1, fun j g1 g2 => ?_⟩
        rcases Nat.eq_or_lt_of_le g1 with rfl | g1
        · exact h'
        · exact h2 j g1 (by omega)
      · refine Or.inr ⟨r, by omega, by omega, e.trans h3, h4, fun j g1 g2 => ?_⟩
        rcases Nat.eq_or_lt_of_le g1 with rfl | g1
        · exact h'
        · exact h5 j g1 g2
/-- a reel on the shelf; scratch -/
def onSh (R : St) (r : Nat) : Bool := decide (R 5 r = -1)
def scr (R : St) (r : Nat) : Bool := decide (R 0 r = 0) || decide (R 3 r < R 14 0)
/-- the reel that is looked for -/
def sFind (R : St) (x : Int32) : Int32 := fst_ (fun r => onSh R r && decide (R 1 r = x)) 0 12
def want (R : St) (j : Nat) : Int32 := if R 6 j = 2 then 0 else R 7 j
def fnd (R : St) (j : Nat) : Int32 := sFind R (want R j)
/-- the next one behind a reel on the shelf -/
def aft (R : St) (x : Int32) : Int32 := if fst_ (fun q => onSh R q && decide (x < nI q)) 0 12 = -1 then fst_ (onSh R) 0 12 else fst_ (fun q => onSh R q && decide (x < nI q)) 0 12
def chk (R : St) (j r : Nat) : Int32 :=
  if ¬ R 6 j = 2 ∧ ¬ R 0 r = R 7 j then 1 else if R 6 j = 2 ∧ scr R r = false then 2 else if R 6 j = 0 ∧ R 2 r = 1 then 3 else if ¬ R 6 j = 0 ∧ R 2 r = 0 then 4 else 0
/-- the reel on a drive: the last of them (there is at most one) -/
def lst_ (p : Nat → Bool) : Nat → Int32
  | 0 => -1
  | k + 1 => if p k = true then nI k else lst_ p k
def onDr (R : St) (x : Int32) : Int32 := lst_ (fun r => decide (R 5 r = x)) 12
def edr (R : St) : Int32 := fst_ (fun d => decide (onDr R (nI d) = -1)) 0 3
/-- the next job -/
def elig (R : St) (j : Nat) : Bool := decide (R 10 j = 0) && decide (¬ fnd R j = -1)
/-- best of jobs j .. j + k - 1, by the one behind -/
def best (R : St) : Nat → Nat → Int32
  | _, 0 => -1
  | j, k + 1 => if elig R j = true ∧ (best R (j + 1) k = -1 ∨ R 9 (best R (j + 1) k).toNatClampNeg ≤ R 9 j) then nI j else best R (j + 1) k
def nxt (R : St) (n : Nat) : Int32 := best R 0 n
def slp (R : St) (m : Int32) : Bool := decide (¬ R 14 8 = 0) && decide (m - m / R 14 8 * R 14 8 = 0)
def mnt (R : St) (j r : Nat) (dr : Int32) : St :=
  if R 6 j = 2 then setS (setS (setS (setS (setS (setS (setS R 5 r dr) 10 j 1) 12 j (nI r)) 0 r (R 7 j)) 1 r (R 7 j)) 3 r (R 14 0 + R 14 9)) 4 r 0
  else setS (setS (setS R 5 r dr) 10 j 1) 12 j (nI r)
def sbk (R : St) (j r : Nat) : St := setS (setS (setS R 1 r (if scr R r = true then 0 else R 0 r)) 13 j (R 13 j + 1)) 14 4 (R 14 4 + 1)
/-- behind the choice of the reel r: checked, mounted or sent back -/
def srv2 (R : St) (j r : Nat) (dr : Int32) : St := if chk R j r = 0 then mnt R j r dr else sbk R j r
def srv (R : St) (j : Nat) (dr : Int32) : St :=
  if slp R (R 14 2 + 1) = true then srv2 (setS (setS R 14 2 (R 14 2 + 1)) 14 3 (R 14 3 + 1)) j (aft R (fnd R j)).toNatClampNeg dr
  else srv2 (setS (setS R 14 2 (R 14 2 + 1)) 2 (fnd R j).toNatClampNeg (if R 6 j = 0 then 0 else 1)) j (fnd R j).toNatClampNeg dr
def toff (R : St) (j r : Nat) : St := setS (setS R 5 r (-1)) 12 j (-1)
/-- a running job does a block -/
def blk (R : St) (j r : Nat) : St :=
  if R 6 j = 0 then setS (setS R 14 5 (R 14 5 + 1)) 11 j (R 11 j + 1)
  else if R 4 r = 99 then setS (setS R 14 7 (R 14 7 + 1)) 11 j (R 11 j + 1)
  else setS (setS (setS R 4 r (R 4 r + 1)) 14 6 (R 14 6 + 1)) 11 j (R 11 j + 1)
def rl (R : St) (j : Nat) : Nat := (R 12 j).toNatClampNeg
/-- a job's part of a minute; whether it becomes done -/
def stp (R : St) (j : Nat) : St × Int32 :=
  if R 10 j = 1 then
    (if R 11 j + 1 = R 8 j then (toff (setS (blk R j (rl R j)) 10 j 2) j (rl R j), 1) else (blk R j (rl R j), 0))
  else (R, 0)
def jl : Nat → Nat → St × Int32 → St × Int32
  | _, 0, s => s
  | j, k + 1, s => jl (j + 1) k ((stp s.1 j).1, s.2 + (stp s.1 j).2)
def sstep (R : St) (n : Nat) : St := if ¬ nxt R n = -1 ∧ ¬ edr R = -1 then srv R (nxt R n).toNatClampNeg (edr R) else R
def minu (R : St) (n : Nat) : St × Int32 := (setS (sstep (jl 0 n (R, 0)).1 n) 14 1 (sstep (jl 0 n (R, 0)).1 n 14 1 + 1), (jl 0 n (R, 0)).2)
def pas (n : Nat) : Nat → St × Int32 → St × Int32
  | 0, s => s
  | k + 1, s => pas n k ((minu s.1 n).1, s.2 + (minu s.1 n).2)
def kept (R : St) (n : Nat) (v : Int32) : Bool := (List.range 12).any (fun r => !scr R r && decide (R 0 r = v)) || (List.range n).any (fun j => decide (R 6 j = 2) && (decide (R 7 j = v) && decide (R 10 j = 0)))
def canS (R : St) (n : Nat) (kd v : Int32) : Bool := decide (n < 12) && (decide (¬ kd = 2) || !kept R n v)
def subm (R : St) (n : Nat) (kd v mi pr : Int32) : St := setS (setS (setS (setS (setS (setS (setS (setS (setS R 6 n kd) 7 n v) 8 n mi) 9 n pr) 10 n 0) 11 n 0) 12 n (-1)) 13 n 0) 14 10 (R 14 10 + 1)
def right (kd v mi pr : Int32) : Bool := inB kd 0 2 && (inB v 1 99 && (inB mi 1 20 && inB pr 0 9))
def cntS (R : St) (x : Int32) : Nat → Nat → Int32 → Int32
  | _, 0, m => m
  | j, k + 1, m => cntS R x (j + 1) k (m + (if R 10 j = x then 1 else 0))
def cntR (R : St) : Nat → Nat → Int32 → Int32
  | _, 0, m => m
  | j, k + 1, m => cntR R (j + 1) k (m + (if scr R j = true then 1 else 0))
end
section
set_option maxRecDepth 100000 in
set_option maxHeartbeats 4000000 in
theorem m_in {g : zG} {x y z : Int32} : Gi g yX6_in cX6_in 3 .boolean 0 [.int x, .int y, .int z] ([]) (bI (inB x y z)) ([]) := by
  refine fi_entry (by decide) (Nat.le_of_ble_eq_true rfl) (fun C hC hm hE => ?_)
  refine z_iln (pc := 0) hC 0 rfl dX6_in_0 ?_
  refine z_iln (pc := 1) hC 1 rfl dX6_in_1 ?_
  refine z_iclt (pc := 2) hC 14 (by decide) dX6_in_2 (fun c2 => ?_) (fun c2 => ?_)
  · refine z_iconst (pc := 14) (v := 0) hC dX6_in_14 (by decide) ?_
    exact hE _ _ _ () _ _ _ dX6_in_15 rfl (by first | exact inB_1 c2 | exact inB_2 c7) rfl (Nat.le_refl _) (Nat.le_refl _)
  · refine z_iln (pc := 5) hC 0 rfl dX6_in_5 ?_
    refine z_iln (pc := 6) hC 2 rfl dX6_in_6 ?_
    refine z_icgt (pc := 7) hC 14 (by decide) dX6_in_7 (fun c7 => ?_) (fun c7 => ?_)
    · refine z_iconst (pc := 14) (v := 0) hC dX6_in_14 (by decide) ?_
      exact hE _ _ _ () _ _ _ dX6_in_15 rfl (by first | exact inB_1 c2 | exact inB_2 c7) rfl (Nat.le_refl _) (Nat.le_refl _)
    · refine z_iconst (pc := 10) (v := 1) hC dX6_in_10 (by decide) ?_
      refine z_goto (pc := 11) hC 15 (by decide) dX6_in_11 ?_
      exact hE _ _ _ () _ _ _ dX6_in_15 rfl (inB_3 c2 c7) rfl (Nat.le_refl _) (Nat.le_refl _)

set_option maxRecDepth 100000 in
set_option maxHeartbeats 4000000 in
theorem m_isReel {g : zG} {x : Int32} : Gi g yX6_isReel cX6_isReel 1 .boolean 1 [.int x] ([]) (bI (isReel x)) ([]) := by
  refine fi_entry (by decide) (Nat.le_of_ble_eq_true rfl) (fun C hC hm hE => ?_)
  refine z_iln (pc := 0) hC 0 rfl dX6_isReel_0 ?_
  refine z_iconst (pc := 1) (v := 0) hC dX6_isReel_1 (by decide) ?_
  refine z_bipush (pc := 2) (v := 11) hC dX6_isReel_2 (by decide) ?_
  refine z_gs (pc := 4) (rest := []) hC sX6_in lX6_42 dX6_isReel_4 (m_in (x := x) (y := 0) (z := 11)) rfl rfl (by decide) (Nat.le_of_ble_eq_true rfl) ⟨Nat.le_refl _, Nat.le_refl _⟩ ?_
  exact hE _ _ _ () _ _ _ dX6_isReel_7 (bI_nar _) rfl rfl (Nat.le_refl _) (Nat.le_refl _)

set_option maxRecDepth 100000 in
set_option maxHeartbeats 4000000 in
theorem m_of {g : zG} {b : Nat → Nat} {R : St} {F : Nat → Nat → Int32} {V : Nat → Int32} {r w : Nat} (hr : r < 12) (hw : w < 6) : Gi g yX6_of cX6_of 3 .int 0 [.ref (b 0), .int (nI r), .int (nI w)] (mW g.2 b R F V) (R w r) (mW g.2 b R F V) := by
  refine fi_entry (by decide) (Nat.le_of_ble_eq_true rfl) (fun C hC hm hE => ?_)
  refine z_aln (pc := 0) hC 0 rfl dX6_of_0 ?_
  refine z_get (pc := 1) hC fX6_7 0 rfl rfl dX6_of_1 ?_
  refine z_bipush (pc := 4) (v := nI 10) hC dX6_of_4 (by decide) ?_
  refine z_bipush (pc := 6) (v := nI 6) hC dX6_of_6 (by decide) ?_
  refine z_iln (pc := 8) hC 1 rfl dX6_of_8 ?_
  refine z_imul (pc := 9) (v := nI (6 * r)) hC (pk_mul 6 r) dX6_of_9 ?_
  refine z_iadd (pc := 10) (v := nI (10 + 6 * r)) hC (nI_add _ _) dX6_of_10 ?_
  refine z_iln (pc := 11) hC 2 rfl dX6_of_11 ?_
  refine z_iadd (pc := 12) (v := nI (10 + 6 * r + w)) hC (nI_add _ _) dX6_of_12 ?_
  refine z_iald (pc := 13) hC 1 rfl dX6_of_13 (10 + 6 * r + w) rfl (by omega) (by decide) ?_
  refine z_is_ (y := R w r) (flat_reel R hr hw) ?_
  exact hE _ _ _ () _ _ _ dX6_of_14 rfl rfl rfl (Nat.le_refl _) (Nat.le_refl _)

set_option maxRecDepth 100000 in
set_option maxHeartbeats 4000000 in
theorem m_put {g : zG} {b : Nat → Nat} {R : St} {F : Nat → Nat → Int32} {V : Nat → Int32} {r w : Nat} (hr : r < 12) (hw : w < 6) {v : Int32} : Gv g yX6_put cX6_put 4 0 [.ref (b 0), .int (nI r), .int (nI w), .int v] (mW g.2 b R F V) (mW g.2 b (setS R w r v) F V) := by
  refine fv_entry (by decide) (Nat.le_of_ble_eq_true rfl) (fun C hC hm _ hE => ?_)
  refine z_aln (pc := 0) hC 0 rfl dX6_put_0 ?_
  refine z_get (pc := 1) hC fX6_7 0 rfl rfl dX6_put_1 ?_
  refine z_bipush (pc := 4) (v := nI 10) hC dX6_put_4 (by decide) ?_
  refine z_bipush (pc := 6) (v := nI 6) hC dX6_put_6 (by decide) ?_
  refine z_iln (pc := 8) hC 1 rfl dX6_put_8 ?_
  refine z_imul (pc := 9) (v := nI (6 * r)) hC (pk_mul 6 r) dX6_put_9 ?_
  refine z_iadd (pc := 10) (v := nI (10 + 6 * r)) hC (nI_add _ _) dX6_put_10 ?_
  refine z_iln (pc := 11) hC 2 rfl dX6_put_11 ?_
  refine z_iadd (pc := 12) (v := nI (10 + 6 * r + w)) hC (nI_add _ _) dX6_put_12 ?_
  refine z_iln (pc := 13) hC 3 rfl dX6_put_13 ?_
  refine z_iast (pc := 14) (ws' := mW g.2 b (setS R w r v) F V) hC 1 rfl dX6_put_14 (10 + 6 * r + w) rfl (by omega) (by decide) (mW_reel hr hw rfl) ?_
  exact hE _ _ () _ _ _ dX6_put_15 trivial rfl (Nat.le_refl _) (Nat.le_refl _)

set_option maxRecDepth 100000 in
set_option maxHeartbeats 4000000 in
theorem m_ofJob {g : zG} {b : Nat → Nat} {R : St} {F : Nat → Nat → Int32} {V : Nat → Int32} {c r w : Nat} (hr : r < 12) (hw : w < 8) (hc : c = 6 + w) : Gi g yX6_ofJob cX6_ofJob 3 .int 0 [.ref (b 0), .int (nI r), .int (nI w)] (mW g.2 b R F V) (R c r) (mW g.2 b R F V) := by
  refine fi_entry (by decide) (Nat.le_of_ble_eq_true rfl) (fun C hC hm hE => ?_)
  refine z_aln (pc := 0) hC 0 rfl dX6_ofJob_0 ?_
  refine z_get (pc := 1) hC fX6_7 0 rfl rfl dX6_ofJob_1 ?_
  refine z_bipush (pc := 4) (v := nI 83) hC dX6_ofJob_4 (by decide) ?_
  refine z_bipush (pc := 6) (v := nI 8) hC dX6_ofJob_6 (by decide) ?_
  refine z_iln (pc := 8) hC 1 rfl dX6_ofJob_8 ?_
  refine z_imul (pc := 9) (v := nI (8 * r)) hC (pk_mul 8 r) dX6_ofJob_9 ?_
  refine z_iadd (pc := 10) (v := nI (83 + 8 * r)) hC (nI_add _ _) dX6_ofJob_10 ?_
  refine z_iln (pc := 11) hC 2 rfl dX6_ofJob_11 ?_
  refine z_iadd (pc := 12) (v := nI (83 + 8 * r + w)) hC (nI_add _ _) dX6_ofJob_12 ?_
  refine z_iald (pc := 13) hC 1 rfl dX6_ofJob_13 (83 + 8 * r + w) rfl (by omega) (by decide) ?_
  refine z_is_ (y := R c r) (by rw [hc]; exact flat_job R hw) ?_
  exact hE _ _ _ () _ _ _ dX6_ofJob_14 rfl rfl rfl (Nat.le_refl _) (Nat.le_refl _)

set_option maxRecDepth 100000 in
set_option maxHeartbeats 4000000 in
theorem m_putJob {g : zG} {b : Nat → Nat} {R : St} {F : Nat → Nat → Int32} {V : Nat → Int32} {c r w : Nat} (hr : r < 12) (hw : w < 8) (hc : c = 6 + w) {v : Int32} : Gv g yX6_putJob cX6_putJob 4 0 [.ref (b 0), .int (nI r), .int (nI w), .int v] (mW g.2 b R F V) (mW g.2 b (setS R c r v) F V) := by
  refine fv_entry (by decide) (Nat.le_of_ble_eq_true rfl) (fun C hC hm _ hE => ?_)
  subst hc
  refine z_aln (pc := 0) hC 0 rfl dX6_putJob_0 ?_
  refine z_get (pc := 1) hC fX6_7 0 rfl rfl dX6_putJob_1 ?_
  refine z_bipush (pc := 4) (v := nI 83) hC dX6_putJob_4 (by decide) ?_
  refine z_bipush (pc := 6) (v := nI 8) hC dX6_putJob_6 (by decide) ?_
  refine z_iln (pc := 8) hC 1 rfl dX6_putJob_8 ?_
  refine z_imul (pc := 9) (v := nI (8 * r)) hC (pk_mul 8 r) dX6_putJob_9 ?_
  refine z_iadd (pc := 10) (v := nI (83 + 8 * r)) hC (nI_add _ _) dX6_putJob_10 ?_
  refine z_iln (pc := 11) hC 2 rfl dX6_putJob_11 ?_
  refine z_iadd (pc := 12) (v := nI (83 + 8 * r + w)) hC (nI_add _ _) dX6_putJob_12 ?_
  refine z_iln (pc := 13) hC 3 rfl dX6_putJob_13 ?_
  refine z_iast (pc := 14) (ws' := mW g.2 b (setS R (6 + w) r v) F V) hC 1 rfl dX6_putJob_14 (83 + 8 * r + w) rfl (by omega) (by decide) (mW_job hw rfl) ?_
  exact hE _ _ () _ _ _ dX6_putJob_15 trivial rfl (Nat.le_refl _) (Nat.le_refl _)

set_option maxRecDepth 100000 in
set_option maxHeartbeats 4000000 in
theorem m_isJob {g : zG} {b : Nat → Nat} {R : St} {F : Nat → Nat → Int32} {V : Nat → Int32} {x : Int32} : Gi g yX6_isJob cX6_isJob 2 .boolean 1 [.ref (b 0), .int x] (mW g.2 b R F V) (bI (isJob R x)) (mW g.2 b R F V) := by
  refine fi_entry (by decide) (Nat.le_of_ble_eq_true rfl) (fun C hC hm hE => ?_)
  refine z_iln (pc := 0) hC 1 rfl dX6_isJob_0 ?_
  refine z_iconst (pc := 1) (v := 0) hC dX6_isJob_1 (by decide) ?_
  refine z_aln (pc := 2) hC 0 rfl dX6_isJob_2 ?_
  refine z_get (pc := 3) hC fX6_7 0 rfl rfl dX6_isJob_3 ?_
  refine z_bipush (pc := 6) (v := 82) hC dX6_isJob_6 (by decide) ?_
  refine z_iald (pc := 8) hC 1 rfl dX6_isJob_8 82 rfl (by decide) (by decide) ?_
  refine z_is_ (y := R 14 10) (flat_82 R) ?_
  refine z_iconst (pc := 9) (v := 1) hC dX6_isJob_9 (by decide) ?_
  refine z_isub (pc := 10) (v := (R 14 10) - 1) hC rfl dX6_isJob_10 ?_
  refine z_gs (pc := 11) (rest := []) hC sX6_in lX6_42 dX6_isJob_11 (m_in (x := x) (y := 0) (z := R 14 10 - 1)) rfl rfl (by decide) (Nat.le_of_ble_eq_true rfl) ⟨Nat.le_refl _, Nat.le_refl _⟩ ?_
  exact hE _ _ _ () _ _ _ dX6_isJob_14 (bI_nar _) rfl rfl (Nat.le_refl _) (Nat.le_refl _)

set_option maxRecDepth 100000 in
set_option maxHeartbeats 4000000 in
theorem m_isOnShelf {g : zG} {b : Nat → Nat} {R : St} {F : Nat → Nat → Int32} {V : Nat → Int32} {r : Nat} (hr : r < 12) : Gi g yX6_isOnShelf cX6_isOnShelf 2 .boolean 1 [.ref (b 0), .int (nI r)] (mW g.2 b R F V) (bI (onSh R r)) (mW g.2 b R F V) := by
  refine fi_entry (by decide) (Nat.le_of_ble_eq_true rfl) (fun C hC hm hE => ?_)
  refine z_aln (pc := 0) hC 0 rfl dX6_isOnShelf_0 ?_
  refine z_iln (pc := 1) hC 1 rfl dX6_isOnShelf_1 ?_
  refine z_iconst (pc := 2) (v := 5) hC dX6_isOnShelf_2 (by decide) ?_
  refine z_g (pc := 3) (rest := []) hC vX6_of lX6_46 dX6_isOnShelf_3 (m_of (R := R) (w := 5) hr (by decide)) (fun w => w) isCtx_id rfl 0 6 rfl rfl rfl rfl rfl (by decide) (Nat.le_of_ble_eq_true rfl) ⟨Nat.le_refl _, Nat.le_refl _⟩ ?_
  refine z_iconst (pc := 6) (v := -1) hC dX6_isOnShelf_6 (by decide) ?_
  refine z_icne (pc := 7) hC 14 (by decide) dX6_isOnShelf_7 (fun c7 => ?_) (fun c7 => ?_)
  · refine z_iconst (pc := 14) (v := 0) hC dX6_isOnShelf_14 (by decide) ?_
    exact hE _ _ _ () _ _ _ dX6_isOnShelf_15 rfl (bI_f (by simp [onSh, c7])) rfl (Nat.le_refl _) (Nat.le_refl _)
  · refine z_iconst (pc := 10) (v := 1) hC dX6_isOnShelf_10 (by decide) ?_
    refine z_goto (pc := 11) hC 15 (by decide) dX6_isOnShelf_11 ?_
    exact hE _ _ _ () _ _ _ dX6_isOnShelf_15 rfl (bI_t (by simp [onSh, c7])) rfl (Nat.le_refl _) (Nat.le_refl _)

set_option maxRecDepth 100000 in
set_option maxHeartbeats 4000000 in
theorem m_isScratch {g : zG} {b : Nat → Nat} {R : St} {F : Nat → Nat → Int32} {V : Nat → Int32} {r : Nat} (hr : r < 12) : Gi g yX6_isScratch cX6_isScratch 2 .boolean 1 [.ref (b 0), .int (nI r)] (mW g.2 b R F V) (bI (scr R r)) (mW g.2 b R F V) := by
  refine fi_entry (by decide) (Nat.le_of_ble_eq_true rfl) (fun C hC hm hE => ?_)
  refine z_aln (pc := 0) hC 0 rfl dX6_isScratch_0 ?_
  refine z_iln (pc := 1) hC 1 rfl dX6_isScratch_1 ?_
  refine z_iconst (pc := 2) (v := 0) hC dX6_isScratch_2 (by decide) ?_
  refine z_g (pc := 3) (rest := []) hC vX6_of lX6_46 dX6_isScratch_3 (m_of (R := R) (w := 0) hr (by decide)) (fun w => w) isCtx_id rfl 0 6 rfl rfl rfl rfl rfl (by decide) (Nat.le_of_ble_eq_true rfl) ⟨Nat.le_refl _, Nat.le_refl _⟩ ?_
  refine z_ifeq (pc := 6) hC 24 (by decide) dX6_isScratch_6 (fun c6 => ?_) (fun c6 => ?_)
  · refine z_iconst (pc := 24) (v := 1) hC dX6_isScratch_24 (by decide) ?_
    refine z_goto (pc := 25) hC 29 (by decide) dX6_isScratch_25 ?_
    exact hE _ _ _ () _ _ _ dX6_isScratch_29 rfl (bI_t (by first | (simp [scr, c6]; done) | (simp [scr, Int32.not_le.mp c21]; done))) rfl (Nat.le_refl _) (Nat.le_refl _)
  · refine z_aln (pc := 9) hC 0 rfl dX6_isScratch_9 ?_
    refine z_iln (pc := 10) hC 1 rfl dX6_isScratch_10 ?_
    refine z_iconst (pc := 11) (v := 3) hC dX6_isScratch_11 (by decide) ?_
    refine z_g (pc := 12) (rest := []) hC vX6_of lX6_46 dX6_isScratch_12 (m_of (R := R) (w := 3) hr (by decide)) (fun w => w) isCtx_id rfl 0 6 rfl rfl rfl rfl rfl (by decide) (Nat.le_of_ble_eq_true rfl) ⟨Nat.le_refl _, Nat.le_refl _⟩ ?_
    refine z_aln (pc := 15) hC 0 rfl dX6_isScratch_15 ?_
    refine z_get (pc := 16) hC fX6_7 0 rfl rfl dX6_isScratch_16 ?_
    refine z_iconst (pc := 19) (v := 0) hC dX6_isScratch_19 (by decide) ?_
    refine z_iald (pc := 20) hC 1 rfl dX6_isScratch_20 0 rfl (by decide) (by decide) ?_
    refine z_is_ (y := R 14 0) (flat_num R (by decide)) ?_
    refine z_icge (pc := 21) hC 28 (by decide) dX6_isScratch_21 (fun c21 => ?_) (fun c21 => ?_)
    · refine z_iconst (pc := 28) (v := 0) hC dX6_isScratch_28 (by decide) ?_
      exact hE _ _ _ () _ _ _ dX6_isScratch_29 rfl (bI_f (by simp [scr, c6, Int32.not_lt.mpr c21])) rfl (Nat.le_refl _) (Nat.le_refl _)
    · refine z_iconst (pc := 24) (v := 1) hC dX6_isScratch_24 (by decide) ?_
      refine z_goto (pc := 25) hC 29 (by decide) dX6_isScratch_25 ?_
      exact hE _ _ _ () _ _ _ dX6_isScratch_29 rfl (bI_t (by first | (simp [scr, c6]; done) | (simp [scr, Int32.not_le.mp c21]; done))) rfl (Nat.le_refl _) (Nat.le_refl _)

set_option maxRecDepth 100000 in
set_option maxHeartbeats 4000000 in
theorem m_found {g : zG} {b : Nat → Nat} {R : St} {F : Nat → Nat → Int32} {V : Nat → Int32} {j : Nat} (hj : j < 12) : Gi g yX6_found cX6_found 5 .int 2 [.ref (b 0), .int (nI j)] (mW g.2 b R F V) (fnd R j) (mW g.2 b R F V) := by
  refine fi_entry (by decide) (Nat.le_of_ble_eq_true rfl) (fun C hC hm hE => ?_)
  have loop : ∀ k m : Nat, k + m = 12 → Z g C 0 0 (mW g.2 b R F V) [(4, .int (dn k)), (3, .int (fst_ (fun r => onSh R r && decide (R 1 r = want R j)) k m)), (2, .int (want R j)), (0, .ref (b 0)), (1, .int (nI j))] 27 [] := by
    intro k
    induction k with
    | zero =>
      intro m hm2
      refine z_il (pc := 27) hC 0 rfl dX6_found_27 ?_
      refine z_iflt (pc := 29) hC 65 (by decide) dX6_found_29 (fun c29 => ?_) (fun c29 => absurd dn_0 c29)
      refine z_iln (pc := 65) hC 1 rfl dX6_found_65 ?_
      exact hE _ _ _ () _ _ _ dX6_found_66 rfl (by rw [show m = 12 by omega]; rfl) rfl (Nat.le_refl _) (Nat.le_refl _)
    | succ k ih =>
      intro m hm2
      show Z g C 0 0 (mW g.2 b R F V) [(4, .int (nI k)), (3, .int (fst_ (fun r => onSh R r && decide (R 1 r = want R j)) (k + 1) m)), (2, .int (want R j)), (0, .ref (b 0)), (1, .int (nI j))] 27 []
      refine z_il (pc := 27) hC 0 rfl dX6_found_27 ?_
      refine z_iflt (pc := 29) hC 65 (by decide) dX6_found_29 (fun c29 => absurd c29 (nI_nlt0 (by omega))) (fun c29 => ?_)
      refine z_aln (pc := 32) hC 3 rfl dX6_found_32 ?_
      refine z_il (pc := 33) hC 0 rfl dX6_found_33 ?_
      refine z_g (pc := 35) (rest := []) hC vX6_isOnShelf lX6_60 dX6_found_35 (m_isOnShelf (r := k) (by omega)) (fun w => w) isCtx_id rfl 0 6 rfl rfl rfl rfl rfl (by decide) (Nat.le_of_ble_eq_true rfl) ⟨Nat.le_refl _, Nat.le_refl _⟩ ?_
      refine z_ifeq (pc := 38) hC 57 (by decide) dX6_found_38 (fun c38 => ?_) (fun c38 => ?_)
      · refine z_iln (pc := 57) hC 1 rfl dX6_found_57 ?_
        refine z_is_ (y := fst_ (fun r => onSh R r && decide (R 1 r = want R j)) k (m + 1)) (by first | (simp [fst_, bI_0.mp c38]; done) | (simp [fst_, c49]; done)) ?_
        refine z_isn (pc := 58) (lv' := [(3, .int (fst_ (fun r => onSh R r && decide (R 1 r = want R j)) k (m + 1))), (4, .int (nI k)), (2, .int (want R j)), (0, .ref (b 0)), (1, .int (nI j))]) hC hm (by decide) rfl dX6_found_58 ?_
        refine z_iinc (pc := 59) (v := dn k) (j := 1) (lv' := [(4, .int (dn k)), (3, .int (fst_ (fun r => onSh R r && decide (R 1 r = want R j)) k (m + 1))), (2, .int (want R j)), (0, .ref (b 0)), (1, .int (nI j))]) hC hm (by decide) rfl (dn_step k) rfl dX6_found_59 ?_
        refine z_goto (pc := 62) hC 27 (by decide) dX6_found_62 ?_
        refine z_lv [0, 1, 2, 3, 4] rfl ?_
        exact ih (m + 1) (by omega)
      · refine z_aln (pc := 41) hC 3 rfl dX6_found_41 ?_
        refine z_il (pc := 42) hC 0 rfl dX6_found_42 ?_
        refine z_iconst (pc := 44) (v := 1) hC dX6_found_44 (by decide) ?_
        refine z_g (pc := 45) (rest := []) hC vX6_of lX6_46 dX6_found_45 (m_of (R := R) (w := 1) (by omega) (by decide)) (fun w => w) isCtx_id rfl 0 6 rfl rfl rfl rfl rfl (by decide) (Nat.le_of_ble_eq_true rfl) ⟨Nat.le_refl _, Nat.le_refl _⟩ ?_
        refine z_iln (pc := 48) hC 2 rfl dX6_found_48 ?_
        refine z_icne (pc := 49) hC 57 (by decide) dX6_found_49 (fun c49 => ?_) (fun c49 => ?_)
        · refine z_iln (pc := 57) hC 1 rfl dX6_found_57 ?_
          refine z_is_ (y := fst_ (fun r => onSh R r && decide (R 1 r = want R j)) k (m + 1)) (by first | (simp [fst_, bI_0.mp c38]; done) | (simp [fst_, c49]; done)) ?_
          refine z_isn (pc := 58) (lv' := [(3, .int (fst_ (fun r => onSh R r && decide (R 1 r = want R j)) k (m + 1))), (4, .int (nI k)), (2, .int (want R j)), (0, .ref (b 0)), (1, .int (nI j))]) hC hm (by decide) rfl dX6_found_58 ?_
          refine z_iinc (pc := 59) (v := dn k) (j := 1) (lv' := [(4, .int (dn k)), (3, .int (fst_ (fun r => onSh R r && decide (R 1 r = want R j)) k (m + 1))), (2, .int (want R j)), (0, .ref (b 0)), (1, .int (nI j))]) hC hm (by decide) rfl (dn_step k) rfl dX6_found_59 ?_
          refine z_goto (pc := 62) hC 27 (by decide) dX6_found_62 ?_
          refine z_lv [0, 1, 2, 3, 4] rfl ?_
          exact ih (m + 1) (by omega)
        · refine z_il (pc := 52) hC 0 rfl dX6_found_52 ?_
          refine z_goto (pc := 54) hC 58 (by decide) dX6_found_54 ?_
          refine z_is_ (y := fst_ (fun r => onSh R r && decide (R 1 r = want R j)) k (m + 1)) (by simp [fst_, bI_n.mp c38, c49]) ?_
          refine z_isn (pc := 58) (lv' := [(3, .int (fst_ (fun r => onSh R r && decide (R 1 r = want R j)) k (m + 1))), (4, .int (nI k)), (2, .int (want R j)), (0, .ref (b 0)), (1, .int (nI j))]) hC hm (by decide) rfl dX6_found_58 ?_
          refine z_iinc (pc := 59) (v := dn k) (j := 1) (lv' := [(4, .int (dn k)), (3, .int (fst_ (fun r => onSh R r && decide (R 1 r = want R j)) k (m + 1))), (2, .int (want R j)), (0, .ref (b 0)), (1, .int (nI j))]) hC hm (by decide) rfl (dn_step k) rfl dX6_found_59 ?_
          refine z_goto (pc := 62) hC 27 (by decide) dX6_found_62 ?_
          refine z_lv [0, 1, 2, 3, 4] rfl ?_
          exact ih (m + 1) (by omega)
  refine z_aln (pc := 0) hC 0 rfl dX6_found_0 ?_
  refine z_iln (pc := 1) hC 1 rfl dX6_found_1 ?_
  refine z_iconst (pc := 2) (v := 0) hC dX6_found_2 (by decide) ?_
  refine z_g (pc := 3) (rest := []) hC vX6_ofJob lX6_57 dX6_found_3 (m_ofJob (R := R) (c := 6) (w := 0) hj (by decide) rfl) (fun w => w) isCtx_id rfl 0 6 rfl rfl rfl rfl rfl (by decide) (Nat.le_of_ble_eq_true rfl) ⟨Nat.le_refl _, Nat.le_refl _⟩ ?_
  refine z_iconst (pc := 6) (v := 2) hC dX6_found_6 (by decide) ?_
  refine z_icne (pc := 7) hC 14 (by decide) dX6_found_7 (fun c7 => ?_) (fun c7 => ?_)
  · refine z_aln (pc := 14) hC 0 rfl dX6_found_14 ?_
    refine z_iln (pc := 15) hC 1 rfl dX6_found_15 ?_
    refine z_iconst (pc := 16) (v := 1) hC dX6_found_16 (by decide) ?_
    refine z_g (pc := 17) (rest := []) hC vX6_ofJob lX6_57 dX6_found_17 (m_ofJob (R := R) (c := 7) (w := 1) hj (by decide) rfl) (fun w => w) isCtx_id rfl 0 6 rfl rfl rfl rfl rfl (by decide) (Nat.le_of_ble_eq_true rfl) ⟨Nat.le_refl _, Nat.le_refl _⟩ ?_
    refine z_is_ (y := want R j) (by simp [want, c7]) ?_
    refine z_isn (pc := 20) (lv' := [(2, .int (want R j)), (0, .ref (b 0)), (1, .int (nI j))]) hC hm (by decide) rfl dX6_found_20 ?_
    refine z_iconst (pc := 21) (v := -1) hC dX6_found_21 (by decide) ?_
    refine z_isn (pc := 22) (lv' := [(3, .int (-1)), (2, .int (want R j)), (0, .ref (b 0)), (1, .int (nI j))]) hC hm (by decide) rfl dX6_found_22 ?_
    refine z_bipush (pc := 23) (v := dn 12) hC dX6_found_23 (by decide) ?_
    refine z_is (pc := 25) (lv' := [(4, .int (dn 12)), (3, .int (-1)), (2, .int (want R j)), (0, .ref (b 0)), (1, .int (nI j))]) hC hm (by decide) rfl dX6_found_25 ?_
    refine z_lv [0, 1, 2, 3, 4] rfl ?_
    exact loop 12 0 rfl
  · refine z_iconst (pc := 10) (v := 0) hC dX6_found_10 (by decide) ?_
    refine z_goto (pc := 11) hC 20 (by decide) dX6_found_11 ?_
    refine z_is_ (y := want R j) (by simp [want, c7]) ?_
    refine z_isn (pc := 20) (lv' := [(2, .int (want R j)), (0, .ref (b 0)), (1, .int (nI j))]) hC hm (by decide) rfl dX6_found_20 ?_
    refine z_iconst (pc := 21) (v := -1) hC dX6_found_21 (by decide) ?_
    refine z_isn (pc := 22) (lv' := [(3, .int (-1)), (2, .int (want R j)), (0, .ref (b 0)), (1, .int (nI j))]) hC hm (by decide) rfl dX6_found_22 ?_
    refine z_bipush (pc := 23) (v := dn 12) hC dX6_found_23 (by decide) ?_
    refine z_is (pc := 25) (lv' := [(4, .int (dn 12)), (3, .int (-1)), (2, .int (want R j)), (0, .ref (b 0)), (1, .int (nI j))]) hC hm (by decide) rfl dX6_found_25 ?_
    refine z_lv [0, 1, 2, 3, 4] rfl ?_
    exact loop 12 0 rfl

theorem best_spec (R : St) : ∀ (k j : Nat), best R j k = -1 ∨ ∃ q, j ≤ q ∧ q < j + k ∧ best R j k = nI q ∧ elig R q = true
  | 0, j => Or.inl rfl
  | k + 1, j => by
    by_cases h : elig R j = true ∧ (best R (j + 1) k = -1 ∨ R 9 (best R (j + 1) k).toNatClampNeg ≤ R 9 j)
    · exact Or.inr ⟨j, Nat.le_refl _, by omega, by simp [best, h], h.1⟩
    · have e : best R j (k + 1) = best R (j + 1) k := by simp only [best, if_neg h]
      rcases best_spec R k (j + 1) with h1 | ⟨q, h1, h2, h3, h4⟩
      · exact Or.inl (e.trans h1)
      · exact Or.inr ⟨q, by omega, by omega, e.trans h3, h4⟩
theorem best_ne {R : St} {j k : Nat} (h : ¬ best R j k = -1) : ∃ q, j ≤ q ∧ q < j + k ∧ best R j k = nI q ∧ elig R q = true := (best_spec R k j).resolve_left h
theorem best_t {R : St} {j k : Nat} (h : elig R j = true) (h2 : best R (j + 1) k = -1 ∨ R 9 (best R (j + 1) k).toNatClampNeg ≤ R 9 j) : nI j = best R j (k + 1) := by simp [best, h, h2]
theorem best_f {R : St} {j k : Nat} (h : elig R j = false) : best R (j + 1) k = best R j (k + 1) := by simp [best, h]
theorem best_g {R : St} {j k : Nat} (h : ¬ best R (j + 1) k = -1) (h2 : R 9 j < R 9 (best R (j + 1) k).toNatClampNeg) : best R (j + 1) k = best R j (k + 1) := by
  have h3 : ¬ (R 9 (best R (j + 1) k).toNatClampNeg ≤ R 9 j) := Int32.not_le.mpr h2
  simp [best, h, h3]
theorem elig_t {R : St} {j : Nat} (h : R 10 j = 0) (h2 : ¬ fnd R j = -1) : elig R j = true := by simp [elig, h, h2]
theorem elig_f {R : St} {j : Nat} (h : ¬ R 10 j = 0) : elig R j = false := by simp [elig, h]
theorem elig_g {R : St} {j : Nat} (h : fnd R j = -1) : elig R j = false := by simp [elig, h]

set_option maxRecDepth 100000 in
set_option maxHeartbeats 4000000 in
theorem m_next {g : zG} {b : Nat → Nat} {R : St} {F : Nat → Nat → Int32} {V : Nat → Int32} {n : Nat} (hn : R 14 10 = nI n) (hn2 : n ≤ 12) : Gi g yX6_next cX6_next 4 .int 3 [.ref (b 0)] (mW g.2 b R F V) (nxt R n) (mW g.2 b R F V) := by
  refine fi_entry (by decide) (Nat.le_of_ble_eq_true rfl) (fun C hC hm hE => ?_)
  have loop : ∀ k m : Nat, k + m = n → Z g C 0 0 (mW g.2 b R F V) [(2, .int (dn k)), (1, .int (best R k m)), (0, .ref (b 0))] 12 [] := by
    intro k
    induction k with
    | zero =>
      intro m hm2
      refine z_iln (pc := 12) hC 0 rfl dX6_next_12 ?_
      refine z_iflt (pc := 13) hC 76 (by decide) dX6_next_13 (fun c13 => ?_) (fun c13 => absurd dn_0 c13)
      refine z_iln (pc := 76) hC 1 rfl dX6_next_76 ?_
      exact hE _ _ _ () _ _ _ dX6_next_77 rfl (by rw [show m = n by omega]; rfl) rfl (Nat.le_refl _) (Nat.le_refl _)
    | succ k ih =>
      intro m hm2
      show Z g C 0 0 (mW g.2 b R F V) [(2, .int (nI k)), (1, .int (best R (k + 1) m)), (0, .ref (b 0))] 12 []
      refine z_iln (pc := 12) hC 0 rfl dX6_next_12 ?_
      refine z_iflt (pc := 13) hC 76 (by decide) dX6_next_13 (fun c13 => absurd c13 (nI_nlt0 (by omega))) (fun c13 => ?_)
      refine z_aln (pc := 16) hC 2 rfl dX6_next_16 ?_
      refine z_iln (pc := 17) hC 0 rfl dX6_next_17 ?_
      refine z_iconst (pc := 18) (v := 4) hC dX6_next_18 (by decide) ?_
      refine z_g (pc := 19) (rest := []) hC vX6_ofJob lX6_57 dX6_next_19 (m_ofJob (R := R) (c := 10) (w := 4) (by omega) (by decide) rfl) (fun w => w) isCtx_id rfl 0 6 rfl rfl rfl rfl rfl (by decide) (Nat.le_of_ble_eq_true rfl) ⟨Nat.le_refl _, Nat.le_refl _⟩ ?_
      refine z_ifne (pc := 22) hC 38 (by decide) dX6_next_22 (fun c22 => ?_) (fun c22 => ?_)
      · refine z_iconst (pc := 38) (v := 0) hC dX6_next_38 (by decide) ?_
        refine z_isn (pc := 39) (lv' := [(3, .int 0), (2, .int (nI k)), (1, .int (best R (k + 1) m)), (0, .ref (b 0))]) hC hm (by decide) rfl dX6_next_39 ?_
        refine z_iln (pc := 40) hC 0 rfl dX6_next_40 ?_
        refine z_ifeq (pc := 41) hC 68 (by decide) dX6_next_41 (fun c41 => ?_) (fun c41 => absurd c41 (by decide))
        refine z_iln (pc := 68) hC 2 rfl dX6_next_68 ?_
        refine z_is_ (y := best R k (m + 1)) (by first | exact best_f (elig_f c22) | exact best_f (elig_g c31) | exact best_g c46 (by rw [hq3, nI_clamp (by omega)]; exact c61)) ?_
        refine z_isn (pc := 69) (lv' := [(1, .int (best R k (m + 1))), (3, .int 0), (2, .int (nI k)), (0, .ref (b 0))]) hC hm (by decide) rfl dX6_next_69 ?_
        refine z_iinc (pc := 70) (v := dn k) (j := 2) (lv' := [(2, .int (dn k)), (1, .int (best R k (m + 1))), (3, .int 0), (0, .ref (b 0))]) hC hm (by decide) rfl (dn_step k) rfl dX6_next_70 ?_
        refine z_goto (pc := 73) hC 12 (by decide) dX6_next_73 ?_
        refine z_lv [0, 1, 3] rfl ?_
        exact ih (m + 1) (by omega)
      · refine z_aln (pc := 25) hC 2 rfl dX6_next_25 ?_
        refine z_iln (pc := 26) hC 0 rfl dX6_next_26 ?_
        refine z_g (pc := 27) (rest := []) hC vX6_found lX6_64 dX6_next_27 (m_found (j := k) (by omega)) (fun w => w) isCtx_id rfl 0 6 rfl rfl rfl rfl rfl (by decide) (Nat.le_of_ble_eq_true rfl) ⟨Nat.le_refl _, Nat.le_refl _⟩ ?_
        refine z_iconst (pc := 30) (v := -1) hC dX6_next_30 (by decide) ?_
        refine z_iceq (pc := 31) hC 38 (by decide) dX6_next_31 (fun c31 => ?_) (fun c31 => ?_)
        · refine z_iconst (pc := 38) (v := 0) hC dX6_next_38 (by decide) ?_
          refine z_isn (pc := 39) (lv' := [(3, .int 0), (2, .int (nI k)), (1, .int (best R (k + 1) m)), (0, .ref (b 0))]) hC hm (by decide) rfl dX6_next_39 ?_
          refine z_iln (pc := 40) hC 0 rfl dX6_next_40 ?_
          refine z_ifeq (pc := 41) hC 68 (by decide) dX6_next_41 (fun c41 => ?_) (fun c41 => absurd c41 (by decide))
          refine z_iln (pc := 68) hC 2 rfl dX6_next_68 ?_
          refine z_is_ (y := best R k (m + 1)) (by first | exact best_f (elig_f c22) | exact best_f (elig_g c31) | exact best_g c46 (by rw [hq3, nI_clamp (by omega)]; exact c61)) ?_
          refine z_isn (pc := 69) (lv' := [(1, .int (best R k (m + 1))), (3, .int 0), (2, .int (nI k)), (0, .ref (b 0))]) hC hm (by decide) rfl dX6_next_69 ?_
          refine z_iinc (pc := 70) (v := dn k) (j := 2) (lv' := [(2, .int (dn k)), (1, .int (best R k (m + 1))), (3, .int 0), (0, .ref (b 0))]) hC hm (by decide) rfl (dn_step k) rfl dX6_next_70 ?_
          refine z_goto (pc := 73) hC 12 (by decide) dX6_next_73 ?_
          refine z_lv [0, 1, 3] rfl ?_
          exact ih (m + 1) (by omega)
        · refine z_iconst (pc := 34) (v := 1) hC dX6_next_34 (by decide) ?_
          refine z_goto (pc := 35) hC 39 (by decide) dX6_next_35 ?_
          refine z_isn (pc := 39) (lv' := [(3, .int 1), (2, .int (nI k)), (1, .int (best R (k + 1) m)), (0, .ref (b 0))]) hC hm (by decide) rfl dX6_next_39 ?_
          refine z_iln (pc := 40) hC 0 rfl dX6_next_40 ?_
          refine z_ifeq (pc := 41) hC 68 (by decide) dX6_next_41 (fun c41 => absurd c41 (by decide)) (fun c41 => ?_)
          refine z_iln (pc := 44) hC 2 rfl dX6_next_44 ?_
          refine z_iconst (pc := 45) (v := -1) hC dX6_next_45 (by decide) ?_
          refine z_iceq (pc := 46) hC 64 (by decide) dX6_next_46 (fun c46 => ?_) (fun c46 => ?_)
          · refine z_iln (pc := 64) hC 1 rfl dX6_next_64 ?_
            refine z_goto (pc := 65) hC 69 (by decide) dX6_next_65 ?_
            refine z_is_ (y := best R k (m + 1)) (by first | exact best_t (elig_t c22 c31) (Or.inl c46) | exact best_t (elig_t c22 c31) (Or.inr (by rw [hq3, nI_clamp (by omega)]; exact Int32.not_lt.mp c61))) ?_
            refine z_isn (pc := 69) (lv' := [(1, .int (best R k (m + 1))), (3, .int 1), (2, .int (nI k)), (0, .ref (b 0))]) hC hm (by decide) rfl dX6_next_69 ?_
            refine z_iinc (pc := 70) (v := dn k) (j := 2) (lv' := [(2, .int (dn k)), (1, .int (best R k (m + 1))), (3, .int 1), (0, .ref (b 0))]) hC hm (by decide) rfl (dn_step k) rfl dX6_next_70 ?_
            refine z_goto (pc := 73) hC 12 (by decide) dX6_next_73 ?_
            refine z_lv [0, 1, 3] rfl ?_
            exact ih (m + 1) (by omega)
          · obtain ⟨q, hq1, hq2, hq3, hq4⟩ := best_ne c46
            refine z_aln (pc := 49) hC 3 rfl dX6_next_49 ?_
            refine z_iln (pc := 50) hC 1 rfl dX6_next_50 ?_
            refine z_iconst (pc := 51) (v := 3) hC dX6_next_51 (by decide) ?_
            refine z_g (pc := 52) (rest := []) hC vX6_ofJob lX6_57 dX6_next_52 (m_ofJob (R := R) (c := 9) (w := 3) (by omega) (by decide) rfl) (fun w => w) isCtx_id rfl 0 6 rfl rfl rfl rfl rfl (by decide) (Nat.le_of_ble_eq_true rfl) ⟨Nat.le_refl _, Nat.le_refl _⟩ ?_
            refine z_aln (pc := 55) hC 3 rfl dX6_next_55 ?_
            refine z_iln (pc := 56) hC 2 rfl dX6_next_56 ?_
            refine z_is_ (y := nI q) hq3 ?_
            refine z_iconst (pc := 57) (v := 3) hC dX6_next_57 (by decide) ?_
            refine z_g (pc := 58) (rest := [.int (R 9 k)]) hC vX6_ofJob lX6_57 dX6_next_58 (m_ofJob (R := R) (c := 9) (w := 3) (by omega) (by decide) rfl) (fun w => w) isCtx_id rfl 0 6 rfl rfl rfl rfl rfl (by decide) (Nat.le_of_ble_eq_true rfl) ⟨Nat.le_refl _, Nat.le_refl _⟩ ?_
            refine z_iclt (pc := 61) hC 68 (by decide) dX6_next_61 (fun c61 => ?_) (fun c61 => ?_)
            · refine z_iln (pc := 68) hC 2 rfl dX6_next_68 ?_
              refine z_is_ (y := best R k (m + 1)) (by first | exact best_f (elig_f c22) | exact best_f (elig_g c31) | exact best_g c46 (by rw [hq3, nI_clamp (by omega)]; exact c61)) ?_
              refine z_isn (pc := 69) (lv' := [(1, .int (best R k (m + 1))), (3, .int 1), (2, .int (nI k)), (0, .ref (b 0))]) hC hm (by decide) rfl dX6_next_69 ?_
              refine z_iinc (pc := 70) (v := dn k) (j := 2) (lv' := [(2, .int (dn k)), (1, .int (best R k (m + 1))), (3, .int 1), (0, .ref (b 0))]) hC hm (by decide) rfl (dn_step k) rfl dX6_next_70 ?_
              refine z_goto (pc := 73) hC 12 (by decide) dX6_next_73 ?_
              refine z_lv [0, 1, 3] rfl ?_
              exact ih (m + 1) (by omega)
            · refine z_iln (pc := 64) hC 1 rfl dX6_next_64 ?_
              refine z_goto (pc := 65) hC 69 (by decide) dX6_next_65 ?_
              refine z_is_ (y := best R k (m + 1)) (by first | exact best_t (elig_t c22 c31) (Or.inl c46) | exact best_t (elig_t c22 c31) (Or.inr (by rw [hq3, nI_clamp (by omega)]; exact Int32.not_lt.mp c61))) ?_
              refine z_isn (pc := 69) (lv' := [(1, .int (best R k (m + 1))), (3, .int 1), (2, .int (nI k)), (0, .ref (b 0))]) hC hm (by decide) rfl dX6_next_69 ?_
              refine z_iinc (pc := 70) (v := dn k) (j := 2) (lv' := [(2, .int (dn k)), (1, .int (best R k (m + 1))), (3, .int 1), (0, .ref (b 0))]) hC hm (by decide) rfl (dn_step k) rfl dX6_next_70 ?_
              refine z_goto (pc := 73) hC 12 (by decide) dX6_next_73 ?_
              refine z_lv [0, 1, 3] rfl ?_
              exact ih (m + 1) (by omega)
  refine z_iconst (pc := 0) (v := -1) hC dX6_next_0 (by decide) ?_
  refine z_isn (pc := 1) (lv' := [(1, .int (-1)), (0, .ref (b 0))]) hC hm (by decide) rfl dX6_next_1 ?_
  refine z_aln (pc := 2) hC 1 rfl dX6_next_2 ?_
  refine z_get (pc := 3) hC fX6_7 0 rfl rfl dX6_next_3 ?_
  refine z_bipush (pc := 6) (v := 82) hC dX6_next_6 (by decide) ?_
  refine z_iald (pc := 8) hC 1 rfl dX6_next_8 82 rfl (by decide) (by decide) ?_
  refine z_is_ (y := R 14 10) (flat_82 R) ?_
  refine z_iconst (pc := 9) (v := 1) hC dX6_next_9 (by decide) ?_
  refine z_isub (pc := 10) (v := dn n) hC (by rw [hn]; exact dn_pred n) dX6_next_10 ?_
  refine z_isn (pc := 11) (lv' := [(2, .int (dn n)), (1, .int (-1)), (0, .ref (b 0))]) hC hm (by decide) rfl dX6_next_11 ?_
  refine z_lv [0, 1, 2] rfl ?_
  exact loop n 0 rfl

set_option maxRecDepth 100000 in
set_option maxHeartbeats 4000000 in
theorem m_isSlip {g : zG} {b : Nat → Nat} {R : St} {F : Nat → Nat → Int32} {V : Nat → Int32} {x : Int32} : Gi g yX6_isSlip cX6_isSlip 2 .boolean 0 [.ref (b 0), .int x] (mW g.2 b R F V) (bI (slp R x)) (mW g.2 b R F V) := by
  refine fi_entry (by decide) (Nat.le_of_ble_eq_true rfl) (fun C hC hm hE => ?_)
  refine z_aln (pc := 0) hC 0 rfl dX6_isSlip_0 ?_
  refine z_get (pc := 1) hC fX6_7 0 rfl rfl dX6_isSlip_1 ?_
  refine z_bipush (pc := 4) (v := 8) hC dX6_isSlip_4 (by decide) ?_
  refine z_iald (pc := 6) hC 1 rfl dX6_isSlip_6 8 rfl (by decide) (by decide) ?_
  refine z_is_ (y := R 14 8) (flat_num R (by decide)) ?_
  refine z_ifeq (pc := 7) hC 26 (by decide) dX6_isSlip_7 (fun c7 => ?_) (fun c7 => ?_)
  · refine z_iconst (pc := 26) (v := 0) hC dX6_isSlip_26 (by decide) ?_
    exact hE _ _ _ () _ _ _ dX6_isSlip_27 rfl (bI_f (by first | (simp [slp, c7]; done) | (simp [slp, c19]; done))) rfl (Nat.le_refl _) (Nat.le_refl _)
  · refine z_iln (pc := 10) hC 1 rfl dX6_isSlip_10 ?_
    refine z_aln (pc := 11) hC 0 rfl dX6_isSlip_11 ?_
    refine z_get (pc := 12) hC fX6_7 0 rfl rfl dX6_isSlip_12 ?_
    refine z_bipush (pc := 15) (v := 8) hC dX6_isSlip_15 (by decide) ?_
    refine z_iald (pc := 17) hC 1 rfl dX6_isSlip_17 8 rfl (by decide) (by decide) ?_
    refine z_is_ (y := R 14 8) (flat_num R (by decide)) ?_
    refine z_irem (pc := 18) (v := x - x / (R 14 8) * (R 14 8)) hC c7 rfl dX6_isSlip_18 ?_
    refine z_ifne (pc := 19) hC 26 (by decide) dX6_isSlip_19 (fun c19 => ?_) (fun c19 => ?_)
    · refine z_iconst (pc := 26) (v := 0) hC dX6_isSlip_26 (by decide) ?_
      exact hE _ _ _ () _ _ _ dX6_isSlip_27 rfl (bI_f (by first | (simp [slp, c7]; done) | (simp [slp, c19]; done))) rfl (Nat.le_refl _) (Nat.le_refl _)
    · refine z_iconst (pc := 22) (v := 1) hC dX6_isSlip_22 (by decide) ?_
      refine z_goto (pc := 23) hC 27 (by decide) dX6_isSlip_23 ?_
      exact hE _ _ _ () _ _ _ dX6_isSlip_27 rfl (bI_t (by simp [slp, c7, c19])) rfl (Nat.le_refl _) (Nat.le_refl _)

set_option maxRecDepth 100000 in
set_option maxHeartbeats 4000000 in
theorem m_after {g : zG} {b : Nat → Nat} {R : St} {F : Nat → Nat → Int32} {V : Nat → Int32} {x : Int32} : Gi g yX6_after cX6_after 5 .int 2 [.ref (b 0), .int x] (mW g.2 b R F V) (aft R x) (mW g.2 b R F V) := by
  refine fi_entry (by decide) (Nat.le_of_ble_eq_true rfl) (fun C hC hm hE => ?_)
  have loop : ∀ k m : Nat, k + m = 12 → Z g C 0 0 (mW g.2 b R F V) [(4, .int (dn k)), (3, .int (fst_ (onSh R) k m)), (2, .int (fst_ (fun q => onSh R q && decide (x < nI q)) k m)), (0, .ref (b 0)), (1, .int x)] 8 [] := by
    intro k
    induction k with
    | zero =>
      intro m hm2
      refine z_il (pc := 8) hC 0 rfl dX6_after_8 ?_
      refine z_iflt (pc := 10) hC 57 (by decide) dX6_after_10 (fun c10 => ?_) (fun c10 => absurd dn_0 c10)
      refine z_iln (pc := 57) hC 2 rfl dX6_after_57 ?_
      refine z_iconst (pc := 58) (v := -1) hC dX6_after_58 (by decide) ?_
      refine z_icne (pc := 59) hC 66 (by decide) dX6_after_59 (fun c59 => ?_) (fun c59 => ?_)
      · refine z_iln (pc := 66) hC 2 rfl dX6_after_66 ?_
        exact hE _ _ _ () _ _ _ dX6_after_67 rfl (by simp only [show m = 12 by omega] at *; simp [aft, c59]) rfl (Nat.le_refl _) (Nat.le_refl _)
      · refine z_iln (pc := 62) hC 1 rfl dX6_after_62 ?_
        refine z_goto (pc := 63) hC 67 (by decide) dX6_after_63 ?_
        exact hE _ _ _ () _ _ _ dX6_after_67 rfl (by simp only [show m = 12 by omega] at *; simp [aft, c59]) rfl (Nat.le_refl _) (Nat.le_refl _)
    | succ k ih =>
      intro m hm2
      show Z g C 0 0 (mW g.2 b R F V) [(4, .int (nI k)), (3, .int (fst_ (onSh R) (k + 1) m)), (2, .int (fst_ (fun q => onSh R q && decide (x < nI q)) (k + 1) m)), (0, .ref (b 0)), (1, .int x)] 8 []
      refine z_il (pc := 8) hC 0 rfl dX6_after_8 ?_
      refine z_iflt (pc := 10) hC 57 (by decide) dX6_after_10 (fun c10 => absurd c10 (nI_nlt0 (by omega))) (fun c10 => ?_)
      refine z_aln (pc := 13) hC 3 rfl dX6_after_13 ?_
      refine z_il (pc := 14) hC 0 rfl dX6_after_14 ?_
      refine z_g (pc := 16) (rest := []) hC vX6_isOnShelf lX6_60 dX6_after_16 (m_isOnShelf (r := k) (by omega)) (fun w => w) isCtx_id rfl 0 6 rfl rfl rfl rfl rfl (by decide) (Nat.le_of_ble_eq_true rfl) ⟨Nat.le_refl _, Nat.le_refl _⟩ ?_
      refine z_ifeq (pc := 19) hC 33 (by decide) dX6_after_19 (fun c19 => ?_) (fun c19 => ?_)
      · refine z_iln (pc := 33) hC 2 rfl dX6_after_33 ?_
        refine z_is_ (y := fst_ (fun q => onSh R q && decide (x < nI q)) k (m + 1)) (by first | (simp [fst_, bI_0.mp c19]; done) | (simp [fst_, Int32.not_lt.mpr c25]; done)) ?_
        refine z_isn (pc := 34) (lv' := [(2, .int (fst_ (fun q => onSh R q && decide (x < nI q)) k (m + 1))), (4, .int (nI k)), (3, .int (fst_ (onSh R) (k + 1) m)), (0, .ref (b 0)), (1, .int x)]) hC hm (by decide) rfl dX6_after_34 ?_
        refine z_aln (pc := 35) hC 3 rfl dX6_after_35 ?_
        refine z_il (pc := 36) hC 1 rfl dX6_after_36 ?_
        refine z_g (pc := 38) (rest := []) hC vX6_isOnShelf lX6_60 dX6_after_38 (m_isOnShelf (r := k) (by omega)) (fun w => w) isCtx_id rfl 0 6 rfl rfl rfl rfl rfl (by decide) (Nat.le_of_ble_eq_true rfl) ⟨Nat.le_refl _, Nat.le_refl _⟩ ?_
        refine z_ifeq (pc := 41) hC 49 (by decide) dX6_after_41 (fun c41 => ?_) (fun c41 => ?_)
        · refine z_iln (pc := 49) hC 2 rfl dX6_after_49 ?_
          refine z_is_ (y := fst_ (onSh R) k (m + 1)) (by simp [fst_, bI_0.mp c41]) ?_
          refine z_isn (pc := 50) (lv' := [(3, .int (fst_ (onSh R) k (m + 1))), (2, .int (fst_ (fun q => onSh R q && decide (x < nI q)) k (m + 1))), (4, .int (nI k)), (0, .ref (b 0)), (1, .int x)]) hC hm (by decide) rfl dX6_after_50 ?_
          refine z_iinc (pc := 51) (v := dn k) (j := 2) (lv' := [(4, .int (dn k)), (3, .int (fst_ (onSh R) k (m + 1))), (2, .int (fst_ (fun q => onSh R q && decide (x < nI q)) k (m + 1))), (0, .ref (b 0)), (1, .int x)]) hC hm (by decide) rfl (dn_step k) rfl dX6_after_51 ?_
          refine z_goto (pc := 54) hC 8 (by decide) dX6_after_54 ?_
          refine z_lv [0, 1, 2, 3, 4] rfl ?_
          exact ih (m + 1) (by omega)
        · refine z_il (pc := 44) hC 1 rfl dX6_after_44 ?_
          refine z_goto (pc := 46) hC 50 (by decide) dX6_after_46 ?_
          refine z_is_ (y := fst_ (onSh R) k (m + 1)) (by simp [fst_, bI_n.mp c41]) ?_
          refine z_isn (pc := 50) (lv' := [(3, .int (fst_ (onSh R) k (m + 1))), (2, .int (fst_ (fun q => onSh R q && decide (x < nI q)) k (m + 1))), (4, .int (nI k)), (0, .ref (b 0)), (1, .int x)]) hC hm (by decide) rfl dX6_after_50 ?_
          refine z_iinc (pc := 51) (v := dn k) (j := 2) (lv' := [(4, .int (dn k)), (3, .int (fst_ (onSh R) k (m + 1))), (2, .int (fst_ (fun q => onSh R q && decide (x < nI q)) k (m + 1))), (0, .ref (b 0)), (1, .int x)]) hC hm (by decide) rfl (dn_step k) rfl dX6_after_51 ?_
          refine z_goto (pc := 54) hC 8 (by decide) dX6_after_54 ?_
          refine z_lv [0, 1, 2, 3, 4] rfl ?_
          exact ih (m + 1) (by omega)
      · refine z_il (pc := 22) hC 0 rfl dX6_after_22 ?_
        refine z_iln (pc := 24) hC 4 rfl dX6_after_24 ?_
        refine z_icle (pc := 25) hC 33 (by decide) dX6_after_25 (fun c25 => ?_) (fun c25 => ?_)
        · refine z_iln (pc := 33) hC 2 rfl dX6_after_33 ?_
          refine z_is_ (y := fst_ (fun q => onSh R q && decide (x < nI q)) k (m + 1)) (by first | (simp [fst_, bI_0.mp c19]; done) | (simp [fst_, Int32.not_lt.mpr c25]; done)) ?_
          refine z_isn (pc := 34) (lv' := [(2, .int (fst_ (fun q => onSh R q && decide (x < nI q)) k (m + 1))), (4, .int (nI k)), (3, .int (fst_ (onSh R) (k + 1) m)), (0, .ref (b 0)), (1, .int x)]) hC hm (by decide) rfl dX6_after_34 ?_
          refine z_aln (pc := 35) hC 3 rfl dX6_after_35 ?_
          refine z_il (pc := 36) hC 1 rfl dX6_after_36 ?_
          refine z_g (pc := 38) (rest := []) hC vX6_isOnShelf lX6_60 dX6_after_38 (m_isOnShelf (r := k) (by omega)) (fun w => w) isCtx_id rfl 0 6 rfl rfl rfl rfl rfl (by decide) (Nat.le_of_ble_eq_true rfl) ⟨Nat.le_refl _, Nat.le_refl _⟩ ?_
          refine z_ifeq (pc := 41) hC 49 (by decide) dX6_after_41 (fun c41 => ?_) (fun c41 => ?_)
          · refine z_iln (pc := 49) hC 2 rfl dX6_after_49 ?_
            refine z_is_ (y := fst_ (onSh R) k (m + 1)) (by simp [fst_, bI_0.mp c41]) ?_
            refine z_isn (pc := 50) (lv' := [(3, .int (fst_ (onSh R) k (m + 1))), (2, .int (fst_ (fun q => onSh R q && decide (x < nI q)) k (m + 1))), (4, .int (nI k)), (0, .ref (b 0)), (1, .int x)]) hC hm (by decide) rfl dX6_after_50 ?_
            refine z_iinc (pc := 51) (v := dn k) (j := 2) (lv' := [(4, .int (dn k)), (3, .int (fst_ (onSh R) k (m + 1))), (2, .int (fst_ (fun q => onSh R q && decide (x < nI q)) k (m + 1))), (0, .ref (b 0)), (1, .int x)]) hC hm (by decide) rfl (dn_step k) rfl dX6_after_51 ?_
            refine z_goto (pc := 54) hC 8 (by decide) dX6_after_54 ?_
            refine z_lv [0, 1, 2, 3, 4] rfl ?_
            exact ih (m + 1) (by omega)
          · refine z_il (pc := 44) hC 1 rfl dX6_after_44 ?_
            refine z_goto (pc := 46) hC 50 (by decide) dX6_after_46 ?_
            refine z_is_ (y := fst_ (onSh R) k (m + 1)) (by simp [fst_, bI_n.mp c41]) ?_
            refine z_isn (pc := 50) (lv' := [(3, .int (fst_ (onSh R) k (m + 1))), (2, .int (fst_ (fun q => onSh R q && decide (x < nI q)) k (m + 1))), (4, .int (nI k)), (0, .ref (b 0)), (1, .int x)]) hC hm (by decide) rfl dX6_after_50 ?_
            refine z_iinc (pc := 51) (v := dn k) (j := 2) (lv' := [(4, .int (dn k)), (3, .int (fst_ (onSh R) k (m + 1))), (2, .int (fst_ (fun q => onSh R q && decide (x < nI q)) k (m + 1))), (0, .ref (b 0)), (1, .int x)]) hC hm (by decide) rfl (dn_step k) rfl dX6_after_51 ?_
            refine z_goto (pc := 54) hC 8 (by decide) dX6_after_54 ?_
            refine z_lv [0, 1, 2, 3, 4] rfl ?_
            exact ih (m + 1) (by omega)
        · refine z_il (pc := 28) hC 0 rfl dX6_after_28 ?_
          refine z_goto (pc := 30) hC 34 (by decide) dX6_after_30 ?_
          refine z_is_ (y := fst_ (fun q => onSh R q && decide (x < nI q)) k (m + 1)) (by simp [fst_, bI_n.mp c19, Int32.not_le.mp c25]) ?_
          refine z_isn (pc := 34) (lv' := [(2, .int (fst_ (fun q => onSh R q && decide (x < nI q)) k (m + 1))), (4, .int (nI k)), (3, .int (fst_ (onSh R) (k + 1) m)), (0, .ref (b 0)), (1, .int x)]) hC hm (by decide) rfl dX6_after_34 ?_
          refine z_aln (pc := 35) hC 3 rfl dX6_after_35 ?_
          refine z_il (pc := 36) hC 1 rfl dX6_after_36 ?_
          refine z_g (pc := 38) (rest := []) hC vX6_isOnShelf lX6_60 dX6_after_38 (m_isOnShelf (r := k) (by omega)) (fun w => w) isCtx_id rfl 0 6 rfl rfl rfl rfl rfl (by decide) (Nat.le_of_ble_eq_true rfl) ⟨Nat.le_refl _, Nat.le_refl _⟩ ?_
          refine z_ifeq (pc := 41) hC 49 (by decide) dX6_after_41 (fun c41 => ?_) (fun c41 => ?_)
          · refine z_iln (pc := 49) hC 2 rfl dX6_after_49 ?_
            refine z_is_ (y := fst_ (onSh R) k (m + 1)) (by simp [fst_, bI_0.mp c41]) ?_
            refine z_isn (pc := 50) (lv' := [(3, .int (fst_ (onSh R) k (m + 1))), (2, .int (fst_ (fun q => onSh R q && decide (x < nI q)) k (m + 1))), (4, .int (nI k)), (0, .ref (b 0)), (1, .int x)]) hC hm (by decide) rfl dX6_after_50 ?_
            refine z_iinc (pc := 51) (v := dn k) (j := 2) (lv' := [(4, .int (dn k)), (3, .int (fst_ (onSh R) k (m + 1))), (2, .int (fst_ (fun q => onSh R q && decide (x < nI q)) k (m + 1))), (0, .ref (b 0)), (1, .int x)]) hC hm (by decide) rfl (dn_step k) rfl dX6_after_51 ?_
            refine z_goto (pc := 54) hC 8 (by decide) dX6_after_54 ?_
            refine z_lv [0, 1, 2, 3, 4] rfl ?_
            exact ih (m + 1) (by omega)
          · refine z_il (pc := 44) hC 1 rfl dX6_after_44 ?_
            refine z_goto (pc := 46) hC 50 (by decide) dX6_after_46 ?_
            refine z_is_ (y := fst_ (onSh R) k (m + 1)) (by simp [fst_, bI_n.mp c41]) ?_
            refine z_isn (pc := 50) (lv' := [(3, .int (fst_ (onSh R) k (m + 1))), (2, .int (fst_ (fun q => onSh R q && decide (x < nI q)) k (m + 1))), (4, .int (nI k)), (0, .ref (b 0)), (1, .int x)]) hC hm (by decide) rfl dX6_after_50 ?_
            refine z_iinc (pc := 51) (v := dn k) (j := 2) (lv' := [(4, .int (dn k)), (3, .int (fst_ (onSh R) k (m + 1))), (2, .int (fst_ (fun q => onSh R q && decide (x < nI q)) k (m + 1))), (0, .ref (b 0)), (1, .int x)]) hC hm (by decide) rfl (dn_step k) rfl dX6_after_51 ?_
            refine z_goto (pc := 54) hC 8 (by decide) dX6_after_54 ?_
            refine z_lv [0, 1, 2, 3, 4] rfl ?_
            exact ih (m + 1) (by omega)
  refine z_iconst (pc := 0) (v := -1) hC dX6_after_0 (by decide) ?_
  refine z_isn (pc := 1) (lv' := [(2, .int (-1)), (0, .ref (b 0)), (1, .int x)]) hC hm (by decide) rfl dX6_after_1 ?_
  refine z_iconst (pc := 2) (v := -1) hC dX6_after_2 (by decide) ?_
  refine z_isn (pc := 3) (lv' := [(3, .int (-1)), (2, .int (-1)), (0, .ref (b 0)), (1, .int x)]) hC hm (by decide) rfl dX6_after_3 ?_
  refine z_bipush (pc := 4) (v := dn 12) hC dX6_after_4 (by decide) ?_
  refine z_is (pc := 6) (lv' := [(4, .int (dn 12)), (3, .int (-1)), (2, .int (-1)), (0, .ref (b 0)), (1, .int x)]) hC hm (by decide) rfl dX6_after_6 ?_
  refine z_lv [0, 1, 2, 3, 4] rfl ?_
  exact loop 12 0 rfl

set_option maxRecDepth 100000 in
set_option maxHeartbeats 4000000 in
theorem m_check {g : zG} {b : Nat → Nat} {R : St} {F : Nat → Nat → Int32} {V : Nat → Int32} {j r : Nat} (hj : j < 12) (hr : r < 12) : Gi g yX6_check cX6_check 5 .int 2 [.ref (b 0), .int (nI j), .int (nI r)] (mW g.2 b R F V) (chk R j r) (mW g.2 b R F V) := by
  refine fi_entry (by decide) (Nat.le_of_ble_eq_true rfl) (fun C hC hm hE => ?_)
  refine z_aln (pc := 0) hC 0 rfl dX6_check_0 ?_
  refine z_iln (pc := 1) hC 1 rfl dX6_check_1 ?_
  refine z_iconst (pc := 2) (v := 0) hC dX6_check_2 (by decide) ?_
  refine z_g (pc := 3) (rest := []) hC vX6_ofJob lX6_57 dX6_check_3 (m_ofJob (R := R) (c := 6) (w := 0) hj (by decide) rfl) (fun w => w) isCtx_id rfl 0 6 rfl rfl rfl rfl rfl (by decide) (Nat.le_of_ble_eq_true rfl) ⟨Nat.le_refl _, Nat.le_refl _⟩ ?_
  refine z_iconst (pc := 6) (v := 2) hC dX6_check_6 (by decide) ?_
  refine z_icne (pc := 7) hC 14 (by decide) dX6_check_7 (fun c7 => ?_) (fun c7 => ?_)
  · refine z_iconst (pc := 14) (v := 0) hC dX6_check_14 (by decide) ?_
    refine z_isn (pc := 15) (lv' := [(3, .int 0), (0, .ref (b 0)), (1, .int (nI j)), (2, .int (nI r))]) hC hm (by decide) rfl dX6_check_15 ?_
    refine z_aln (pc := 16) hC 1 rfl dX6_check_16 ?_
    refine z_iln (pc := 17) hC 2 rfl dX6_check_17 ?_
    refine z_iconst (pc := 18) (v := 0) hC dX6_check_18 (by decide) ?_
    refine z_g (pc := 19) (rest := []) hC vX6_ofJob lX6_57 dX6_check_19 (m_ofJob (R := R) (c := 6) (w := 0) hj (by decide) rfl) (fun w => w) isCtx_id rfl 0 6 rfl rfl rfl rfl rfl (by decide) (Nat.le_of_ble_eq_true rfl) ⟨Nat.le_refl _, Nat.le_refl _⟩ ?_
    refine z_ifne (pc := 22) hC 29 (by decide) dX6_check_22 (fun c22 => ?_) (fun c22 => ?_)
    · refine z_iconst (pc := 29) (v := 0) hC dX6_check_29 (by decide) ?_
      refine z_is (pc := 30) (lv' := [(4, .int 0), (3, .int 0), (0, .ref (b 0)), (1, .int (nI j)), (2, .int (nI r))]) hC hm (by decide) rfl dX6_check_30 ?_
      refine z_iln (pc := 32) hC 1 rfl dX6_check_32 ?_
      refine z_ifne (pc := 33) hC 53 (by decide) dX6_check_33 (fun c33 => absurd c33 (by decide)) (fun c33 => ?_)
      refine z_aln (pc := 36) hC 2 rfl dX6_check_36 ?_
      refine z_iln (pc := 37) hC 4 rfl dX6_check_37 ?_
      refine z_iconst (pc := 38) (v := 0) hC dX6_check_38 (by decide) ?_
      refine z_g (pc := 39) (rest := []) hC vX6_of lX6_46 dX6_check_39 (m_of (R := R) (w := 0) hr (by decide)) (fun w => w) isCtx_id rfl 0 6 rfl rfl rfl rfl rfl (by decide) (Nat.le_of_ble_eq_true rfl) ⟨Nat.le_refl _, Nat.le_refl _⟩ ?_
      refine z_aln (pc := 42) hC 2 rfl dX6_check_42 ?_
      refine z_iln (pc := 43) hC 3 rfl dX6_check_43 ?_
      refine z_iconst (pc := 44) (v := 1) hC dX6_check_44 (by decide) ?_
      refine z_g (pc := 45) (rest := [.int (R 0 r)]) hC vX6_ofJob lX6_57 dX6_check_45 (m_ofJob (R := R) (c := 7) (w := 1) hj (by decide) rfl) (fun w => w) isCtx_id rfl 0 6 rfl rfl rfl rfl rfl (by decide) (Nat.le_of_ble_eq_true rfl) ⟨Nat.le_refl _, Nat.le_refl _⟩ ?_
      refine z_iceq (pc := 48) hC 53 (by decide) dX6_check_48 (fun c48 => ?_) (fun c48 => ?_)
      · refine z_iln (pc := 53) hC 1 rfl dX6_check_53 ?_
        refine z_ifeq (pc := 54) hC 67 (by decide) dX6_check_54 (fun c54 => ?_) (fun c54 => absurd c54 (by decide))
        refine z_il (pc := 67) hC 0 rfl dX6_check_67 ?_
        refine z_ifeq (pc := 69) hC 86 (by decide) dX6_check_69 (fun c69 => ?_) (fun c69 => absurd c69 (by decide))
        refine z_il (pc := 86) hC 0 rfl dX6_check_86 ?_
        refine z_ifne (pc := 88) hC 104 (by decide) dX6_check_88 (fun c88 => absurd c88 (by decide)) (fun c88 => ?_)
        refine z_aln (pc := 91) hC 2 rfl dX6_check_91 ?_
        refine z_iln (pc := 92) hC 4 rfl dX6_check_92 ?_
        refine z_iconst (pc := 93) (v := 2) hC dX6_check_93 (by decide) ?_
        refine z_g (pc := 94) (rest := []) hC vX6_of lX6_46 dX6_check_94 (m_of (R := R) (w := 2) hr (by decide)) (fun w => w) isCtx_id rfl 0 6 rfl rfl rfl rfl rfl (by decide) (Nat.le_of_ble_eq_true rfl) ⟨Nat.le_refl _, Nat.le_refl _⟩ ?_
        refine z_ifne (pc := 97) hC 104 (by decide) dX6_check_97 (fun c97 => ?_) (fun c97 => ?_)
        · refine z_iconst (pc := 104) (v := 0) hC dX6_check_104 (by decide) ?_
          exact hE _ _ _ () _ _ _ dX6_check_105 rfl (by simp [chk, c7, c22, c48, c97]) rfl (Nat.le_refl _) (Nat.le_refl _)
        · refine z_iconst (pc := 100) (v := 4) hC dX6_check_100 (by decide) ?_
          refine z_goto (pc := 101) hC 105 (by decide) dX6_check_101 ?_
          exact hE _ _ _ () _ _ _ dX6_check_105 rfl (by simp [chk, c7, c22, c48, c97]) rfl (Nat.le_refl _) (Nat.le_refl _)
      · refine z_iconst (pc := 51) (v := 1) hC dX6_check_51 (by decide) ?_
        exact hE _ _ _ () _ _ _ dX6_check_52 rfl (by simp [chk, c7, c22, c48]) rfl (Nat.le_refl _) (Nat.le_refl _)
    · refine z_iconst (pc := 25) (v := 1) hC dX6_check_25 (by decide) ?_
      refine z_goto (pc := 26) hC 30 (by decide) dX6_check_26 ?_
      refine z_is (pc := 30) (lv' := [(4, .int 1), (3, .int 0), (0, .ref (b 0)), (1, .int (nI j)), (2, .int (nI r))]) hC hm (by decide) rfl dX6_check_30 ?_
      refine z_iln (pc := 32) hC 1 rfl dX6_check_32 ?_
      refine z_ifne (pc := 33) hC 53 (by decide) dX6_check_33 (fun c33 => absurd c33 (by decide)) (fun c33 => ?_)
      refine z_aln (pc := 36) hC 2 rfl dX6_check_36 ?_
      refine z_iln (pc := 37) hC 4 rfl dX6_check_37 ?_
      refine z_iconst (pc := 38) (v := 0) hC dX6_check_38 (by decide) ?_
      refine z_g (pc := 39) (rest := []) hC vX6_of lX6_46 dX6_check_39 (m_of (R := R) (w := 0) hr (by decide)) (fun w => w) isCtx_id rfl 0 6 rfl rfl rfl rfl rfl (by decide) (Nat.le_of_ble_eq_true rfl) ⟨Nat.le_refl _, Nat.le_refl _⟩ ?_
      refine z_aln (pc := 42) hC 2 rfl dX6_check_42 ?_
      refine z_iln (pc := 43) hC 3 rfl dX6_check_43 ?_
      refine z_iconst (pc := 44) (v := 1) hC dX6_check_44 (by decide) ?_
      refine z_g (pc := 45) (rest := [.int (R 0 r)]) hC vX6_ofJob lX6_57 dX6_check_45 (m_ofJob (R := R) (c := 7) (w := 1) hj (by decide) rfl) (fun w => w) isCtx_id rfl 0 6 rfl rfl rfl rfl rfl (by decide) (Nat.le_of_ble_eq_true rfl) ⟨Nat.le_refl _, Nat.le_refl _⟩ ?_
      refine z_iceq (pc := 48) hC 53 (by decide) dX6_check_48 (fun c48 => ?_) (fun c48 => ?_)
      · refine z_iln (pc := 53) hC 1 rfl dX6_check_53 ?_
        refine z_ifeq (pc := 54) hC 67 (by decide) dX6_check_54 (fun c54 => ?_) (fun c54 => absurd c54 (by decide))
        refine z_il (pc := 67) hC 0 rfl dX6_check_67 ?_
        refine z_ifeq (pc := 69) hC 86 (by decide) dX6_check_69 (fun c69 => absurd c69 (by decide)) (fun c69 => ?_)
        refine z_aln (pc := 72) hC 2 rfl dX6_check_72 ?_
        refine z_iln (pc := 73) hC 4 rfl dX6_check_73 ?_
        refine z_iconst (pc := 74) (v := 2) hC dX6_check_74 (by decide) ?_
        refine z_g (pc := 75) (rest := []) hC vX6_of lX6_46 dX6_check_75 (m_of (R := R) (w := 2) hr (by decide)) (fun w => w) isCtx_id rfl 0 6 rfl rfl rfl rfl rfl (by decide) (Nat.le_of_ble_eq_true rfl) ⟨Nat.le_refl _, Nat.le_refl _⟩ ?_
        refine z_iconst (pc := 78) (v := 1) hC dX6_check_78 (by decide) ?_
        refine z_icne (pc := 79) hC 86 (by decide) dX6_check_79 (fun c79 => ?_) (fun c79 => ?_)
        · refine z_il (pc := 86) hC 0 rfl dX6_check_86 ?_
          refine z_ifne (pc := 88) hC 104 (by decide) dX6_check_88 (fun c88 => ?_) (fun c88 => absurd c88 (by decide))
          refine z_iconst (pc := 104) (v := 0) hC dX6_check_104 (by decide) ?_
          exact hE _ _ _ () _ _ _ dX6_check_105 rfl (by simp [chk, c7, c22, c48, c79]) rfl (Nat.le_refl _) (Nat.le_refl _)
        · refine z_iconst (pc := 82) (v := 3) hC dX6_check_82 (by decide) ?_
          refine z_goto (pc := 83) hC 105 (by decide) dX6_check_83 ?_
          exact hE _ _ _ () _ _ _ dX6_check_105 rfl (by simp [chk, c7, c22, c48, c79]) rfl (Nat.le_refl _) (Nat.le_refl _)
      · refine z_iconst (pc := 51) (v := 1) hC dX6_check_51 (by decide) ?_
        exact hE _ _ _ () _ _ _ dX6_check_52 rfl (by simp [chk, c7, c22, c48]) rfl (Nat.le_refl _) (Nat.le_refl _)
  · refine z_iconst (pc := 10) (v := 1) hC dX6_check_10 (by decide) ?_
    refine z_goto (pc := 11) hC 15 (by decide) dX6_check_11 ?_
    refine z_isn (pc := 15) (lv' := [(3, .int 1), (0, .ref (b 0)), (1, .int (nI j)), (2, .int (nI r))]) hC hm (by decide) rfl dX6_check_15 ?_
    refine z_aln (pc := 16) hC 1 rfl dX6_check_16 ?_
    refine z_iln (pc := 17) hC 2 rfl dX6_check_17 ?_
    refine z_iconst (pc := 18) (v := 0) hC dX6_check_18 (by decide) ?_
    refine z_g (pc := 19) (rest := []) hC vX6_ofJob lX6_57 dX6_check_19 (m_ofJob (R := R) (c := 6) (w := 0) hj (by decide) rfl) (fun w => w) isCtx_id rfl 0 6 rfl rfl rfl rfl rfl (by decide) (Nat.le_of_ble_eq_true rfl) ⟨Nat.le_refl _, Nat.le_refl _⟩ ?_
    refine z_ifne (pc := 22) hC 29 (by decide) dX6_check_22 (fun c22 => ?_) (fun c22 => absurd (c22.symm.trans c7) (by decide))
    refine z_iconst (pc := 29) (v := 0) hC dX6_check_29 (by decide) ?_
    refine z_is (pc := 30) (lv' := [(4, .int 0), (3, .int 1), (0, .ref (b 0)), (1, .int (nI j)), (2, .int (nI r))]) hC hm (by decide) rfl dX6_check_30 ?_
    refine z_iln (pc := 32) hC 1 rfl dX6_check_32 ?_
    refine z_ifne (pc := 33) hC 53 (by decide) dX6_check_33 (fun c33 => ?_) (fun c33 => absurd c33 (by decide))
    refine z_iln (pc := 53) hC 1 rfl dX6_check_53 ?_
    refine z_ifeq (pc := 54) hC 67 (by decide) dX6_check_54 (fun c54 => absurd c54 (by decide)) (fun c54 => ?_)
    refine z_aln (pc := 57) hC 2 rfl dX6_check_57 ?_
    refine z_iln (pc := 58) hC 4 rfl dX6_check_58 ?_
    refine z_g (pc := 59) (rest := []) hC vX6_isScratch lX6_67 dX6_check_59 (m_isScratch (r := r) hr) (fun w => w) isCtx_id rfl 0 6 rfl rfl rfl rfl rfl (by decide) (Nat.le_of_ble_eq_true rfl) ⟨Nat.le_refl _, Nat.le_refl _⟩ ?_
    refine z_ifne (pc := 62) hC 67 (by decide) dX6_check_62 (fun c62 => ?_) (fun c62 => ?_)
    · refine z_il (pc := 67) hC 0 rfl dX6_check_67 ?_
      refine z_ifeq (pc := 69) hC 86 (by decide) dX6_check_69 (fun c69 => ?_) (fun c69 => absurd c69 (by decide))
      refine z_il (pc := 86) hC 0 rfl dX6_check_86 ?_
      refine z_ifne (pc := 88) hC 104 (by decide) dX6_check_88 (fun c88 => absurd c88 (by decide)) (fun c88 => ?_)
      refine z_aln (pc := 91) hC 2 rfl dX6_check_91 ?_
      refine z_iln (pc := 92) hC 4 rfl dX6_check_92 ?_
      refine z_iconst (pc := 93) (v := 2) hC dX6_check_93 (by decide) ?_
      refine z_g (pc := 94) (rest := []) hC vX6_of lX6_46 dX6_check_94 (m_of (R := R) (w := 2) hr (by decide)) (fun w => w) isCtx_id rfl 0 6 rfl rfl rfl rfl rfl (by decide) (Nat.le_of_ble_eq_true rfl) ⟨Nat.le_refl _, Nat.le_refl _⟩ ?_
      refine z_ifne (pc := 97) hC 104 (by decide) dX6_check_97 (fun c97 => ?_) (fun c97 => ?_)
      · refine z_iconst (pc := 104) (v := 0) hC dX6_check_104 (by decide) ?_
        exact hE _ _ _ () _ _ _ dX6_check_105 rfl (by simp [chk, c7, c22, bI_n.mp c62, c97]) rfl (Nat.le_refl _) (Nat.le_refl _)
      · refine z_iconst (pc := 100) (v := 4) hC dX6_check_100 (by decide) ?_
        refine z_goto (pc := 101) hC 105 (by decide) dX6_check_101 ?_
        exact hE _ _ _ () _ _ _ dX6_check_105 rfl (by simp [chk, c7, c22, bI_n.mp c62, c97]) rfl (Nat.le_refl _) (Nat.le_refl _)
    · refine z_iconst (pc := 65) (v := 2) hC dX6_check_65 (by decide) ?_
      exact hE _ _ _ () _ _ _ dX6_check_66 rfl (by simp [chk, bI_0.mp c62, c7]) rfl (Nat.le_refl _) (Nat.le_refl _)

theorem lst_spec (p : Nat → Bool) : ∀ k, (lst_ p k = -1 ∧ ∀ j, j < k → p j = false) ∨ ∃ r, r < k ∧ lst_ p k = nI r ∧ p r = true ∧ ∀ j, r < j → j < k → p j = false
  | 0 => Or.inl ⟨rfl, fun j h => by omega⟩
  | k + 1 => by
    by_cases h : p k = true
    · exact Or.inr ⟨k, by omega, by simp [lst_, h], h, fun j h1 h2 => by omega⟩
    · have e : lst_ p (k + 1) = lst_ p k := by simp [lst_, h]
      have h' : p k = false := by simpa using h
      rcases lst_spec p k with ⟨h1, h2⟩ | ⟨r, h1, h2, h3, h4⟩
      · refine Or.inl ⟨e.trans h1, fun j hj => ?_⟩
        rcases Nat.lt_succ_iff_lt_or_eq.mp hj with q | rfl
        · exact h2 j q
        · exact h'
      · refine Or.inr ⟨r, by omega, e.trans h2, h3, fun j g1 g2 => ?_⟩
        rcases Nat.lt_succ_iff_lt_or_eq.mp g2 with q | rfl
        · exact h4 j g1 q
        · exact h'

set_option maxRecDepth 100000 in
set_option maxHeartbeats 4000000 in
theorem m_onDrive {g : zG} {b : Nat → Nat} {R : St} {F : Nat → Nat → Int32} {V : Nat → Int32} {x : Int32} : Gi g yX6_onDrive cX6_onDrive 4 .int 1 [.ref (b 0), .int x] (mW g.2 b R F V) (onDr R x) (mW g.2 b R F V) := by
  refine fi_entry (by decide) (Nat.le_of_ble_eq_true rfl) (fun C hC hm hE => ?_)
  have loop : ∀ k m : Nat, m + k = 12 → Z g C 0 0 (mW g.2 b R F V) [(3, .int (nI m)), (2, .int (lst_ (fun r => decide (R 5 r = x)) m)), (0, .ref (b 0)), (1, .int x)] 4 [] := by
    intro k
    induction k with
    | zero =>
      intro m hm2
      refine z_iln (pc := 4) hC 0 rfl dX6_onDrive_4 ?_
      refine z_bipush (pc := 5) (v := nI 12) hC dX6_onDrive_5 (by decide) ?_
      refine z_icge (pc := 7) hC 32 (by decide) dX6_onDrive_7 (fun c7 => ?_) (fun c7 => absurd (nI_le (by omega) (by omega)) c7)
      refine z_iln (pc := 32) hC 1 rfl dX6_onDrive_32 ?_
      exact hE _ _ _ () _ _ _ dX6_onDrive_33 rfl (by rw [show m = 12 by omega]; rfl) rfl (Nat.le_refl _) (Nat.le_refl _)
    | succ k ih =>
      intro m hm2
      refine z_iln (pc := 4) hC 0 rfl dX6_onDrive_4 ?_
      refine z_bipush (pc := 5) (v := nI 12) hC dX6_onDrive_5 (by decide) ?_
      refine z_icge (pc := 7) hC 32 (by decide) dX6_onDrive_7 (fun c7 => absurd c7 (nI_ge (by omega) (by omega))) (fun c7 => ?_)
      refine z_aln (pc := 10) hC 2 rfl dX6_onDrive_10 ?_
      refine z_iln (pc := 11) hC 0 rfl dX6_onDrive_11 ?_
      refine z_iconst (pc := 12) (v := 5) hC dX6_onDrive_12 (by decide) ?_
      refine z_g (pc := 13) (rest := []) hC vX6_of lX6_46 dX6_onDrive_13 (m_of (R := R) (w := 5) (by omega) (by decide)) (fun w => w) isCtx_id rfl 0 6 rfl rfl rfl rfl rfl (by decide) (Nat.le_of_ble_eq_true rfl) ⟨Nat.le_refl _, Nat.le_refl _⟩ ?_
      refine z_iln (pc := 16) hC 3 rfl dX6_onDrive_16 ?_
      refine z_icne (pc := 17) hC 24 (by decide) dX6_onDrive_17 (fun c17 => ?_) (fun c17 => ?_)
      · refine z_iln (pc := 24) hC 1 rfl dX6_onDrive_24 ?_
        refine z_is_ (y := lst_ (fun r => decide (R 5 r = x)) (m + 1)) (by simp [lst_, c17]) ?_
        refine z_isn (pc := 25) (lv' := [(2, .int (lst_ (fun r => decide (R 5 r = x)) (m + 1))), (3, .int (nI m)), (0, .ref (b 0)), (1, .int x)]) hC hm (by decide) rfl dX6_onDrive_25 ?_
        refine z_iinc (pc := 26) (v := nI (m + 1)) (j := 1) (lv' := [(3, .int (nI (m + 1))), (2, .int (lst_ (fun r => decide (R 5 r = x)) (m + 1))), (0, .ref (b 0)), (1, .int x)]) hC hm (by decide) rfl (up_step m) rfl dX6_onDrive_26 ?_
        refine z_goto (pc := 29) hC 4 (by decide) dX6_onDrive_29 ?_
        refine z_lv [0, 1, 2, 3] rfl ?_
        exact ih (m + 1) (by omega)
      · refine z_iln (pc := 20) hC 0 rfl dX6_onDrive_20 ?_
        refine z_goto (pc := 21) hC 25 (by decide) dX6_onDrive_21 ?_
        refine z_is_ (y := lst_ (fun r => decide (R 5 r = x)) (m + 1)) (by simp [lst_, c17]) ?_
        refine z_isn (pc := 25) (lv' := [(2, .int (lst_ (fun r => decide (R 5 r = x)) (m + 1))), (3, .int (nI m)), (0, .ref (b 0)), (1, .int x)]) hC hm (by decide) rfl dX6_onDrive_25 ?_
        refine z_iinc (pc := 26) (v := nI (m + 1)) (j := 1) (lv' := [(3, .int (nI (m + 1))), (2, .int (lst_ (fun r => decide (R 5 r = x)) (m + 1))), (0, .ref (b 0)), (1, .int x)]) hC hm (by decide) rfl (up_step m) rfl dX6_onDrive_26 ?_
        refine z_goto (pc := 29) hC 4 (by decide) dX6_onDrive_29 ?_
        refine z_lv [0, 1, 2, 3] rfl ?_
        exact ih (m + 1) (by omega)
  refine z_iconst (pc := 0) (v := -1) hC dX6_onDrive_0 (by decide) ?_
  refine z_isn (pc := 1) (lv' := [(2, .int (-1)), (0, .ref (b 0)), (1, .int x)]) hC hm (by decide) rfl dX6_onDrive_1 ?_
  refine z_iconst (pc := 2) (v := nI 0) hC dX6_onDrive_2 (by decide) ?_
  refine z_isn (pc := 3) (lv' := [(3, .int (nI 0)), (2, .int (-1)), (0, .ref (b 0)), (1, .int x)]) hC hm (by decide) rfl dX6_onDrive_3 ?_
  refine z_lv [0, 1, 2, 3] rfl ?_
  exact loop 12 0 rfl

set_option maxRecDepth 100000 in
set_option maxHeartbeats 4000000 in
theorem m_emptyDrive {g : zG} {b : Nat → Nat} {R : St} {F : Nat → Nat → Int32} {V : Nat → Int32} : Gi g yX6_emptyDrive cX6_emptyDrive 3 .int 2 [.ref (b 0)] (mW g.2 b R F V) (edr R) (mW g.2 b R F V) := by
  refine fi_entry (by decide) (Nat.le_of_ble_eq_true rfl) (fun C hC hm hE => ?_)
  have loop : ∀ k m : Nat, k + m = 3 → Z g C 0 0 (mW g.2 b R F V) [(2, .int (dn k)), (1, .int (fst_ (fun d => decide (onDr R (nI d) = -1)) k m)), (0, .ref (b 0))] 4 [] := by
    intro k
    induction k with
    | zero =>
      intro m hm2
      refine z_iln (pc := 4) hC 0 rfl dX6_emptyDrive_4 ?_
      refine z_iflt (pc := 5) hC 29 (by decide) dX6_emptyDrive_5 (fun c5 => ?_) (fun c5 => absurd dn_0 c5)
      refine z_iln (pc := 29) hC 1 rfl dX6_emptyDrive_29 ?_
      exact hE _ _ _ () _ _ _ dX6_emptyDrive_30 rfl (by rw [show m = 3 by omega]; rfl) rfl (Nat.le_refl _) (Nat.le_refl _)
    | succ k ih =>
      intro m hm2
      show Z g C 0 0 (mW g.2 b R F V) [(2, .int (nI k)), (1, .int (fst_ (fun d => decide (onDr R (nI d) = -1)) (k + 1) m)), (0, .ref (b 0))] 4 []
      refine z_iln (pc := 4) hC 0 rfl dX6_emptyDrive_4 ?_
      refine z_iflt (pc := 5) hC 29 (by decide) dX6_emptyDrive_5 (fun c5 => absurd c5 (nI_nlt0 (by omega))) (fun c5 => ?_)
      refine z_aln (pc := 8) hC 2 rfl dX6_emptyDrive_8 ?_
      refine z_iln (pc := 9) hC 0 rfl dX6_emptyDrive_9 ?_
      refine z_g (pc := 10) (rest := []) hC vX6_onDrive lX6_70 dX6_emptyDrive_10 (m_onDrive (x := nI k)) (fun w => w) isCtx_id rfl 0 6 rfl rfl rfl rfl rfl (by decide) (Nat.le_of_ble_eq_true rfl) ⟨Nat.le_refl _, Nat.le_refl _⟩ ?_
      refine z_iconst (pc := 13) (v := -1) hC dX6_emptyDrive_13 (by decide) ?_
      refine z_icne (pc := 14) hC 21 (by decide) dX6_emptyDrive_14 (fun c14 => ?_) (fun c14 => ?_)
      · refine z_iln (pc := 21) hC 1 rfl dX6_emptyDrive_21 ?_
        refine z_is_ (y := fst_ (fun d => decide (onDr R (nI d) = -1)) k (m + 1)) (by simp [fst_, c14]) ?_
        refine z_isn (pc := 22) (lv' := [(1, .int (fst_ (fun d => decide (onDr R (nI d) = -1)) k (m + 1))), (2, .int (nI k)), (0, .ref (b 0))]) hC hm (by decide) rfl dX6_emptyDrive_22 ?_
        refine z_iinc (pc := 23) (v := dn k) (j := 1) (lv' := [(2, .int (dn k)), (1, .int (fst_ (fun d => decide (onDr R (nI d) = -1)) k (m + 1))), (0, .ref (b 0))]) hC hm (by decide) rfl (dn_step k) rfl dX6_emptyDrive_23 ?_
        refine z_goto (pc := 26) hC 4 (by decide) dX6_emptyDrive_26 ?_
        refine z_lv [0, 1, 2] rfl ?_
        exact ih (m + 1) (by omega)
      · refine z_iln (pc := 17) hC 0 rfl dX6_emptyDrive_17 ?_
        refine z_goto (pc := 18) hC 22 (by decide) dX6_emptyDrive_18 ?_
        refine z_is_ (y := fst_ (fun d => decide (onDr R (nI d) = -1)) k (m + 1)) (by simp [fst_, c14]) ?_
        refine z_isn (pc := 22) (lv' := [(1, .int (fst_ (fun d => decide (onDr R (nI d) = -1)) k (m + 1))), (2, .int (nI k)), (0, .ref (b 0))]) hC hm (by decide) rfl dX6_emptyDrive_22 ?_
        refine z_iinc (pc := 23) (v := dn k) (j := 1) (lv' := [(2, .int (dn k)), (1, .int (fst_ (fun d => decide (onDr R (nI d) = -1)) k (m + 1))), (0, .ref (b 0))]) hC hm (by decide) rfl (dn_step k) rfl dX6_emptyDrive_23 ?_
        refine z_goto (pc := 26) hC 4 (by decide) dX6_emptyDrive_26 ?_
        refine z_lv [0, 1, 2] rfl ?_
        exact ih (m + 1) (by omega)
  refine z_iconst (pc := 0) (v := -1) hC dX6_emptyDrive_0 (by decide) ?_
  refine z_isn (pc := 1) (lv' := [(1, .int (-1)), (0, .ref (b 0))]) hC hm (by decide) rfl dX6_emptyDrive_1 ?_
  refine z_iconst (pc := 2) (v := dn 3) hC dX6_emptyDrive_2 (by decide) ?_
  refine z_isn (pc := 3) (lv' := [(2, .int (dn 3)), (1, .int (-1)), (0, .ref (b 0))]) hC hm (by decide) rfl dX6_emptyDrive_3 ?_
  refine z_lv [0, 1, 2] rfl ?_
  exact loop 3 0 rfl
end
section
/-! WHAT STAYS TRUE -/
theorem i32_bd (x : Int32) : -2147483648 ≤ x.toInt ∧ x.toInt < 2147483648 := ⟨Int32.le_toInt x, Int32.toInt_lt x⟩
theorem i32_add {x y : Int32} {a b : Int} (hx : x.toInt = a) (hy : y.toInt = b) (h1 : -2147483648 ≤ a + b) (h2 : a + b < 2147483648) : (x + y).toInt = a + b := by
  rw [Int32.toInt_add, hx, hy]
  exact Int.bmod_eq_of_le (by omega) (by omega)
theorem i32_succ {x y : Int32} (h : x < y) : (x + 1).toInt = x.toInt + 1 := by
  have h1 := Int32.lt_iff_toInt_lt.mp h
  have h2 := i32_bd y
  have h3 := i32_bd x
  exact i32_add rfl (by decide) (by omega) (by omega)
theorem i32_next {x y : Int32} (h : x < y) (h2 : ¬ x + 1 = y) : x + 1 < y := by
  have h1 := Int32.lt_iff_toInt_lt.mp h
  have h3 := i32_succ h
  have h4 : ¬ (x + 1).toInt = y.toInt := fun e => h2 (Int32.toInt_inj.mp e)
  exact Int32.lt_iff_toInt_lt.mpr (by omega)
theorem i32_ge_eq {x y : Int32} (h : x < y) : y ≤ x + 1 ↔ x + 1 = y := by
  constructor
  · intro h2
    apply Classical.byContradiction
    intro h3
    exact Int32.not_le.mpr (i32_next h h3) h2
  · intro h2
    rw [h2]
    exact Int32.le_refl y
def JI (R : St) (j : Nat) : Prop := (R 10 j = 1 → ∃ r, r < 12 ∧ R 12 j = nI r) ∧ (¬ R 10 j = 1 → R 12 j = -1) ∧ 0 ≤ R 9 j ∧ (R 10 j = 0 ∨ R 10 j = 1 → R 11 j < R 8 j) ∧ (R 10 j = 0 ∨ R 10 j = 1 ∨ R 10 j = 2 ∨ R 10 j = 3)
def RI (R : St) (r : Nat) : Prop := (R 2 r = 0 ∨ R 2 r = 1) ∧ R 4 r ≤ 99
def DI (R : St) : Prop := ∀ r r' : Nat, r < 12 → r' < 12 → R 5 r = R 5 r' → ¬ R 5 r = -1 → r = r'
def Inv (R : St) (n : Nat) : Prop := n ≤ 12 ∧ R 14 10 = nI n ∧ (∀ j, j < n → JI R j) ∧ (∀ r, r < 12 → RI R r) ∧ DI R
theorem inv_num {R : St} {n k : Nat} {v : Int32} (hk : k ≠ 10) (h : Inv R n) : Inv (setS R 14 k v) n :=
  ⟨h.1, (setS_j R 14 v (Ne.symm hk)).trans h.2.1, h.2.2.1, h.2.2.2.1, h.2.2.2.2⟩
theorem inv_0 {R : St} {n r : Nat} {v : Int32} (h : Inv R n) : Inv (setS R 0 r v) n := h
theorem inv_1 {R : St} {n r : Nat} {v : Int32} (h : Inv R n) : Inv (setS R 1 r v) n := h
theorem inv_3 {R : St} {n r : Nat} {v : Int32} (h : Inv R n) : Inv (setS R 3 r v) n := h
theorem inv_13 {R : St} {n r : Nat} {v : Int32} (h : Inv R n) : Inv (setS R 13 r v) n := h
theorem inv_2 {R : St} {n r : Nat} {v : Int32} (hv : v = 0 ∨ v = 1) (h : Inv R n) : Inv (setS R 2 r v) n := by
  refine ⟨h.1, h.2.1, h.2.2.1, fun q hq => ⟨?_, (h.2.2.2.1 q hq).2⟩, h.2.2.2.2⟩
  by_cases e : q = r
  · subst e; rw [setS_eq]; exact hv
  · rw [setS_j R 2 v e]; exact (h.2.2.2.1 q hq).1
theorem inv_4 {R : St} {n r : Nat} {v : Int32} (hv : v ≤ 99) (h : Inv R n) : Inv (setS R 4 r v) n := by
  refine ⟨h.1, h.2.1, h.2.2.1, fun q hq => ⟨(h.2.2.2.1 q hq).1, ?_⟩, h.2.2.2.2⟩
  by_cases e : q = r
  · subst e; rw [setS_eq]; exact hv
  · rw [setS_j R 4 v e]; exact (h.2.2.2.1 q hq).2
theorem inv_5off {R : St} {n r : Nat} (h : Inv R n) : Inv (setS R 5 r (-1)) n := by
  refine ⟨h.1, h.2.1, h.2.2.1, h.2.2.2.1, fun q q' hq hq' he hn => ?_⟩
  rw [setS_at] at he hn
  rw [setS_at] at he
  by_cases e : q = r
  · subst e; simp at hn
  · by_cases e' : q' = r
    · subst e'; simp [e] at he hn; exact absurd he hn
    · simp [e, e'] at he hn; exact h.2.2.2.2 q q' hq hq' he hn
theorem inv_job {R R' : St} {n j : Nat} (h : Inv R n) (hj : JI R' j) (h1 : ∀ c i, i ≠ j → R' c i = R c i) (h2 : ∀ c, c < 6 → R' c j = R c j) (h3 : R' 14 10 = R 14 10) : Inv R' n := by
  refine ⟨h.1, h3.trans h.2.1, fun q hq => ?_, fun r hr => ?_, fun q q' hq hq' he hn => ?_⟩
  · by_cases e : q = j
    · subst e; exact hj
    · have := h.2.2.1 q hq
      unfold JI at this ⊢
      simp only [h1 _ q e]
      exact this
  · have := h.2.2.2.1 r hr
    unfold RI at this ⊢
    by_cases e : r = j
    · subst e; rw [h2 2 (by omega), h2 4 (by omega)]; exact this
    · rw [h1 2 r e, h1 4 r e]; exact this
  · have k : ∀ q, R' 5 q = R 5 q := fun q => by
      by_cases e : q = j
      · subst e; exact h2 5 (by omega)
      · exact h1 5 q e
    rw [k, k] at he
    rw [k] at hn
    exact h.2.2.2.2 q q' hq hq' he hn
theorem blk_c {R : St} {j r c i : Nat} (h4 : c ≠ 4) (h11 : c ≠ 11) (h14 : c ≠ 14) : blk R j r c i = R c i := by
  unfold blk
  split
  · rw [setS_c _ _ _ h11, setS_c _ _ _ h14]
  · split
    · rw [setS_c _ _ _ h11, setS_c _ _ _ h14]
    · rw [setS_c _ _ _ h11, setS_c _ _ _ h14, setS_c _ _ _ h4]
theorem blk_11 {R : St} {j r : Nat} : blk R j r 11 j = R 11 j + 1 := by
  unfold blk
  split
  · exact setS_eq _ _ _ _
  · split <;> exact setS_eq _ _ _ _
theorem blk_11n {R : St} {j r i : Nat} (h : i ≠ j) : blk R j r 11 i = R 11 i := by
  unfold blk
  split
  · rw [setS_j _ _ _ h]; rfl
  · split <;> (rw [setS_j _ _ _ h]; rfl)
theorem blk_num {R : St} {j r : Nat} : blk R j r 14 10 = R 14 10 := by
  unfold blk
  split
  · rfl
  · split <;> rfl
/-- a block done by a job that runs, seen as a change of its row of numbers alone -/
theorem inv_blk {R : St} {n j r : Nat} (h : Inv R n) (hj : j < n) (h10 : R 10 j = 1) (hn : ¬ R 11 j + 1 = R 8 j) (hr : r < 12) : Inv (blk R j r) n := by
  obtain ⟨a1, a2, a3, a4, a5⟩ := h.2.2.1 j hj
  have key : ∀ Q : St, Inv Q n → (∀ c i, c ≠ 4 → c ≠ 14 → Q c i = R c i) → Inv (setS Q 11 j (R 11 j + 1)) n := by
    intro Q hQ e
    refine inv_job hQ ?_ (fun c i hi => setS_at Q 11 j _ c i ▸ by simp [hi]) (fun c hc => setS_c Q j _ (by omega) j) rfl
    refine ⟨?_, ?_, ?_, ?_, ?_⟩
    · show Q 10 j = 1 → ∃ r, r < 12 ∧ Q 12 j = nI r
      rw [e 10 j (by omega) (by omega), e 12 j (by omega) (by omega)]; exact a1
    · show ¬ Q 10 j = 1 → Q 12 j = -1
      rw [e 10 j (by omega) (by omega), e 12 j (by omega) (by omega)]; exact a2
    · show 0 ≤ Q 9 j
      rw [e 9 j (by omega) (by omega)]; exact a3
    · intro _
      rw [setS_eq]
      show R 11 j + 1 < Q 8 j
      rw [e 8 j (by omega) (by omega)]
      exact i32_next (a4 (Or.inr h10)) hn
    · show Q 10 j = 0 ∨ Q 10 j = 1 ∨ Q 10 j = 2 ∨ Q 10 j = 3
      rw [e 10 j (by omega) (by omega)]; exact a5
  unfold blk
  split
  · exact key _ (inv_num (by decide) h) (fun c i _ h14 => setS_c R _ _ h14 i)
  · split
    · exact key _ (inv_num (by decide) h) (fun c i _ h14 => setS_c R _ _ h14 i)
    · rename_i q1 q2
      have h99 : R 4 r + 1 ≤ 99 := by
        have q3 : R 4 r < 99 := Int32.lt_of_le_of_ne ((h.2.2.2.1 r hr).2) q2
        have q4 := i32_succ q3
        have q5 := Int32.lt_iff_toInt_lt.mp q3
        exact Int32.le_iff_toInt_le.mpr (by rw [q4]; omega)
      exact key _ (inv_num (by decide) (inv_4 h99 h)) (fun c i h4 h14 => (setS_c _ _ _ h14 i).trans (setS_c R _ _ h4 i))
theorem rl_eq {R : St} {j r : Nat} (h : R 12 j = nI r) (hr : r < 12) : rl R j = r := by
  unfold rl; rw [h, nI_clamp (by omega)]
theorem stp_0 {R : St} {j : Nat} (h : ¬ R 10 j = 1) : stp R j = (R, 0) := by simp [stp, h]
theorem stp_1 {R : St} {j r : Nat} (h : R 10 j = 1) (hr : r < 12) (h2 : R 12 j = nI r) (h3 : ¬ R 11 j + 1 = R 8 j) : stp R j = (blk R j r, 0) := by simp [stp, h, h3, rl_eq h2 hr]
theorem stp_2 {R : St} {j r : Nat} (h : R 10 j = 1) (hr : r < 12) (h2 : R 12 j = nI r) (h3 : R 11 j + 1 = R 8 j) : stp R j = (toff (setS (blk R j r) 10 j 2) j r, 1) := by simp [stp, h, h3, rl_eq h2 hr]
/-- a job that ends: its number, its reel off -/
theorem inv_end {R Q : St} {n j r : Nat} {s : Int32} (h : Inv R n) (hj : j < n) (hs : s = 2 ∨ s = 3) (hQ : ∀ c i, c ≠ 4 → c ≠ 11 → c ≠ 14 → Q c i = R c i) (hQ4 : ∀ r, r < 12 → Q 4 r ≤ 99) (hQn : Q 14 10 = R 14 10) (hQ11 : ∀ i, i ≠ j → Q 11 i = R 11 i) : Inv (toff (setS Q 10 j s) j r) n := by
  unfold toff
  have e : ∀ c i, i ≠ j → c ≠ 4 → c ≠ 14 → c ≠ 5 → (setS (setS (setS Q 10 j s) 5 r (-1)) 12 j (-1)) c i = R c i := by
    intro c i hi h4 h14 h5
    rw [setS_at, setS_c _ _ _ h5, setS_at]
    simp only [hi, and_false, if_false]
    by_cases h11 : c = 11
    · subst h11; exact hQ11 i hi
    · exact hQ c i h4 h11 h14
  refine ⟨h.1, hQn.trans h.2.1, fun i hi => ?_, fun q hq => ⟨?_, hQ4 q hq⟩, ?_⟩
  · by_cases hij : i = j
    · subst hij
      refine ⟨fun z => ?_, fun _ => setS_eq _ _ _ _, ?_, fun z => ?_, ?_⟩
      · exfalso
        have z' : setS Q 10 i s 10 i = 1 := z
        rw [setS_eq] at z'
        rcases hs with rfl | rfl <;> exact absurd z' (by decide)
      · show 0 ≤ Q 9 i
        rw [hQ 9 i (by omega) (by omega) (by omega)]; exact (h.2.2.1 i hi).2.2.1
      · exfalso
        have z' : setS Q 10 i s 10 i = 0 ∨ setS Q 10 i s 10 i = 1 := z
        rw [setS_eq] at z'
        rcases hs with rfl | rfl <;> exact absurd z' (by decide)
      · show setS Q 10 i s 10 i = 0 ∨ setS Q 10 i s 10 i = 1 ∨ setS Q 10 i s 10 i = 2 ∨ setS Q 10 i s 10 i = 3
        rw [setS_eq]
        rcases hs with rfl | rfl <;> decide
    · have := h.2.2.1 i hi
      unfold JI at this ⊢
      rw [e 10 i hij (by omega) (by omega) (by omega), e 12 i hij (by omega) (by omega) (by omega), e 9 i hij (by omega) (by omega) (by omega), e 11 i hij (by omega) (by omega) (by omega), e 8 i hij (by omega) (by omega) (by omega)]
      exact this
  · show Q 2 q = 0 ∨ Q 2 q = 1
    rw [hQ 2 q (by omega) (by omega) (by omega)]; exact (h.2.2.2.1 q hq).1
  · intro q q' hq hq' he hn
    have k : ∀ i, (setS (setS (setS Q 10 j s) 5 r (-1)) 12 j (-1)) 5 i = if i = r then -1 else R 5 i := fun i => by
      show (setS (setS Q 10 j s) 5 r (-1)) 5 i = _
      rw [setS_at]
      by_cases z : i = r
      · simp [z]
      · simp only [z, and_false, if_false]
        exact hQ 5 i (by omega) (by omega) (by omega)
    rw [k, k] at he
    rw [k] at hn
    by_cases z : q = r
    · simp [z] at hn
    · by_cases z' : q' = r
      · simp [z, z'] at he hn; exact absurd he hn
      · simp [z, z'] at he hn; exact h.2.2.2.2 q q' hq hq' he hn
theorem blk_4 {R : St} {n j r : Nat} (h : Inv R n) (hr : r < 12) : ∀ q, q < 12 → blk R j r 4 q ≤ 99 := by
  intro q hq
  unfold blk
  split
  · exact (h.2.2.2.1 q hq).2
  · split
    · exact (h.2.2.2.1 q hq).2
    · rename_i q1 q2
      show setS R 4 r (R 4 r + 1) 4 q ≤ 99
      by_cases z : q = r
      · subst z
        rw [setS_eq]
        have q3 : R 4 q < 99 := Int32.lt_of_le_of_ne ((h.2.2.2.1 q hr).2) q2
        have q4 := i32_succ q3
        have q5 := Int32.lt_iff_toInt_lt.mp q3
        exact Int32.le_iff_toInt_le.mpr (by rw [q4]; omega)
      · rw [setS_j _ _ _ z]; exact (h.2.2.2.1 q hq).2
theorem inv_stp {R : St} {n j : Nat} (h : Inv R n) (hj : j < n) : Inv (stp R j).1 n := by
  by_cases h1 : R 10 j = 1
  · obtain ⟨r, hr, h2⟩ := (h.2.2.1 j hj).1 h1
    by_cases h3 : R 11 j + 1 = R 8 j
    · rw [stp_2 h1 hr h2 h3]
      exact inv_end h hj (Or.inl rfl) (fun c i a b d => blk_c a b d) (blk_4 h hr) blk_num (fun i hi => blk_11n hi)
    · rw [stp_1 h1 hr h2 h3]
      exact inv_blk h hj h1 h3 hr
  · rw [stp_0 h1]; exact h
theorem inv_jl {n : Nat} : ∀ (k j : Nat) (s : St × Int32), Inv s.1 n → j + k ≤ n → Inv (jl j k s).1 n
  | 0, _, _, h, _ => h
  | k + 1, j, s, h, hj => inv_jl k (j + 1) _ (inv_stp h (by omega)) (by omega)
theorem fnd_ne {R : St} {j : Nat} (h : ¬ fnd R j = -1) : ∃ r, r < 12 ∧ fnd R j = nI r ∧ onSh R r = true := by
  rcases fst_spec (fun r => onSh R r && decide (R 1 r = want R j)) 12 0 with ⟨h1, -⟩ | ⟨r, -, h2, h3, h4, -⟩
  · exact absurd h1 h
  · exact ⟨r, by omega, h3, by simp at h4; exact h4.1⟩
theorem aft_ok {R : St} {x : Int32} {q : Nat} (hq : q < 12) (h : onSh R q = true) : ∃ r, r < 12 ∧ aft R x = nI r ∧ onSh R r = true := by
  unfold aft
  split
  · rcases fst_spec (onSh R) 12 0 with ⟨-, h2⟩ | ⟨r, -, h2, h3, h4, -⟩
    · rw [h2 q (by omega) (by omega)] at h; cases h
    · exact ⟨r, by omega, h3, h4⟩
  · rename_i z
    rcases fst_spec (fun q => onSh R q && decide (x < nI q)) 12 0 with ⟨h1, -⟩ | ⟨r, -, h2, h3, h4, -⟩
    · exact absurd h1 z
    · exact ⟨r, by omega, h3, by simp at h4; exact h4.1⟩
theorem edr_ok {R : St} (h : ¬ edr R = -1) : ∃ d, d < 3 ∧ edr R = nI d ∧ onDr R (nI d) = -1 := by
  rcases fst_spec (fun d => decide (onDr R (nI d) = -1)) 3 0 with ⟨h1, -⟩ | ⟨r, -, h2, h3, h4, -⟩
  · exact absurd h1 h
  · exact ⟨r, by omega, h3, by simpa using h4⟩
theorem onDr_no {R : St} {x : Int32} (h : onDr R x = -1) : ∀ r, r < 12 → ¬ R 5 r = x := by
  intro r hr
  rcases lst_spec (fun r => decide (R 5 r = x)) 12 with ⟨-, h2⟩ | ⟨q, h1, h2, h3, -⟩
  · simpa using h2 r hr
  · have e : onDr R x = nI q := h2
    rw [e] at h
    exact absurd h (nI_ne (by omega))
theorem inv_mnt {R : St} {n j r d : Nat} (h : Inv R n) (hj : j < n) (hr : r < 12) (h10 : R 10 j = 0) (hd : d < 3) (he : onDr R (nI d) = -1) : Inv (mnt R j r (nI d)) n := by
  have key : Inv (setS (setS (setS R 5 r (nI d)) 10 j 1) 12 j (nI r)) n := by
    refine inv_job (R := setS R 5 r (nI d)) (j := j) ⟨h.1, h.2.1, h.2.2.1, h.2.2.2.1, ?_⟩ ?_ ?_ ?_ rfl
    · intro q q' hq hq' e hn
      rw [setS_at, setS_at] at e
      rw [setS_at] at hn
      by_cases z : q = r
      · by_cases z' : q' = r
        · rw [z, z']
        · simp [z, z'] at e; exact absurd e.symm (onDr_no he q' hq')
      · by_cases z' : q' = r
        · simp [z, z'] at e; exact absurd e (onDr_no he q hq)
        · simp [z, z'] at e hn; exact h.2.2.2.2 q q' hq hq' e hn
    · obtain ⟨a1, a2, a3, a4, a5⟩ := h.2.2.1 j hj
      have b10 : (setS (setS (setS R 5 r (nI d)) 10 j 1) 12 j (nI r)) 10 j = 1 := setS_eq (setS R 5 r (nI d)) 10 j 1
      refine ⟨fun _ => ⟨r, hr, setS_eq _ _ _ _⟩, fun z => absurd b10 z, a3, fun _ => a4 (Or.inl h10), Or.inr (Or.inl b10)⟩
    · intro c i hi
      rw [setS_at, setS_at]; simp [hi]
    · intro c hc
      rw [setS_c _ _ _ (by omega), setS_c _ _ _ (by omega)]
  unfold mnt
  split
  · exact inv_4 (by decide) (inv_3 (inv_1 (inv_0 key)))
  · exact key
theorem inv_sbk {R : St} {n j r : Nat} (h : Inv R n) : Inv (sbk R j r) n := inv_num (by decide) (inv_13 (inv_1 h))
theorem inv_srv2 {R : St} {n j r d : Nat} (h : Inv R n) (hj : j < n) (hr : r < 12) (h10 : R 10 j = 0) (hd : d < 3) (he : onDr R (nI d) = -1) : Inv (srv2 R j r (nI d)) n := by
  unfold srv2
  split
  · exact inv_mnt h hj hr h10 hd he
  · exact inv_sbk h
theorem inv_srv {R : St} {n j d : Nat} (h : Inv R n) (hj : j < n) (h10 : R 10 j = 0) (hf : ¬ fnd R j = -1) (hd : d < 3) (he : onDr R (nI d) = -1) : Inv (srv R j (nI d)) n := by
  obtain ⟨r, hr, e1, e2⟩ := fnd_ne hf
  obtain ⟨r2, hr2, e3, -⟩ := aft_ok (x := fnd R j) hr e2
  unfold srv
  split
  · rw [e3, nI_clamp (by omega)]
    exact inv_srv2 (inv_num (by decide) (inv_num (by decide) h)) hj hr2 h10 hd he
  · rw [e1, nI_clamp (by omega)]
    refine inv_srv2 (inv_2 ?_ (inv_num (by decide) h)) hj hr h10 hd he
    split
    · exact Or.inl rfl
    · exact Or.inr rfl
theorem nxt_ok {R : St} {n : Nat} (h : ¬ nxt R n = -1) : ∃ q, q < n ∧ nxt R n = nI q ∧ R 10 q = 0 ∧ ¬ fnd R q = -1 := by
  obtain ⟨q, -, h2, h3, h4⟩ := best_ne h
  simp [elig] at h4
  exact ⟨q, by omega, h3, h4.1, h4.2⟩
theorem sstep_0 {R : St} {n : Nat} (h : nxt R n = -1 ∨ edr R = -1) : sstep R n = R := by
  unfold sstep
  rw [if_neg]
  rintro ⟨a, b⟩
  exact h.elim a b
theorem sstep_1 {R : St} {n q : Nat} (h : ¬ nxt R n = -1) (h2 : ¬ edr R = -1) (hq : nxt R n = nI q) (hq2 : q < 12) : sstep R n = srv R q (edr R) := by
  unfold sstep
  rw [if_pos ⟨h, h2⟩, hq, nI_clamp (by omega)]
theorem inv_sstep {R : St} {n : Nat} (h : Inv R n) : Inv (sstep R n) n := by
  by_cases h1 : nxt R n = -1
  · rw [sstep_0 (Or.inl h1)]; exact h
  · by_cases h2 : edr R = -1
    · rw [sstep_0 (Or.inr h2)]; exact h
    · obtain ⟨q, hq, e1, e2, e3⟩ := nxt_ok h1
      obtain ⟨d, hd, e4, e5⟩ := edr_ok h2
      rw [sstep_1 h1 h2 e1 (by have := h.1; omega), e4]
      exact inv_srv h hq e2 e3 hd e5
theorem inv_minu {R : St} {n : Nat} (h : Inv R n) : Inv (minu R n).1 n := inv_num (by decide) (inv_sstep (inv_jl n 0 (R, 0) h (by omega)))
theorem inv_pas {n : Nat} : ∀ (k : Nat) (s : St × Int32), Inv s.1 n → Inv (pas n k s).1 n
  | 0, _, h => h
  | k + 1, s, h => inv_pas k _ (inv_minu h)
end
section
set_option maxRecDepth 100000 in
set_option maxHeartbeats 4000000 in
theorem m_mount {g : zG} {b : Nat → Nat} {R : St} {F : Nat → Nat → Int32} {V : Nat → Int32} {j r : Nat} (hj : j < 12) (hr : r < 12) {x : Int32} : Gv g yX6_mount cX6_mount 4 2 [.ref (b 0), .int (nI j), .int (nI r), .int x] (mW g.2 b R F V) (mW g.2 b (mnt R j r x) F V) := by
  refine fv_entry (by decide) (Nat.le_of_ble_eq_true rfl) (fun C hC hm _ hE => ?_)
  refine z_aln (pc := 0) hC 0 rfl dX6_mount_0 ?_
  refine z_iln (pc := 1) hC 2 rfl dX6_mount_1 ?_
  refine z_iconst (pc := 2) (v := 5) hC dX6_mount_2 (by decide) ?_
  refine z_iln (pc := 3) hC 3 rfl dX6_mount_3 ?_
  refine z_gv (pc := 4) (rest := []) hC vX6_put lX6_34 dX6_mount_4 (m_put (w := 5) (v := x) hr (by decide)) (fun w => w) isCtx_id rfl 0 6 rfl rfl rfl rfl rfl (by decide) (Nat.le_of_ble_eq_true rfl) ⟨Nat.le_refl _, Nat.le_refl _⟩ ?_
  refine z_aln (pc := 7) hC 0 rfl dX6_mount_7 ?_
  refine z_iln (pc := 8) hC 1 rfl dX6_mount_8 ?_
  refine z_iconst (pc := 9) (v := 4) hC dX6_mount_9 (by decide) ?_
  refine z_iconst (pc := 10) (v := 1) hC dX6_mount_10 (by decide) ?_
  refine z_gv (pc := 11) (rest := []) hC vX6_putJob lX6_73 dX6_mount_11 (m_putJob (c := 10) (w := 4) (v := 1) hj (by decide) rfl) (fun w => w) isCtx_id rfl 0 6 rfl rfl rfl rfl rfl (by decide) (Nat.le_of_ble_eq_true rfl) ⟨Nat.le_refl _, Nat.le_refl _⟩ ?_
  refine z_aln (pc := 14) hC 0 rfl dX6_mount_14 ?_
  refine z_iln (pc := 15) hC 1 rfl dX6_mount_15 ?_
  refine z_bipush (pc := 16) (v := 6) hC dX6_mount_16 (by decide) ?_
  refine z_iln (pc := 18) hC 2 rfl dX6_mount_18 ?_
  refine z_gv (pc := 19) (rest := []) hC vX6_putJob lX6_73 dX6_mount_19 (m_putJob (c := 12) (w := 6) (v := nI r) hj (by decide) rfl) (fun w => w) isCtx_id rfl 0 6 rfl rfl rfl rfl rfl (by decide) (Nat.le_of_ble_eq_true rfl) ⟨Nat.le_refl _, Nat.le_refl _⟩ ?_
  refine z_aln (pc := 22) hC 0 rfl dX6_mount_22 ?_
  refine z_iln (pc := 23) hC 1 rfl dX6_mount_23 ?_
  refine z_iconst (pc := 24) (v := 0) hC dX6_mount_24 (by decide) ?_
  refine z_g (pc := 25) (rest := []) hC vX6_ofJob lX6_57 dX6_mount_25 (m_ofJob (c := 6) (w := 0) hj (by decide) rfl) (fun w => w) isCtx_id rfl 0 6 rfl rfl rfl rfl rfl (by decide) (Nat.le_of_ble_eq_true rfl) ⟨Nat.le_refl _, Nat.le_refl _⟩ ?_
  refine z_is_ (y := R 6 j) rfl ?_
  refine z_iconst (pc := 28) (v := 2) hC dX6_mount_28 (by decide) ?_
  refine z_icne (pc := 29) hC 83 (by decide) dX6_mount_29 (fun c29 => ?_) (fun c29 => ?_)
  · exact hE _ _ () _ _ _ dX6_mount_83 trivial (by rw [mnt, if_neg c29]) (Nat.le_refl _) (Nat.le_refl _)
  · refine z_aln (pc := 32) hC 0 rfl dX6_mount_32 ?_
    refine z_iln (pc := 33) hC 2 rfl dX6_mount_33 ?_
    refine z_iconst (pc := 34) (v := 0) hC dX6_mount_34 (by decide) ?_
    refine z_aln (pc := 35) hC 0 rfl dX6_mount_35 ?_
    refine z_iln (pc := 36) hC 1 rfl dX6_mount_36 ?_
    refine z_iconst (pc := 37) (v := 1) hC dX6_mount_37 (by decide) ?_
    refine z_g (pc := 38) (rest := [.int 0, .int (nI r), .ref (b 0)]) hC vX6_ofJob lX6_57 dX6_mount_38 (m_ofJob (c := 7) (w := 1) hj (by decide) rfl) (fun w => w) isCtx_id rfl 0 6 rfl rfl rfl rfl rfl (by decide) (Nat.le_of_ble_eq_true rfl) ⟨Nat.le_refl _, Nat.le_refl _⟩ ?_
    refine z_is_ (y := R 7 j) rfl ?_
    refine z_gv (pc := 41) (rest := []) hC vX6_put lX6_34 dX6_mount_41 (m_put (w := 0) (v := R 7 j) hr (by decide)) (fun w => w) isCtx_id rfl 0 6 rfl rfl rfl rfl rfl (by decide) (Nat.le_of_ble_eq_true rfl) ⟨Nat.le_refl _, Nat.le_refl _⟩ ?_
    refine z_aln (pc := 44) hC 0 rfl dX6_mount_44 ?_
    refine z_iln (pc := 45) hC 2 rfl dX6_mount_45 ?_
    refine z_iconst (pc := 46) (v := 1) hC dX6_mount_46 (by decide) ?_
    refine z_aln (pc := 47) hC 0 rfl dX6_mount_47 ?_
    refine z_iln (pc := 48) hC 1 rfl dX6_mount_48 ?_
    refine z_iconst (pc := 49) (v := 1) hC dX6_mount_49 (by decide) ?_
    refine z_g (pc := 50) (rest := [.int 1, .int (nI r), .ref (b 0)]) hC vX6_ofJob lX6_57 dX6_mount_50 (m_ofJob (c := 7) (w := 1) hj (by decide) rfl) (fun w => w) isCtx_id rfl 0 6 rfl rfl rfl rfl rfl (by decide) (Nat.le_of_ble_eq_true rfl) ⟨Nat.le_refl _, Nat.le_refl _⟩ ?_
    refine z_is_ (y := R 7 j) rfl ?_
    refine z_gv (pc := 53) (rest := []) hC vX6_put lX6_34 dX6_mount_53 (m_put (w := 1) (v := R 7 j) hr (by decide)) (fun w => w) isCtx_id rfl 0 6 rfl rfl rfl rfl rfl (by decide) (Nat.le_of_ble_eq_true rfl) ⟨Nat.le_refl _, Nat.le_refl _⟩ ?_
    refine z_aln (pc := 56) hC 0 rfl dX6_mount_56 ?_
    refine z_iln (pc := 57) hC 2 rfl dX6_mount_57 ?_
    refine z_iconst (pc := 58) (v := 3) hC dX6_mount_58 (by decide) ?_
    refine z_aln (pc := 59) hC 0 rfl dX6_mount_59 ?_
    refine z_get (pc := 60) hC fX6_7 0 rfl rfl dX6_mount_60 ?_
    refine z_iconst (pc := 63) (v := 0) hC dX6_mount_63 (by decide) ?_
    refine z_iald (pc := 64) hC 1 rfl dX6_mount_64 0 rfl (by decide) (by decide) ?_
    refine z_is_ (y := R 14 0) (flat_num _ (by decide)) ?_
    refine z_aln (pc := 65) hC 0 rfl dX6_mount_65 ?_
    refine z_get (pc := 66) hC fX6_7 0 rfl rfl dX6_mount_66 ?_
    refine z_bipush (pc := 69) (v := 9) hC dX6_mount_69 (by decide) ?_
    refine z_iald (pc := 71) hC 1 rfl dX6_mount_71 9 rfl (by decide) (by decide) ?_
    refine z_is_ (y := R 14 9) (flat_num _ (by decide)) ?_
    refine z_iadd (pc := 72) (v := (R 14 0) + (R 14 9)) hC rfl dX6_mount_72 ?_
    refine z_gv (pc := 73) (rest := []) hC vX6_put lX6_34 dX6_mount_73 (m_put (w := 3) (v := R 14 0 + R 14 9) hr (by decide)) (fun w => w) isCtx_id rfl 0 6 rfl rfl rfl rfl rfl (by decide) (Nat.le_of_ble_eq_true rfl) ⟨Nat.le_refl _, Nat.le_refl _⟩ ?_
    refine z_aln (pc := 76) hC 0 rfl dX6_mount_76 ?_
    refine z_iln (pc := 77) hC 2 rfl dX6_mount_77 ?_
    refine z_iconst (pc := 78) (v := 4) hC dX6_mount_78 (by decide) ?_
    refine z_iconst (pc := 79) (v := 0) hC dX6_mount_79 (by decide) ?_
    refine z_gv (pc := 80) (rest := []) hC vX6_put lX6_34 dX6_mount_80 (m_put (w := 4) (v := 0) hr (by decide)) (fun w => w) isCtx_id rfl 0 6 rfl rfl rfl rfl rfl (by decide) (Nat.le_of_ble_eq_true rfl) ⟨Nat.le_refl _, Nat.le_refl _⟩ ?_
    exact hE _ _ () _ _ _ dX6_mount_83 trivial (by rw [mnt, if_pos c29]) (Nat.le_refl _) (Nat.le_refl _)

set_option maxRecDepth 100000 in
set_option maxHeartbeats 4000000 in
theorem m_takeOff {g : zG} {b : Nat → Nat} {R : St} {F : Nat → Nat → Int32} {V : Nat → Int32} {j r : Nat} (hj : j < 12) (hr : r < 12) (h : R 12 j = nI r) : Gv g yX6_takeOff cX6_takeOff 2 2 [.ref (b 0), .int (nI j)] (mW g.2 b R F V) (mW g.2 b (toff R j r) F V) := by
  refine fv_entry (by decide) (Nat.le_of_ble_eq_true rfl) (fun C hC hm _ hE => ?_)
  refine z_aln (pc := 0) hC 0 rfl dX6_takeOff_0 ?_
  refine z_aln (pc := 1) hC 0 rfl dX6_takeOff_1 ?_
  refine z_iln (pc := 2) hC 1 rfl dX6_takeOff_2 ?_
  refine z_bipush (pc := 3) (v := 6) hC dX6_takeOff_3 (by decide) ?_
  refine z_g (pc := 5) (rest := [.ref (b 0)]) hC vX6_ofJob lX6_57 dX6_takeOff_5 (m_ofJob (c := 12) (w := 6) hj (by decide) rfl) (fun w => w) isCtx_id rfl 0 6 rfl rfl rfl rfl rfl (by decide) (Nat.le_of_ble_eq_true rfl) ⟨Nat.le_refl _, Nat.le_refl _⟩ ?_
  refine z_is_ (y := nI r) h ?_
  refine z_iconst (pc := 8) (v := 5) hC dX6_takeOff_8 (by decide) ?_
  refine z_iconst (pc := 9) (v := -1) hC dX6_takeOff_9 (by decide) ?_
  refine z_gv (pc := 10) (rest := []) hC vX6_put lX6_34 dX6_takeOff_10 (m_put (w := 5) (v := -1) hr (by decide)) (fun w => w) isCtx_id rfl 0 6 rfl rfl rfl rfl rfl (by decide) (Nat.le_of_ble_eq_true rfl) ⟨Nat.le_refl _, Nat.le_refl _⟩ ?_
  refine z_aln (pc := 13) hC 0 rfl dX6_takeOff_13 ?_
  refine z_iln (pc := 14) hC 1 rfl dX6_takeOff_14 ?_
  refine z_bipush (pc := 15) (v := 6) hC dX6_takeOff_15 (by decide) ?_
  refine z_iconst (pc := 17) (v := -1) hC dX6_takeOff_17 (by decide) ?_
  refine z_gv (pc := 18) (rest := []) hC vX6_putJob lX6_73 dX6_takeOff_18 (m_putJob (c := 12) (w := 6) (v := -1) hj (by decide) rfl) (fun w => w) isCtx_id rfl 0 6 rfl rfl rfl rfl rfl (by decide) (Nat.le_of_ble_eq_true rfl) ⟨Nat.le_refl _, Nat.le_refl _⟩ ?_
  exact hE _ _ () _ _ _ dX6_takeOff_21 trivial rfl (Nat.le_refl _) (Nat.le_refl _)

set_option maxRecDepth 100000 in
set_option maxHeartbeats 4000000 in
theorem m_isDoneNow {g : zG} {b : Nat → Nat} {R : St} {F : Nat → Nat → Int32} {V : Nat → Int32} {j r : Nat} (hj : j < 12) (hr : r < 12) (h : R 12 j = nI r) : Gi g yX6_isDoneNow cX6_isDoneNow 3 .boolean 2 [.ref (b 0), .int (nI j)] (mW g.2 b R F V) (bI (decide (R 11 j + 1 = R 8 j))) (mW g.2 b (blk R j r) F V) := by
  refine fi_entry (by decide) (Nat.le_of_ble_eq_true rfl) (fun C hC hm hE => ?_)
  have J : ∀ Q : St, Q 11 j = R 11 j → Q 8 j = R 8 j → blk R j r = setS Q 11 j (R 11 j + 1) → Z g C 0 0 (mW g.2 b Q F V) [(2, .int (nI r)), (0, .ref (b 0)), (1, .int (nI j))] 80 [] := by
    intro Q e1 e2 e3
    refine z_aln (pc := 80) hC 1 rfl dX6_isDoneNow_80 ?_
    refine z_iln (pc := 81) hC 2 rfl dX6_isDoneNow_81 ?_
    refine z_iconst (pc := 82) (v := 5) hC dX6_isDoneNow_82 (by decide) ?_
    refine z_aln (pc := 83) hC 1 rfl dX6_isDoneNow_83 ?_
    refine z_iln (pc := 84) hC 2 rfl dX6_isDoneNow_84 ?_
    refine z_iconst (pc := 85) (v := 5) hC dX6_isDoneNow_85 (by decide) ?_
    refine z_g (pc := 86) (rest := [.int 5, .int (nI j), .ref (b 0)]) hC vX6_ofJob lX6_57 dX6_isDoneNow_86 (m_ofJob (c := 11) (w := 5) hj (by decide) rfl) (fun w => w) isCtx_id rfl 0 6 rfl rfl rfl rfl rfl (by decide) (Nat.le_of_ble_eq_true rfl) ⟨Nat.le_refl _, Nat.le_refl _⟩ ?_
    refine z_is_ (y := R 11 j) e1 ?_
    refine z_iconst (pc := 89) (v := 1) hC dX6_isDoneNow_89 (by decide) ?_
    refine z_iadd (pc := 90) (v := (R 11 j) + 1) hC rfl dX6_isDoneNow_90 ?_
    refine z_gv (pc := 91) (rest := []) hC vX6_putJob lX6_73 dX6_isDoneNow_91 (m_putJob (c := 11) (w := 5) (v := R 11 j + 1) hj (by decide) rfl) (fun w => w) isCtx_id rfl 0 6 rfl rfl rfl rfl rfl (by decide) (Nat.le_of_ble_eq_true rfl) ⟨Nat.le_refl _, Nat.le_refl _⟩ ?_
    refine z_aln (pc := 94) hC 1 rfl dX6_isDoneNow_94 ?_
    refine z_iln (pc := 95) hC 2 rfl dX6_isDoneNow_95 ?_
    refine z_iconst (pc := 96) (v := 5) hC dX6_isDoneNow_96 (by decide) ?_
    refine z_g (pc := 97) (rest := []) hC vX6_ofJob lX6_57 dX6_isDoneNow_97 (m_ofJob (c := 11) (w := 5) hj (by decide) rfl) (fun w => w) isCtx_id rfl 0 6 rfl rfl rfl rfl rfl (by decide) (Nat.le_of_ble_eq_true rfl) ⟨Nat.le_refl _, Nat.le_refl _⟩ ?_
    refine z_is_ (y := R 11 j + 1) (setS_eq _ _ _ _) ?_
    refine z_aln (pc := 100) hC 1 rfl dX6_isDoneNow_100 ?_
    refine z_iln (pc := 101) hC 2 rfl dX6_isDoneNow_101 ?_
    refine z_iconst (pc := 102) (v := 2) hC dX6_isDoneNow_102 (by decide) ?_
    refine z_g (pc := 103) (rest := [.int (R 11 j + 1)]) hC vX6_ofJob lX6_57 dX6_isDoneNow_103 (m_ofJob (c := 8) (w := 2) hj (by decide) rfl) (fun w => w) isCtx_id rfl 0 6 rfl rfl rfl rfl rfl (by decide) (Nat.le_of_ble_eq_true rfl) ⟨Nat.le_refl _, Nat.le_refl _⟩ ?_
    refine z_is_ (y := R 8 j) e2 ?_
    refine z_icne (pc := 106) hC 113 (by decide) dX6_isDoneNow_106 (fun c106 => ?_) (fun c106 => ?_)
    · refine z_iconst (pc := 113) (v := 0) hC dX6_isDoneNow_113 (by decide) ?_
      exact hE _ _ _ () _ _ _ dX6_isDoneNow_114 rfl (bI_f (by simp [c106])) (by rw [e3]) (Nat.le_refl _) (Nat.le_refl _)
    · refine z_iconst (pc := 109) (v := 1) hC dX6_isDoneNow_109 (by decide) ?_
      refine z_goto (pc := 110) hC 114 (by decide) dX6_isDoneNow_110 ?_
      exact hE _ _ _ () _ _ _ dX6_isDoneNow_114 rfl (bI_t (by simp [c106])) (by rw [e3]) (Nat.le_refl _) (Nat.le_refl _)
  refine z_aln (pc := 0) hC 0 rfl dX6_isDoneNow_0 ?_
  refine z_iln (pc := 1) hC 1 rfl dX6_isDoneNow_1 ?_
  refine z_bipush (pc := 2) (v := 6) hC dX6_isDoneNow_2 (by decide) ?_
  refine z_g (pc := 4) (rest := []) hC vX6_ofJob lX6_57 dX6_isDoneNow_4 (m_ofJob (c := 12) (w := 6) hj (by decide) rfl) (fun w => w) isCtx_id rfl 0 6 rfl rfl rfl rfl rfl (by decide) (Nat.le_of_ble_eq_true rfl) ⟨Nat.le_refl _, Nat.le_refl _⟩ ?_
  refine z_is_ (y := nI r) h ?_
  refine z_isn (pc := 7) (lv' := [(2, .int (nI r)), (0, .ref (b 0)), (1, .int (nI j))]) hC hm (by decide) rfl dX6_isDoneNow_7 ?_
  refine z_aln (pc := 8) hC 1 rfl dX6_isDoneNow_8 ?_
  refine z_iln (pc := 9) hC 2 rfl dX6_isDoneNow_9 ?_
  refine z_iconst (pc := 10) (v := 0) hC dX6_isDoneNow_10 (by decide) ?_
  refine z_g (pc := 11) (rest := []) hC vX6_ofJob lX6_57 dX6_isDoneNow_11 (m_ofJob (c := 6) (w := 0) hj (by decide) rfl) (fun w => w) isCtx_id rfl 0 6 rfl rfl rfl rfl rfl (by decide) (Nat.le_of_ble_eq_true rfl) ⟨Nat.le_refl _, Nat.le_refl _⟩ ?_
  refine z_ifne (pc := 14) hC 30 (by decide) dX6_isDoneNow_14 (fun c14 => ?_) (fun c14 => ?_)
  · refine z_aln (pc := 30) hC 1 rfl dX6_isDoneNow_30 ?_
    refine z_iln (pc := 31) hC 0 rfl dX6_isDoneNow_31 ?_
    refine z_iconst (pc := 32) (v := 4) hC dX6_isDoneNow_32 (by decide) ?_
    refine z_g (pc := 33) (rest := []) hC vX6_of lX6_46 dX6_isDoneNow_33 (m_of (w := 4) hr (by decide)) (fun w => w) isCtx_id rfl 0 6 rfl rfl rfl rfl rfl (by decide) (Nat.le_of_ble_eq_true rfl) ⟨Nat.le_refl _, Nat.le_refl _⟩ ?_
    refine z_bipush (pc := 36) (v := 99) hC dX6_isDoneNow_36 (by decide) ?_
    refine z_icne (pc := 38) hC 55 (by decide) dX6_isDoneNow_38 (fun c38 => ?_) (fun c38 => ?_)
    · refine z_aln (pc := 55) hC 1 rfl dX6_isDoneNow_55 ?_
      refine z_iln (pc := 56) hC 0 rfl dX6_isDoneNow_56 ?_
      refine z_iconst (pc := 57) (v := 4) hC dX6_isDoneNow_57 (by decide) ?_
      refine z_aln (pc := 58) hC 1 rfl dX6_isDoneNow_58 ?_
      refine z_iln (pc := 59) hC 0 rfl dX6_isDoneNow_59 ?_
      refine z_iconst (pc := 60) (v := 4) hC dX6_isDoneNow_60 (by decide) ?_
      refine z_g (pc := 61) (rest := [.int 4, .int (nI r), .ref (b 0)]) hC vX6_of lX6_46 dX6_isDoneNow_61 (m_of (w := 4) hr (by decide)) (fun w => w) isCtx_id rfl 0 6 rfl rfl rfl rfl rfl (by decide) (Nat.le_of_ble_eq_true rfl) ⟨Nat.le_refl _, Nat.le_refl _⟩ ?_
      refine z_iconst (pc := 64) (v := 1) hC dX6_isDoneNow_64 (by decide) ?_
      refine z_iadd (pc := 65) (v := (R 4 r) + 1) hC rfl dX6_isDoneNow_65 ?_
      refine z_gv (pc := 66) (rest := []) hC vX6_put lX6_34 dX6_isDoneNow_66 (m_put (w := 4) (v := R 4 r + 1) hr (by decide)) (fun w => w) isCtx_id rfl 0 6 rfl rfl rfl rfl rfl (by decide) (Nat.le_of_ble_eq_true rfl) ⟨Nat.le_refl _, Nat.le_refl _⟩ ?_
      refine z_aln (pc := 69) hC 1 rfl dX6_isDoneNow_69 ?_
      refine z_get (pc := 70) hC fX6_7 0 rfl rfl dX6_isDoneNow_70 ?_
      refine z_bipush (pc := 73) (v := 6) hC dX6_isDoneNow_73 (by decide) ?_
      refine z_dup2 (pc := 75) hC rfl rfl dX6_isDoneNow_75 ?_
      refine z_iald (pc := 76) hC 1 rfl dX6_isDoneNow_76 6 rfl (by decide) (by decide) ?_
      refine z_is_ (y := R 14 6) (flat_num _ (by decide)) ?_
      refine z_iconst (pc := 77) (v := 1) hC dX6_isDoneNow_77 (by decide) ?_
      refine z_iadd (pc := 78) (v := (R 14 6) + 1) hC rfl dX6_isDoneNow_78 ?_
      refine z_iast (pc := 79) (ws' := mW g.2 b (setS (setS R 4 r (R 4 r + 1)) 14 6 ((R 14 6) + 1)) F V) hC 1 rfl dX6_isDoneNow_79 6 rfl (by decide) (by decide) (mW_n (by decide)) ?_
      refine z_lv [0, 1, 2] rfl ?_
      exact J _ rfl rfl (by rw [blk, if_neg c14, if_neg c38])
    · refine z_aln (pc := 41) hC 1 rfl dX6_isDoneNow_41 ?_
      refine z_get (pc := 42) hC fX6_7 0 rfl rfl dX6_isDoneNow_42 ?_
      refine z_bipush (pc := 45) (v := 7) hC dX6_isDoneNow_45 (by decide) ?_
      refine z_dup2 (pc := 47) hC rfl rfl dX6_isDoneNow_47 ?_
      refine z_iald (pc := 48) hC 1 rfl dX6_isDoneNow_48 7 rfl (by decide) (by decide) ?_
      refine z_is_ (y := R 14 7) (flat_num R (by decide)) ?_
      refine z_iconst (pc := 49) (v := 1) hC dX6_isDoneNow_49 (by decide) ?_
      refine z_iadd (pc := 50) (v := (R 14 7) + 1) hC rfl dX6_isDoneNow_50 ?_
      refine z_iast (pc := 51) (ws' := mW g.2 b (setS R 14 7 ((R 14 7) + 1)) F V) hC 1 rfl dX6_isDoneNow_51 7 rfl (by decide) (by decide) (mW_n (by decide)) ?_
      refine z_goto (pc := 52) hC 80 (by decide) dX6_isDoneNow_52 ?_
      refine z_lv [0, 1, 2] rfl ?_
      exact J _ rfl rfl (by rw [blk, if_neg c14, if_pos c38])
  · refine z_aln (pc := 17) hC 1 rfl dX6_isDoneNow_17 ?_
    refine z_get (pc := 18) hC fX6_7 0 rfl rfl dX6_isDoneNow_18 ?_
    refine z_iconst (pc := 21) (v := 5) hC dX6_isDoneNow_21 (by decide) ?_
    refine z_dup2 (pc := 22) hC rfl rfl dX6_isDoneNow_22 ?_
    refine z_iald (pc := 23) hC 1 rfl dX6_isDoneNow_23 5 rfl (by decide) (by decide) ?_
    refine z_is_ (y := R 14 5) (flat_num R (by decide)) ?_
    refine z_iconst (pc := 24) (v := 1) hC dX6_isDoneNow_24 (by decide) ?_
    refine z_iadd (pc := 25) (v := (R 14 5) + 1) hC rfl dX6_isDoneNow_25 ?_
    refine z_iast (pc := 26) (ws' := mW g.2 b (setS R 14 5 ((R 14 5) + 1)) F V) hC 1 rfl dX6_isDoneNow_26 5 rfl (by decide) (by decide) (mW_n (by decide)) ?_
    refine z_goto (pc := 27) hC 80 (by decide) dX6_isDoneNow_27 ?_
    refine z_lv [0, 1, 2] rfl ?_
    exact J _ rfl rfl (by rw [blk, if_pos c14])

set_option maxRecDepth 100000 in
set_option maxHeartbeats 4000000 in
theorem m_serve {g : zG} {b : Nat → Nat} {R : St} {F : Nat → Nat → Int32} {V : Nat → Int32} {j : Nat} (hj : j < 12) (hne : ¬ fnd R j = -1) {x : Int32} : Gv g yX6_serve cX6_serve 4 3 [.ref (b 0), .int (nI j), .int x] (mW g.2 b R F V) (mW g.2 b (srv R j x) F V) := by
  refine fv_entry (by decide) (Nat.le_of_ble_eq_true rfl) (fun C hC hm _ hE => ?_)
  obtain ⟨r, hr, hf, hon⟩ := fnd_ne hne
  obtain ⟨r2, hr2, ha, -⟩ := aft_ok (x := nI r) hr hon
  have J : ∀ (Q : St) (q : Nat), q < 12 → srv R j x = srv2 Q j q x → Z g C 0 0 (mW g.2 b Q F V) [(3, .int (nI q)), (0, .ref (b 0)), (1, .int (nI j)), (2, .int x)] 68 [] := by
    intro Q q hq e1
    refine z_aln (pc := 68) hC 1 rfl dX6_serve_68 ?_
    refine z_iln (pc := 69) hC 2 rfl dX6_serve_69 ?_
    refine z_iln (pc := 70) hC 0 rfl dX6_serve_70 ?_
    refine z_g (pc := 71) (rest := []) hC vX6_check lX6_82 dX6_serve_71 (m_check hj hq) (fun w => w) isCtx_id rfl 0 6 rfl rfl rfl rfl rfl (by decide) (Nat.le_of_ble_eq_true rfl) ⟨Nat.le_refl _, Nat.le_refl _⟩ ?_
    refine z_ifne (pc := 74) hC 87 (by decide) dX6_serve_74 (fun c74 => ?_) (fun c74 => ?_)
    · refine z_aln (pc := 87) hC 1 rfl dX6_serve_87 ?_
      refine z_iln (pc := 88) hC 0 rfl dX6_serve_88 ?_
      refine z_iconst (pc := 89) (v := 1) hC dX6_serve_89 (by decide) ?_
      refine z_aln (pc := 90) hC 1 rfl dX6_serve_90 ?_
      refine z_iln (pc := 91) hC 0 rfl dX6_serve_91 ?_
      refine z_g (pc := 92) (rest := [.int 1, .int (nI q), .ref (b 0)]) hC vX6_isScratch lX6_67 dX6_serve_92 (m_isScratch hq) (fun w => w) isCtx_id rfl 0 6 rfl rfl rfl rfl rfl (by decide) (Nat.le_of_ble_eq_true rfl) ⟨Nat.le_refl _, Nat.le_refl _⟩ ?_
      refine z_ifeq (pc := 95) hC 102 (by decide) dX6_serve_95 (fun c95 => ?_) (fun c95 => ?_)
      · refine z_aln (pc := 102) hC 1 rfl dX6_serve_102 ?_
        refine z_iln (pc := 103) hC 0 rfl dX6_serve_103 ?_
        refine z_iconst (pc := 104) (v := 0) hC dX6_serve_104 (by decide) ?_
        refine z_g (pc := 105) (rest := [.int 1, .int (nI q), .ref (b 0)]) hC vX6_of lX6_46 dX6_serve_105 (m_of (w := 0) hq (by decide)) (fun w => w) isCtx_id rfl 0 6 rfl rfl rfl rfl rfl (by decide) (Nat.le_of_ble_eq_true rfl) ⟨Nat.le_refl _, Nat.le_refl _⟩ ?_
        refine z_is_ (y := if scr Q q = true then 0 else Q 0 q) (by simp [bI_0.mp c95]) ?_
        refine z_gv (pc := 108) (rest := []) hC vX6_put lX6_34 dX6_serve_108 (m_put (w := 1) (v := if scr Q q = true then 0 else Q 0 q) hq (by decide)) (fun w => w) isCtx_id rfl 0 6 rfl rfl rfl rfl rfl (by decide) (Nat.le_of_ble_eq_true rfl) ⟨Nat.le_refl _, Nat.le_refl _⟩ ?_
        refine z_aln (pc := 111) hC 1 rfl dX6_serve_111 ?_
        refine z_iln (pc := 112) hC 2 rfl dX6_serve_112 ?_
        refine z_bipush (pc := 113) (v := 7) hC dX6_serve_113 (by decide) ?_
        refine z_aln (pc := 115) hC 1 rfl dX6_serve_115 ?_
        refine z_iln (pc := 116) hC 2 rfl dX6_serve_116 ?_
        refine z_bipush (pc := 117) (v := 7) hC dX6_serve_117 (by decide) ?_
        refine z_g (pc := 119) (rest := [.int 7, .int (nI j), .ref (b 0)]) hC vX6_ofJob lX6_57 dX6_serve_119 (m_ofJob (c := 13) (w := 7) hj (by decide) rfl) (fun w => w) isCtx_id rfl 0 6 rfl rfl rfl rfl rfl (by decide) (Nat.le_of_ble_eq_true rfl) ⟨Nat.le_refl _, Nat.le_refl _⟩ ?_
        refine z_is_ (y := Q 13 j) rfl ?_
        refine z_iconst (pc := 122) (v := 1) hC dX6_serve_122 (by decide) ?_
        refine z_iadd (pc := 123) (v := (Q 13 j) + 1) hC rfl dX6_serve_123 ?_
        refine z_gv (pc := 124) (rest := []) hC vX6_putJob lX6_73 dX6_serve_124 (m_putJob (c := 13) (w := 7) (v := Q 13 j + 1) hj (by decide) rfl) (fun w => w) isCtx_id rfl 0 6 rfl rfl rfl rfl rfl (by decide) (Nat.le_of_ble_eq_true rfl) ⟨Nat.le_refl _, Nat.le_refl _⟩ ?_
        refine z_aln (pc := 127) hC 1 rfl dX6_serve_127 ?_
        refine z_get (pc := 128) hC fX6_7 0 rfl rfl dX6_serve_128 ?_
        refine z_iconst (pc := 131) (v := 4) hC dX6_serve_131 (by decide) ?_
        refine z_dup2 (pc := 132) hC rfl rfl dX6_serve_132 ?_
        refine z_iald (pc := 133) hC 1 rfl dX6_serve_133 4 rfl (by decide) (by decide) ?_
        refine z_is_ (y := Q 14 4) (flat_num _ (by decide)) ?_
        refine z_iconst (pc := 134) (v := 1) hC dX6_serve_134 (by decide) ?_
        refine z_iadd (pc := 135) (v := (Q 14 4) + 1) hC rfl dX6_serve_135 ?_
        refine z_iast (pc := 136) (ws' := mW g.2 b (setS (setS (setS Q 1 q (if scr Q q = true then 0 else Q 0 q)) 13 j (Q 13 j + 1)) 14 4 ((Q 14 4) + 1)) F V) hC 1 rfl dX6_serve_136 4 rfl (by decide) (by decide) (mW_n (by decide)) ?_
        exact hE _ _ () _ _ _ dX6_serve_137 trivial (by rw [e1, srv2, if_neg c74]; rfl) (Nat.le_refl _) (Nat.le_refl _)
      · refine z_iconst (pc := 98) (v := 0) hC dX6_serve_98 (by decide) ?_
        refine z_goto (pc := 99) hC 108 (by decide) dX6_serve_99 ?_
        refine z_is_ (y := if scr Q q = true then 0 else Q 0 q) (by simp [bI_n.mp c95]) ?_
        refine z_gv (pc := 108) (rest := []) hC vX6_put lX6_34 dX6_serve_108 (m_put (w := 1) (v := if scr Q q = true then 0 else Q 0 q) hq (by decide)) (fun w => w) isCtx_id rfl 0 6 rfl rfl rfl rfl rfl (by decide) (Nat.le_of_ble_eq_true rfl) ⟨Nat.le_refl _, Nat.le_refl _⟩ ?_
        refine z_aln (pc := 111) hC 1 rfl dX6_serve_111 ?_
        refine z_iln (pc := 112) hC 2 rfl dX6_serve_112 ?_
        refine z_bipush (pc := 113) (v := 7) hC dX6_serve_113 (by decide) ?_
        refine z_aln (pc := 115) hC 1 rfl dX6_serve_115 ?_
        refine z_iln (pc := 116) hC 2 rfl dX6_serve_116 ?_
        refine z_bipush (pc := 117) (v := 7) hC dX6_serve_117 (by decide) ?_
        refine z_g (pc := 119) (rest := [.int 7, .int (nI j), .ref (b 0)]) hC vX6_ofJob lX6_57 dX6_serve_119 (m_ofJob (c := 13) (w := 7) hj (by decide) rfl) (fun w => w) isCtx_id rfl 0 6 rfl rfl rfl rfl rfl (by decide) (Nat.le_of_ble_eq_true rfl) ⟨Nat.le_refl _, Nat.le_refl _⟩ ?_
        refine z_is_ (y := Q 13 j) rfl ?_
        refine z_iconst (pc := 122) (v := 1) hC dX6_serve_122 (by decide) ?_
        refine z_iadd (pc := 123) (v := (Q 13 j) + 1) hC rfl dX6_serve_123 ?_
        refine z_gv (pc := 124) (rest := []) hC vX6_putJob lX6_73 dX6_serve_124 (m_putJob (c := 13) (w := 7) (v := Q 13 j + 1) hj (by decide) rfl) (fun w => w) isCtx_id rfl 0 6 rfl rfl rfl rfl rfl (by decide) (Nat.le_of_ble_eq_true rfl) ⟨Nat.le_refl _, Nat.le_refl _⟩ ?_
        refine z_aln (pc := 127) hC 1 rfl dX6_serve_127 ?_
        refine z_get (pc := 128) hC fX6_7 0 rfl rfl dX6_serve_128 ?_
        refine z_iconst (pc := 131) (v := 4) hC dX6_serve_131 (by decide) ?_
        refine z_dup2 (pc := 132) hC rfl rfl dX6_serve_132 ?_
        refine z_iald (pc := 133) hC 1 rfl dX6_serve_133 4 rfl (by decide) (by decide) ?_
        refine z_is_ (y := Q 14 4) (flat_num _ (by decide)) ?_
        refine z_iconst (pc := 134) (v := 1) hC dX6_serve_134 (by decide) ?_
        refine z_iadd (pc := 135) (v := (Q 14 4) + 1) hC rfl dX6_serve_135 ?_
        refine z_iast (pc := 136) (ws' := mW g.2 b (setS (setS (setS Q 1 q (if scr Q q = true then 0 else Q 0 q)) 13 j (Q 13 j + 1)) 14 4 ((Q 14 4) + 1)) F V) hC 1 rfl dX6_serve_136 4 rfl (by decide) (by decide) (mW_n (by decide)) ?_
        exact hE _ _ () _ _ _ dX6_serve_137 trivial (by rw [e1, srv2, if_neg c74]; rfl) (Nat.le_refl _) (Nat.le_refl _)
    · refine z_aln (pc := 77) hC 1 rfl dX6_serve_77 ?_
      refine z_iln (pc := 78) hC 2 rfl dX6_serve_78 ?_
      refine z_iln (pc := 79) hC 0 rfl dX6_serve_79 ?_
      refine z_iln (pc := 80) hC 3 rfl dX6_serve_80 ?_
      refine z_gv (pc := 81) (rest := []) hC vX6_mount lX6_85 dX6_serve_81 (m_mount hj hq) (fun w => w) isCtx_id rfl 0 6 rfl rfl rfl rfl rfl (by decide) (Nat.le_of_ble_eq_true rfl) ⟨Nat.le_refl _, Nat.le_refl _⟩ ?_
      refine z_goto (pc := 84) hC 137 (by decide) dX6_serve_84 ?_
      exact hE _ _ () _ _ _ dX6_serve_137 trivial (by rw [e1, srv2, if_pos c74]) (Nat.le_refl _) (Nat.le_refl _)
  refine z_aln (pc := 0) hC 0 rfl dX6_serve_0 ?_
  refine z_get (pc := 1) hC fX6_7 0 rfl rfl dX6_serve_1 ?_
  refine z_iconst (pc := 4) (v := 2) hC dX6_serve_4 (by decide) ?_
  refine z_dup2 (pc := 5) hC rfl rfl dX6_serve_5 ?_
  refine z_iald (pc := 6) hC 1 rfl dX6_serve_6 2 rfl (by decide) (by decide) ?_
  refine z_is_ (y := R 14 2) (flat_num R (by decide)) ?_
  refine z_iconst (pc := 7) (v := 1) hC dX6_serve_7 (by decide) ?_
  refine z_iadd (pc := 8) (v := (R 14 2) + 1) hC rfl dX6_serve_8 ?_
  refine z_iast (pc := 9) (ws' := mW g.2 b (setS R 14 2 ((R 14 2) + 1)) F V) hC 1 rfl dX6_serve_9 2 rfl (by decide) (by decide) (mW_n (by decide)) ?_
  refine z_aln (pc := 10) hC 0 rfl dX6_serve_10 ?_
  refine z_iln (pc := 11) hC 1 rfl dX6_serve_11 ?_
  refine z_g (pc := 12) (rest := []) hC vX6_found lX6_64 dX6_serve_12 (m_found hj) (fun w => w) isCtx_id rfl 0 6 rfl rfl rfl rfl rfl (by decide) (Nat.le_of_ble_eq_true rfl) ⟨Nat.le_refl _, Nat.le_refl _⟩ ?_
  refine z_is_ (y := nI r) hf ?_
  refine z_isn (pc := 15) (lv' := [(3, .int (nI r)), (0, .ref (b 0)), (1, .int (nI j)), (2, .int x)]) hC hm (by decide) rfl dX6_serve_15 ?_
  refine z_aln (pc := 16) hC 1 rfl dX6_serve_16 ?_
  refine z_aln (pc := 17) hC 1 rfl dX6_serve_17 ?_
  refine z_get (pc := 18) hC fX6_7 0 rfl rfl dX6_serve_18 ?_
  refine z_iconst (pc := 21) (v := 2) hC dX6_serve_21 (by decide) ?_
  refine z_iald (pc := 22) hC 1 rfl dX6_serve_22 2 rfl (by decide) (by decide) ?_
  refine z_is_ (y := R 14 2 + 1) (by rw [flat_num _ (by decide), setS_eq]) ?_
  refine z_g (pc := 23) (rest := []) hC vX6_isSlip lX6_76 dX6_serve_23 (m_isSlip (x := R 14 2 + 1)) (fun w => w) isCtx_id rfl 0 6 rfl rfl rfl rfl rfl (by decide) (Nat.le_of_ble_eq_true rfl) ⟨Nat.le_refl _, Nat.le_refl _⟩ ?_
  refine z_is_ (y := bI (slp R (R 14 2 + 1))) rfl ?_
  refine z_ifeq (pc := 26) hC 48 (by decide) dX6_serve_26 (fun c26 => ?_) (fun c26 => ?_)
  · refine z_aln (pc := 48) hC 1 rfl dX6_serve_48 ?_
    refine z_iln (pc := 49) hC 0 rfl dX6_serve_49 ?_
    refine z_iconst (pc := 50) (v := 2) hC dX6_serve_50 (by decide) ?_
    refine z_aln (pc := 51) hC 1 rfl dX6_serve_51 ?_
    refine z_iln (pc := 52) hC 2 rfl dX6_serve_52 ?_
    refine z_iconst (pc := 53) (v := 0) hC dX6_serve_53 (by decide) ?_
    refine z_g (pc := 54) (rest := [.int 2, .int (nI r), .ref (b 0)]) hC vX6_ofJob lX6_57 dX6_serve_54 (m_ofJob (c := 6) (w := 0) hj (by decide) rfl) (fun w => w) isCtx_id rfl 0 6 rfl rfl rfl rfl rfl (by decide) (Nat.le_of_ble_eq_true rfl) ⟨Nat.le_refl _, Nat.le_refl _⟩ ?_
    refine z_is_ (y := R 6 j) rfl ?_
    refine z_ifne (pc := 57) hC 64 (by decide) dX6_serve_57 (fun c57 => ?_) (fun c57 => ?_)
    · refine z_iconst (pc := 64) (v := 1) hC dX6_serve_64 (by decide) ?_
      refine z_is_ (y := if R 6 j = 0 then 0 else 1) (by simp [c57]) ?_
      refine z_gv (pc := 65) (rest := []) hC vX6_put lX6_34 dX6_serve_65 (m_put (w := 2) (v := if R 6 j = 0 then 0 else 1) hr (by decide)) (fun w => w) isCtx_id rfl 0 6 rfl rfl rfl rfl rfl (by decide) (Nat.le_of_ble_eq_true rfl) ⟨Nat.le_refl _, Nat.le_refl _⟩ ?_
      refine z_lv [0, 1, 2, 3] rfl ?_
      exact J _ r hr (by rw [srv, if_neg (by simp [bI_0.mp c26]), hf, nI_clamp (by omega)])
    · refine z_iconst (pc := 60) (v := 0) hC dX6_serve_60 (by decide) ?_
      refine z_goto (pc := 61) hC 65 (by decide) dX6_serve_61 ?_
      refine z_is_ (y := if R 6 j = 0 then 0 else 1) (by simp [c57]) ?_
      refine z_gv (pc := 65) (rest := []) hC vX6_put lX6_34 dX6_serve_65 (m_put (w := 2) (v := if R 6 j = 0 then 0 else 1) hr (by decide)) (fun w => w) isCtx_id rfl 0 6 rfl rfl rfl rfl rfl (by decide) (Nat.le_of_ble_eq_true rfl) ⟨Nat.le_refl _, Nat.le_refl _⟩ ?_
      refine z_lv [0, 1, 2, 3] rfl ?_
      exact J _ r hr (by rw [srv, if_neg (by simp [bI_0.mp c26]), hf, nI_clamp (by omega)])
  · refine z_aln (pc := 29) hC 1 rfl dX6_serve_29 ?_
    refine z_get (pc := 30) hC fX6_7 0 rfl rfl dX6_serve_30 ?_
    refine z_iconst (pc := 33) (v := 3) hC dX6_serve_33 (by decide) ?_
    refine z_dup2 (pc := 34) hC rfl rfl dX6_serve_34 ?_
    refine z_iald (pc := 35) hC 1 rfl dX6_serve_35 3 rfl (by decide) (by decide) ?_
    refine z_is_ (y := R 14 3) (flat_num _ (by decide)) ?_
    refine z_iconst (pc := 36) (v := 1) hC dX6_serve_36 (by decide) ?_
    refine z_iadd (pc := 37) (v := (R 14 3) + 1) hC rfl dX6_serve_37 ?_
    refine z_iast (pc := 38) (ws' := mW g.2 b (setS (setS R 14 2 ((R 14 2) + 1)) 14 3 ((R 14 3) + 1)) F V) hC 1 rfl dX6_serve_38 3 rfl (by decide) (by decide) (mW_n (by decide)) ?_
    refine z_aln (pc := 39) hC 1 rfl dX6_serve_39 ?_
    refine z_iln (pc := 40) hC 0 rfl dX6_serve_40 ?_
    refine z_g (pc := 41) (rest := []) hC vX6_after lX6_79 dX6_serve_41 (m_after (x := nI r)) (fun w => w) isCtx_id rfl 0 6 rfl rfl rfl rfl rfl (by decide) (Nat.le_of_ble_eq_true rfl) ⟨Nat.le_refl _, Nat.le_refl _⟩ ?_
    refine z_is_ (y := nI r2) ha ?_
    refine z_isn (pc := 44) (lv' := [(3, .int (nI r2)), (0, .ref (b 0)), (1, .int (nI j)), (2, .int x)]) hC hm (by decide) rfl dX6_serve_44 ?_
    refine z_goto (pc := 45) hC 68 (by decide) dX6_serve_45 ?_
    refine z_lv [0, 1, 2, 3] rfl ?_
    exact J _ r2 hr2 (by rw [srv, if_pos (bI_n.mp c26), hf, ha, nI_clamp (by omega)])

theorem jl_step {m k : Nat} {Q Q' : St} {x y z : Int32} {T : St × Int32} (h : stp Q m = (Q', x)) (hd : y + x = z) (e : jl m (k + 1) (Q, y) = T) : jl (m + 1) k (Q', z) = T := by
  rw [← e]; simp only [jl, h, hd]

set_option maxRecDepth 100000 in
set_option maxHeartbeats 4000000 in
theorem m_minute {g : zG} {b : Nat → Nat} {R : St} {F : Nat → Nat → Int32} {V : Nat → Int32} {n : Nat} (hI : Inv R n) : Gi g yX6_minute cX6_minute 4 .int 4 [.ref (b 0)] (mW g.2 b R F V) ((minu R n).2) (mW g.2 b ((minu R n).1) F V) := by
  refine fi_entry (by decide) (Nat.le_of_ble_eq_true rfl) (fun C hC hm hE => ?_)
  have loop : ∀ (k m : Nat) (Q : St) (dn : Int32), m + k = n → Inv Q n → jl m k (Q, dn) = jl 0 n (R, 0) → Z g C 0 0 (mW g.2 b Q F V) [(2, .int (nI m)), (1, .int dn), (0, .ref (b 0))] 4 [] := by
    intro k
    induction k with
    | zero =>
      intro m Q dn hm2 hI hjl
      refine z_iln (pc := 4) hC 0 rfl dX6_minute_4 ?_
      refine z_aln (pc := 5) hC 2 rfl dX6_minute_5 ?_
      refine z_get (pc := 6) hC fX6_7 0 rfl rfl dX6_minute_6 ?_
      refine z_bipush (pc := 9) (v := 82) hC dX6_minute_9 (by decide) ?_
      refine z_iald (pc := 11) hC 1 rfl dX6_minute_11 82 rfl (by decide) (by decide) ?_
      refine z_is_ (y := nI n) (by rw [flat_82]; exact hI.2.1) ?_
      refine z_icge (pc := 12) hC 54 (by decide) dX6_minute_12 (fun c12 => ?_) (fun c12 => absurd (nI_le (by omega) (by have := hI.1; omega)) c12)
      refine z_aln (pc := 54) hC 2 rfl dX6_minute_54 ?_
      refine z_g (pc := 55) (rest := []) hC vX6_next lX6_95 dX6_minute_55 (m_next hI.2.1 hI.1) (fun w => w) isCtx_id rfl 0 6 rfl rfl rfl rfl rfl (by decide) (Nat.le_of_ble_eq_true rfl) ⟨Nat.le_refl _, Nat.le_refl _⟩ ?_
      refine z_isn (pc := 58) (lv' := [(2, .int (nxt Q n)), (1, .int dn), (0, .ref (b 0))]) hC hm (by decide) rfl dX6_minute_58 ?_
      refine z_aln (pc := 59) hC 2 rfl dX6_minute_59 ?_
      refine z_g (pc := 60) (rest := []) hC vX6_emptyDrive lX6_99 dX6_minute_60 m_emptyDrive (fun w => w) isCtx_id rfl 0 6 rfl rfl rfl rfl rfl (by decide) (Nat.le_of_ble_eq_true rfl) ⟨Nat.le_refl _, Nat.le_refl _⟩ ?_
      refine z_isn (pc := 63) (lv' := [(3, .int (edr Q)), (2, .int (nxt Q n)), (1, .int dn), (0, .ref (b 0))]) hC hm (by decide) rfl dX6_minute_63 ?_
      refine z_iln (pc := 64) hC 1 rfl dX6_minute_64 ?_
      refine z_iconst (pc := 65) (v := -1) hC dX6_minute_65 (by decide) ?_
      refine z_iceq (pc := 66) hC 80 (by decide) dX6_minute_66 (fun c66 => ?_) (fun c66 => ?_)
      · refine z_aln (pc := 80) hC 3 rfl dX6_minute_80 ?_
        refine z_get (pc := 81) hC fX6_7 0 rfl rfl dX6_minute_81 ?_
        refine z_iconst (pc := 84) (v := 1) hC dX6_minute_84 (by decide) ?_
        refine z_dup2 (pc := 85) hC rfl rfl dX6_minute_85 ?_
        refine z_iald (pc := 86) hC 1 rfl dX6_minute_86 1 rfl (by decide) (by decide) ?_
        refine z_is_ (y := Q 14 1) (flat_num _ (by decide)) ?_
        refine z_iconst (pc := 87) (v := 1) hC dX6_minute_87 (by decide) ?_
        refine z_iadd (pc := 88) (v := (Q 14 1) + 1) hC rfl dX6_minute_88 ?_
        refine z_iast (pc := 89) (ws' := mW g.2 b (setS Q 14 1 ((Q 14 1) + 1)) F V) hC 1 rfl dX6_minute_89 1 rfl (by decide) (by decide) (mW_n (by decide)) ?_
        refine z_iln (pc := 90) hC 2 rfl dX6_minute_90 ?_
        exact hE _ _ _ () _ _ _ dX6_minute_91 rfl (by simp only [minu, ← hjl, jl]) (by rw [show (minu R n).1 = setS (sstep Q n) 14 1 (sstep Q n 14 1 + 1) by simp only [minu, ← hjl, jl], sstep_0 (by first | exact Or.inl c66 | exact Or.inr c71)]) (Nat.le_refl _) (Nat.le_refl _)
      · obtain ⟨q, hq, hq1, hq2, hq3⟩ := nxt_ok c66
        refine z_iln (pc := 69) hC 0 rfl dX6_minute_69 ?_
        refine z_iconst (pc := 70) (v := -1) hC dX6_minute_70 (by decide) ?_
        refine z_iceq (pc := 71) hC 80 (by decide) dX6_minute_71 (fun c71 => ?_) (fun c71 => ?_)
        · refine z_aln (pc := 80) hC 3 rfl dX6_minute_80 ?_
          refine z_get (pc := 81) hC fX6_7 0 rfl rfl dX6_minute_81 ?_
          refine z_iconst (pc := 84) (v := 1) hC dX6_minute_84 (by decide) ?_
          refine z_dup2 (pc := 85) hC rfl rfl dX6_minute_85 ?_
          refine z_iald (pc := 86) hC 1 rfl dX6_minute_86 1 rfl (by decide) (by decide) ?_
          refine z_is_ (y := Q 14 1) (flat_num _ (by decide)) ?_
          refine z_iconst (pc := 87) (v := 1) hC dX6_minute_87 (by decide) ?_
          refine z_iadd (pc := 88) (v := (Q 14 1) + 1) hC rfl dX6_minute_88 ?_
          refine z_iast (pc := 89) (ws' := mW g.2 b (setS Q 14 1 ((Q 14 1) + 1)) F V) hC 1 rfl dX6_minute_89 1 rfl (by decide) (by decide) (mW_n (by decide)) ?_
          refine z_iln (pc := 90) hC 2 rfl dX6_minute_90 ?_
          exact hE _ _ _ () _ _ _ dX6_minute_91 rfl (by simp only [minu, ← hjl, jl]) (by rw [show (minu R n).1 = setS (sstep Q n) 14 1 (sstep Q n 14 1 + 1) by simp only [minu, ← hjl, jl], sstep_0 (by first | exact Or.inl c66 | exact Or.inr c71)]) (Nat.le_refl _) (Nat.le_refl _)
        · refine z_aln (pc := 74) hC 3 rfl dX6_minute_74 ?_
          refine z_iln (pc := 75) hC 1 rfl dX6_minute_75 ?_
          refine z_is_ (y := nI q) hq1 ?_
          refine z_iln (pc := 76) hC 0 rfl dX6_minute_76 ?_
          refine z_gv (pc := 77) (rest := []) hC vX6_serve lX6_102 dX6_minute_77 (m_serve (j := q) (by have := hI.1; omega) hq3) (fun w => w) isCtx_id rfl 0 6 rfl rfl rfl rfl rfl (by decide) (Nat.le_of_ble_eq_true rfl) ⟨Nat.le_refl _, Nat.le_refl _⟩ ?_
          refine z_aln (pc := 80) hC 3 rfl dX6_minute_80 ?_
          refine z_get (pc := 81) hC fX6_7 0 rfl rfl dX6_minute_81 ?_
          refine z_iconst (pc := 84) (v := 1) hC dX6_minute_84 (by decide) ?_
          refine z_dup2 (pc := 85) hC rfl rfl dX6_minute_85 ?_
          refine z_iald (pc := 86) hC 1 rfl dX6_minute_86 1 rfl (by decide) (by decide) ?_
          refine z_is_ (y := (srv Q q (edr Q)) 14 1) (flat_num _ (by decide)) ?_
          refine z_iconst (pc := 87) (v := 1) hC dX6_minute_87 (by decide) ?_
          refine z_iadd (pc := 88) (v := ((srv Q q (edr Q)) 14 1) + 1) hC rfl dX6_minute_88 ?_
          refine z_iast (pc := 89) (ws' := mW g.2 b (setS (srv Q q (edr Q)) 14 1 (((srv Q q (edr Q)) 14 1) + 1)) F V) hC 1 rfl dX6_minute_89 1 rfl (by decide) (by decide) (mW_n (by decide)) ?_
          refine z_iln (pc := 90) hC 2 rfl dX6_minute_90 ?_
          exact hE _ _ _ () _ _ _ dX6_minute_91 rfl (by simp only [minu, ← hjl, jl]) (by rw [show (minu R n).1 = setS (sstep Q n) 14 1 (sstep Q n 14 1 + 1) by simp only [minu, ← hjl, jl], sstep_1 c66 c71 hq1 (by have := hI.1; omega)]) (Nat.le_refl _) (Nat.le_refl _)
    | succ k ih =>
      intro m Q dn hm2 hI hjl
      have hm12 : m < 12 := by have := hI.1; omega
      refine z_iln (pc := 4) hC 0 rfl dX6_minute_4 ?_
      refine z_aln (pc := 5) hC 2 rfl dX6_minute_5 ?_
      refine z_get (pc := 6) hC fX6_7 0 rfl rfl dX6_minute_6 ?_
      refine z_bipush (pc := 9) (v := 82) hC dX6_minute_9 (by decide) ?_
      refine z_iald (pc := 11) hC 1 rfl dX6_minute_11 82 rfl (by decide) (by decide) ?_
      refine z_is_ (y := nI n) (by rw [flat_82]; exact hI.2.1) ?_
      refine z_icge (pc := 12) hC 54 (by decide) dX6_minute_12 (fun c12 => absurd c12 (nI_ge (by omega) (by have := hI.1; omega))) (fun c12 => ?_)
      refine z_aln (pc := 15) hC 2 rfl dX6_minute_15 ?_
      refine z_iln (pc := 16) hC 0 rfl dX6_minute_16 ?_
      refine z_iconst (pc := 17) (v := 4) hC dX6_minute_17 (by decide) ?_
      refine z_g (pc := 18) (rest := []) hC vX6_ofJob lX6_57 dX6_minute_18 (m_ofJob (c := 10) (w := 4) hm12 (by decide) rfl) (fun w => w) isCtx_id rfl 0 6 rfl rfl rfl rfl rfl (by decide) (Nat.le_of_ble_eq_true rfl) ⟨Nat.le_refl _, Nat.le_refl _⟩ ?_
      refine z_iconst (pc := 21) (v := 1) hC dX6_minute_21 (by decide) ?_
      refine z_icne (pc := 22) hC 48 (by decide) dX6_minute_22 (fun c22 => ?_) (fun c22 => ?_)
      · refine z_iinc (pc := 48) (v := nI (m + 1)) (j := 0) (lv' := [(2, .int (nI (m + 1))), (1, .int dn), (0, .ref (b 0))]) hC hm (by decide) rfl (up_step m) rfl dX6_minute_48 ?_
        refine z_goto (pc := 51) hC 4 (by decide) dX6_minute_51 ?_
        have hst := stp_0 c22
        refine z_lv [0, 1, 2] rfl ?_
        exact ih (m + 1) _ _ (by omega) (by have q := inv_stp hI (show m < n by omega); rw [hst] at q; exact q) (jl_step hst (Int32.add_zero _) hjl)
      · obtain ⟨r, hr, hrl⟩ := (hI.2.2.1 m (by omega)).1 c22
        refine z_aln (pc := 25) hC 2 rfl dX6_minute_25 ?_
        refine z_iln (pc := 26) hC 0 rfl dX6_minute_26 ?_
        refine z_g (pc := 27) (rest := []) hC vX6_isDoneNow lX6_88 dX6_minute_27 (m_isDoneNow hm12 hr hrl) (fun w => w) isCtx_id rfl 0 6 rfl rfl rfl rfl rfl (by decide) (Nat.le_of_ble_eq_true rfl) ⟨Nat.le_refl _, Nat.le_refl _⟩ ?_
        refine z_ifeq (pc := 30) hC 48 (by decide) dX6_minute_30 (fun c30 => ?_) (fun c30 => ?_)
        · refine z_iinc (pc := 48) (v := nI (m + 1)) (j := 0) (lv' := [(2, .int (nI (m + 1))), (1, .int dn), (0, .ref (b 0))]) hC hm (by decide) rfl (up_step m) rfl dX6_minute_48 ?_
          refine z_goto (pc := 51) hC 4 (by decide) dX6_minute_51 ?_
          have hst := stp_1 c22 hr hrl (by simpa using bI_0.mp c30)
          refine z_lv [0, 1, 2] rfl ?_
          exact ih (m + 1) _ _ (by omega) (by have q := inv_stp hI (show m < n by omega); rw [hst] at q; exact q) (jl_step hst (Int32.add_zero _) hjl)
        · refine z_aln (pc := 33) hC 2 rfl dX6_minute_33 ?_
          refine z_iln (pc := 34) hC 0 rfl dX6_minute_34 ?_
          refine z_iconst (pc := 35) (v := 4) hC dX6_minute_35 (by decide) ?_
          refine z_iconst (pc := 36) (v := 2) hC dX6_minute_36 (by decide) ?_
          refine z_gv (pc := 37) (rest := []) hC vX6_putJob lX6_73 dX6_minute_37 (m_putJob (c := 10) (w := 4) (v := 2) hm12 (by decide) rfl) (fun w => w) isCtx_id rfl 0 6 rfl rfl rfl rfl rfl (by decide) (Nat.le_of_ble_eq_true rfl) ⟨Nat.le_refl _, Nat.le_refl _⟩ ?_
          refine z_aln (pc := 40) hC 2 rfl dX6_minute_40 ?_
          refine z_iln (pc := 41) hC 0 rfl dX6_minute_41 ?_
          refine z_gv (pc := 42) (rest := []) hC vX6_takeOff lX6_91 dX6_minute_42 (m_takeOff hm12 hr (by show blk Q m r 12 m = nI r; rw [blk_c (by decide) (by decide) (by decide)]; exact hrl)) (fun w => w) isCtx_id rfl 0 6 rfl rfl rfl rfl rfl (by decide) (Nat.le_of_ble_eq_true rfl) ⟨Nat.le_refl _, Nat.le_refl _⟩ ?_
          refine z_iinc (pc := 45) (v := dn + 1) (j := 1) (lv' := [(1, .int (dn + 1)), (2, .int (nI m)), (0, .ref (b 0))]) hC hm (by decide) rfl (by rw [ofInt_1]) rfl dX6_minute_45 ?_
          refine z_iinc (pc := 48) (v := nI (m + 1)) (j := 1) (lv' := [(2, .int (nI (m + 1))), (1, .int (dn + 1)), (0, .ref (b 0))]) hC hm (by decide) rfl (up_step m) rfl dX6_minute_48 ?_
          refine z_goto (pc := 51) hC 4 (by decide) dX6_minute_51 ?_
          have hst := stp_2 c22 hr hrl (by simpa using bI_n.mp c30)
          refine z_lv [0, 1, 2] rfl ?_
          exact ih (m + 1) _ _ (by omega) (by have q := inv_stp hI (show m < n by omega); rw [hst] at q; exact q) (jl_step hst rfl hjl)
  refine z_iconst (pc := 0) (v := 0) hC dX6_minute_0 (by decide) ?_
  refine z_isn (pc := 1) (lv' := [(1, .int 0), (0, .ref (b 0))]) hC hm (by decide) rfl dX6_minute_1 ?_
  refine z_iconst (pc := 2) (v := nI 0) hC dX6_minute_2 (by decide) ?_
  refine z_isn (pc := 3) (lv' := [(2, .int (nI 0)), (1, .int 0), (0, .ref (b 0))]) hC hm (by decide) rfl dX6_minute_3 ?_
  refine z_lv [0, 1, 2] rfl ?_
  exact loop n 0 _ _ (by omega) hI rfl

set_option maxRecDepth 100000 in
set_option maxHeartbeats 4000000 in
theorem m_passNow {g : zG} {b : Nat → Nat} {R : St} {F : Nat → Nat → Int32} {V : Nat → Int32} {n t : Nat} (hI : Inv R n) (ht : t < 2 ^ 31) : Gi g yX6_passNow cX6_passNow 4 .int 5 [.ref (b 0), .int (nI t)] (mW g.2 b R F V) ((pas n t (R, 0)).2) (mW g.2 b ((pas n t (R, 0)).1) F V) := by
  refine fi_entry (by decide) (Nat.le_of_ble_eq_true rfl) (fun C hC hm hE => ?_)
  have loop : ∀ (k m : Nat) (Q : St) (dn : Int32), m + k = t → Inv Q n → pas n k (Q, dn) = pas n t (R, 0) → Z g C 0 0 (mW g.2 b Q F V) [(3, .int (nI m)), (2, .int dn), (0, .ref (b 0)), (1, .int (nI t))] 4 [] := by
    intro k
    induction k with
    | zero =>
      intro m Q dn hm2 hI hp
      refine z_iln (pc := 4) hC 0 rfl dX6_passNow_4 ?_
      refine z_iln (pc := 5) hC 3 rfl dX6_passNow_5 ?_
      refine z_icge (pc := 6) hC 22 (by decide) dX6_passNow_6 (fun c6 => ?_) (fun c6 => absurd (nI_le (by omega) (by omega)) c6)
      refine z_iln (pc := 22) hC 1 rfl dX6_passNow_22 ?_
      exact hE _ _ _ () _ _ _ dX6_passNow_23 rfl (by rw [← hp]; rfl) (by rw [← hp]; rfl) (Nat.le_refl _) (Nat.le_refl _)
    | succ k ih =>
      intro m Q dn hm2 hI hp
      refine z_iln (pc := 4) hC 0 rfl dX6_passNow_4 ?_
      refine z_iln (pc := 5) hC 3 rfl dX6_passNow_5 ?_
      refine z_icge (pc := 6) hC 22 (by decide) dX6_passNow_6 (fun c6 => absurd c6 (nI_ge (by omega) (by omega))) (fun c6 => ?_)
      refine z_iln (pc := 9) hC 1 rfl dX6_passNow_9 ?_
      refine z_aln (pc := 10) hC 2 rfl dX6_passNow_10 ?_
      refine z_g (pc := 11) (rest := [.int dn]) hC vX6_minute lX6_106 dX6_passNow_11 (m_minute hI) (fun w => w) isCtx_id rfl 0 6 rfl rfl rfl rfl rfl (by decide) (Nat.le_of_ble_eq_true rfl) ⟨Nat.le_refl _, Nat.le_refl _⟩ ?_
      refine z_iadd (pc := 14) (v := dn + (minu Q n).2) hC rfl dX6_passNow_14 ?_
      refine z_isn (pc := 15) (lv' := [(2, .int (dn + (minu Q n).2)), (3, .int (nI m)), (0, .ref (b 0)), (1, .int (nI t))]) hC hm (by decide) rfl dX6_passNow_15 ?_
      refine z_iinc (pc := 16) (v := nI (m + 1)) (j := 1) (lv' := [(3, .int (nI (m + 1))), (2, .int (dn + (minu Q n).2)), (0, .ref (b 0)), (1, .int (nI t))]) hC hm (by decide) rfl (up_step m) rfl dX6_passNow_16 ?_
      refine z_goto (pc := 19) hC 4 (by decide) dX6_passNow_19 ?_
      refine z_lv [0, 1, 2, 3] rfl ?_
      exact ih (m + 1) _ _ (by omega) (inv_minu hI) (by rw [← hp]; rfl)
  refine z_iconst (pc := 0) (v := 0) hC dX6_passNow_0 (by decide) ?_
  refine z_isn (pc := 1) (lv' := [(2, .int 0), (0, .ref (b 0)), (1, .int (nI t))]) hC hm (by decide) rfl dX6_passNow_1 ?_
  refine z_iconst (pc := 2) (v := nI 0) hC dX6_passNow_2 (by decide) ?_
  refine z_isn (pc := 3) (lv' := [(3, .int (nI 0)), (2, .int 0), (0, .ref (b 0)), (1, .int (nI t))]) hC hm (by decide) rfl dX6_passNow_3 ?_
  refine z_lv [0, 1, 2, 3] rfl ?_
  exact loop t 0 _ _ (by omega) hI rfl

set_option maxRecDepth 100000 in
set_option maxHeartbeats 4000000 in
theorem m_areRight {g : zG} {x y z u : Int32} : Gi g yX6_areRight cX6_areRight 4 .boolean 1 [.int x, .int y, .int z, .int u] ([]) (bI (right x y z u)) ([]) := by
  refine fi_entry (by decide) (Nat.le_of_ble_eq_true rfl) (fun C hC hm hE => ?_)
  refine z_iln (pc := 0) hC 0 rfl dX6_areRight_0 ?_
  refine z_iconst (pc := 1) (v := 0) hC dX6_areRight_1 (by decide) ?_
  refine z_iconst (pc := 2) (v := 2) hC dX6_areRight_2 (by decide) ?_
  refine z_gs (pc := 3) (rest := []) hC sX6_in lX6_42 dX6_areRight_3 (m_in (x := x) (y := 0) (z := 2)) rfl rfl (by decide) (Nat.le_of_ble_eq_true rfl) ⟨Nat.le_refl _, Nat.le_refl _⟩ ?_
  refine z_ifeq (pc := 6) hC 43 (by decide) dX6_areRight_6 (fun c6 => ?_) (fun c6 => ?_)
  · refine z_iconst (pc := 43) (v := 0) hC dX6_areRight_43 (by decide) ?_
    exact hE _ _ _ () _ _ _ dX6_areRight_44 rfl (bI_f (by simp [right, bI_0.mp c6])) rfl (Nat.le_refl _) (Nat.le_refl _)
  · refine z_iln (pc := 9) hC 1 rfl dX6_areRight_9 ?_
    refine z_iconst (pc := 10) (v := 1) hC dX6_areRight_10 (by decide) ?_
    refine z_bipush (pc := 11) (v := 99) hC dX6_areRight_11 (by decide) ?_
    refine z_gs (pc := 13) (rest := []) hC sX6_in lX6_42 dX6_areRight_13 (m_in (x := y) (y := 1) (z := 99)) rfl rfl (by decide) (Nat.le_of_ble_eq_true rfl) ⟨Nat.le_refl _, Nat.le_refl _⟩ ?_
    refine z_ifeq (pc := 16) hC 43 (by decide) dX6_areRight_16 (fun c16 => ?_) (fun c16 => ?_)
    · refine z_iconst (pc := 43) (v := 0) hC dX6_areRight_43 (by decide) ?_
      exact hE _ _ _ () _ _ _ dX6_areRight_44 rfl (bI_f (by simp [right, bI_0.mp c16])) rfl (Nat.le_refl _) (Nat.le_refl _)
    · refine z_iln (pc := 19) hC 2 rfl dX6_areRight_19 ?_
      refine z_iconst (pc := 20) (v := 1) hC dX6_areRight_20 (by decide) ?_
      refine z_bipush (pc := 21) (v := 20) hC dX6_areRight_21 (by decide) ?_
      refine z_gs (pc := 23) (rest := []) hC sX6_in lX6_42 dX6_areRight_23 (m_in (x := z) (y := 1) (z := 20)) rfl rfl (by decide) (Nat.le_of_ble_eq_true rfl) ⟨Nat.le_refl _, Nat.le_refl _⟩ ?_
      refine z_ifeq (pc := 26) hC 43 (by decide) dX6_areRight_26 (fun c26 => ?_) (fun c26 => ?_)
      · refine z_iconst (pc := 43) (v := 0) hC dX6_areRight_43 (by decide) ?_
        exact hE _ _ _ () _ _ _ dX6_areRight_44 rfl (bI_f (by simp [right, bI_0.mp c26])) rfl (Nat.le_refl _) (Nat.le_refl _)
      · refine z_iln (pc := 29) hC 3 rfl dX6_areRight_29 ?_
        refine z_iconst (pc := 30) (v := 0) hC dX6_areRight_30 (by decide) ?_
        refine z_bipush (pc := 31) (v := 9) hC dX6_areRight_31 (by decide) ?_
        refine z_gs (pc := 33) (rest := []) hC sX6_in lX6_42 dX6_areRight_33 (m_in (x := u) (y := 0) (z := 9)) rfl rfl (by decide) (Nat.le_of_ble_eq_true rfl) ⟨Nat.le_refl _, Nat.le_refl _⟩ ?_
        refine z_ifeq (pc := 36) hC 43 (by decide) dX6_areRight_36 (fun c36 => ?_) (fun c36 => ?_)
        · refine z_iconst (pc := 43) (v := 0) hC dX6_areRight_43 (by decide) ?_
          exact hE _ _ _ () _ _ _ dX6_areRight_44 rfl (bI_f (by simp [right, bI_0.mp c36])) rfl (Nat.le_refl _) (Nat.le_refl _)
        · refine z_iconst (pc := 39) (v := 1) hC dX6_areRight_39 (by decide) ?_
          refine z_goto (pc := 40) hC 44 (by decide) dX6_areRight_40 ?_
          exact hE _ _ _ () _ _ _ dX6_areRight_44 rfl (bI_t (by simp [right, bI_n.mp c6, bI_n.mp c16, bI_n.mp c26, bI_n.mp c36])) rfl (Nat.le_refl _) (Nat.le_refl _)

/-- the two searches of isKept, counted from the low end -/
def keptA (R : St) (v : Int32) (m : Nat) : Bool := (List.range m).any (fun r => !scr R r && decide (R 0 r = v))
def keptB (R : St) (v : Int32) (m : Nat) : Bool := (List.range m).any (fun j => decide (R 6 j = 2) && (decide (R 7 j = v) && decide (R 10 j = 0)))
theorem keptA_s (R : St) (v : Int32) (m : Nat) : keptA R v (m + 1) = (keptA R v m || (!scr R m && decide (R 0 m = v))) := by simp [keptA, List.range_succ]
theorem keptB_s (R : St) (v : Int32) (m : Nat) : keptB R v (m + 1) = (keptB R v m || (decide (R 6 m = 2) && (decide (R 7 m = v) && decide (R 10 m = 0)))) := by simp [keptB, List.range_succ]
theorem bI_is {b : Bool} {x : Int32} (h : b = true ∧ x = 1 ∨ b = false ∧ x = 0) : x = bI b := by rcases h with ⟨rfl, rfl⟩ | ⟨rfl, rfl⟩ <;> rfl

set_option maxRecDepth 100000 in
set_option maxHeartbeats 4000000 in
theorem m_isKept {g : zG} {b : Nat → Nat} {R : St} {F : Nat → Nat → Int32} {V : Nat → Int32} {n : Nat} (hn : R 14 10 = nI n) (hn2 : n ≤ 12) {v : Int32} : Gi g yX6_isKept cX6_isKept 4 .boolean 2 [.ref (b 0), .int v] (mW g.2 b R F V) (bI (kept R n v)) (mW g.2 b R F V) := by
  refine fi_entry (by decide) (Nat.le_of_ble_eq_true rfl) (fun C hC hm hE => ?_)
  have loop2 : ∀ (k m : Nat), m + k = n → Z g C 0 0 (mW g.2 b R F V) [(3, .int (nI m)), (2, .int (bI (keptA R v 12 || keptB R v m))), (0, .ref (b 0)), (1, .int v)] 46 [] := by
    intro k
    induction k with
    | zero =>
      intro m hm2
      refine z_iln (pc := 46) hC 0 rfl dX6_isKept_46 ?_
      refine z_aln (pc := 47) hC 2 rfl dX6_isKept_47 ?_
      refine z_get (pc := 48) hC fX6_7 0 rfl rfl dX6_isKept_48 ?_
      refine z_bipush (pc := 51) (v := 82) hC dX6_isKept_51 (by decide) ?_
      refine z_iald (pc := 53) hC 1 rfl dX6_isKept_53 82 rfl (by decide) (by decide) ?_
      refine z_is_ (y := nI n) (by rw [flat_82]; exact hn) ?_
      refine z_icge (pc := 54) hC 102 (by decide) dX6_isKept_54 (fun c54 => ?_) (fun c54 => absurd (nI_le (by omega) (by omega)) c54)
      refine z_iln (pc := 102) hC 1 rfl dX6_isKept_102 ?_
      exact hE _ _ _ () _ _ _ dX6_isKept_103 (bI_nar _) (by rw [show m = n by omega]; rfl) rfl (Nat.le_refl _) (Nat.le_refl _)
    | succ k ih =>
      intro m hm2
      refine z_iln (pc := 46) hC 0 rfl dX6_isKept_46 ?_
      refine z_aln (pc := 47) hC 2 rfl dX6_isKept_47 ?_
      refine z_get (pc := 48) hC fX6_7 0 rfl rfl dX6_isKept_48 ?_
      refine z_bipush (pc := 51) (v := 82) hC dX6_isKept_51 (by decide) ?_
      refine z_iald (pc := 53) hC 1 rfl dX6_isKept_53 82 rfl (by decide) (by decide) ?_
      refine z_is_ (y := nI n) (by rw [flat_82]; exact hn) ?_
      refine z_icge (pc := 54) hC 102 (by decide) dX6_isKept_54 (fun c54 => absurd c54 (nI_ge (by omega) (by omega))) (fun c54 => ?_)
      refine z_iln (pc := 57) hC 1 rfl dX6_isKept_57 ?_
      refine z_ifne (pc := 58) hC 90 (by decide) dX6_isKept_58 (fun c58 => ?_) (fun c58 => ?_)
      · refine z_iconst (pc := 90) (v := 1) hC dX6_isKept_90 (by decide) ?_
        refine z_goto (pc := 91) hC 95 (by decide) dX6_isKept_91 ?_
        refine z_is_ (y := bI (keptA R v 12 || keptB R v (m + 1))) (bI_is (Or.inl ⟨by rw [keptB_s, ← Bool.or_assoc, bI_n.mp c58]; rfl, rfl⟩)) ?_
        refine z_isn (pc := 95) (lv' := [(2, .int (bI (keptA R v 12 || keptB R v (m + 1)))), (3, .int (nI m)), (0, .ref (b 0)), (1, .int v)]) hC hm (by decide) rfl dX6_isKept_95 ?_
        refine z_iinc (pc := 96) (v := nI (m + 1)) (j := 1) (lv' := [(3, .int (nI (m + 1))), (2, .int (bI (keptA R v 12 || keptB R v (m + 1)))), (0, .ref (b 0)), (1, .int v)]) hC hm (by decide) rfl (up_step m) rfl dX6_isKept_96 ?_
        refine z_goto (pc := 99) hC 46 (by decide) dX6_isKept_99 ?_
        refine z_lv [0, 1, 2, 3] rfl ?_
        exact ih (m + 1) (by omega)
      · refine z_aln (pc := 61) hC 2 rfl dX6_isKept_61 ?_
        refine z_iln (pc := 62) hC 0 rfl dX6_isKept_62 ?_
        refine z_iconst (pc := 63) (v := 0) hC dX6_isKept_63 (by decide) ?_
        refine z_g (pc := 64) (rest := []) hC vX6_ofJob lX6_57 dX6_isKept_64 (m_ofJob (c := 6) (w := 0) (by omega) (by decide) rfl) (fun w => w) isCtx_id rfl 0 6 rfl rfl rfl rfl rfl (by decide) (Nat.le_of_ble_eq_true rfl) ⟨Nat.le_refl _, Nat.le_refl _⟩ ?_
        refine z_iconst (pc := 67) (v := 2) hC dX6_isKept_67 (by decide) ?_
        refine z_icne (pc := 68) hC 94 (by decide) dX6_isKept_68 (fun c68 => ?_) (fun c68 => ?_)
        · refine z_iconst (pc := 94) (v := 0) hC dX6_isKept_94 (by decide) ?_
          refine z_is_ (y := bI (keptA R v 12 || keptB R v (m + 1))) (bI_is (Or.inr ⟨by rw [keptB_s, ← Bool.or_assoc, bI_0.mp c58]; simp [c68], rfl⟩)) ?_
          refine z_isn (pc := 95) (lv' := [(2, .int (bI (keptA R v 12 || keptB R v (m + 1)))), (3, .int (nI m)), (0, .ref (b 0)), (1, .int v)]) hC hm (by decide) rfl dX6_isKept_95 ?_
          refine z_iinc (pc := 96) (v := nI (m + 1)) (j := 1) (lv' := [(3, .int (nI (m + 1))), (2, .int (bI (keptA R v 12 || keptB R v (m + 1)))), (0, .ref (b 0)), (1, .int v)]) hC hm (by decide) rfl (up_step m) rfl dX6_isKept_96 ?_
          refine z_goto (pc := 99) hC 46 (by decide) dX6_isKept_99 ?_
          refine z_lv [0, 1, 2, 3] rfl ?_
          exact ih (m + 1) (by omega)
        · refine z_aln (pc := 71) hC 2 rfl dX6_isKept_71 ?_
          refine z_iln (pc := 72) hC 0 rfl dX6_isKept_72 ?_
          refine z_iconst (pc := 73) (v := 1) hC dX6_isKept_73 (by decide) ?_
          refine z_g (pc := 74) (rest := []) hC vX6_ofJob lX6_57 dX6_isKept_74 (m_ofJob (c := 7) (w := 1) (by omega) (by decide) rfl) (fun w => w) isCtx_id rfl 0 6 rfl rfl rfl rfl rfl (by decide) (Nat.le_of_ble_eq_true rfl) ⟨Nat.le_refl _, Nat.le_refl _⟩ ?_
          refine z_iln (pc := 77) hC 3 rfl dX6_isKept_77 ?_
          refine z_icne (pc := 78) hC 94 (by decide) dX6_isKept_78 (fun c78 => ?_) (fun c78 => ?_)
          · refine z_iconst (pc := 94) (v := 0) hC dX6_isKept_94 (by decide) ?_
            refine z_is_ (y := bI (keptA R v 12 || keptB R v (m + 1))) (bI_is (Or.inr ⟨by rw [keptB_s, ← Bool.or_assoc, bI_0.mp c58]; simp [c68, c78], rfl⟩)) ?_
            refine z_isn (pc := 95) (lv' := [(2, .int (bI (keptA R v 12 || keptB R v (m + 1)))), (3, .int (nI m)), (0, .ref (b 0)), (1, .int v)]) hC hm (by decide) rfl dX6_isKept_95 ?_
            refine z_iinc (pc := 96) (v := nI (m + 1)) (j := 1) (lv' := [(3, .int (nI (m + 1))), (2, .int (bI (keptA R v 12 || keptB R v (m + 1)))), (0, .ref (b 0)), (1, .int v)]) hC hm (by decide) rfl (up_step m) rfl dX6_isKept_96 ?_
            refine z_goto (pc := 99) hC 46 (by decide) dX6_isKept_99 ?_
            refine z_lv [0, 1, 2, 3] rfl ?_
            exact ih (m + 1) (by omega)
          · refine z_aln (pc := 81) hC 2 rfl dX6_isKept_81 ?_
            refine z_iln (pc := 82) hC 0 rfl dX6_isKept_82 ?_
            refine z_iconst (pc := 83) (v := 4) hC dX6_isKept_83 (by decide) ?_
            refine z_g (pc := 84) (rest := []) hC vX6_ofJob lX6_57 dX6_isKept_84 (m_ofJob (c := 10) (w := 4) (by omega) (by decide) rfl) (fun w => w) isCtx_id rfl 0 6 rfl rfl rfl rfl rfl (by decide) (Nat.le_of_ble_eq_true rfl) ⟨Nat.le_refl _, Nat.le_refl _⟩ ?_
            refine z_ifne (pc := 87) hC 94 (by decide) dX6_isKept_87 (fun c87 => ?_) (fun c87 => ?_)
            · refine z_iconst (pc := 94) (v := 0) hC dX6_isKept_94 (by decide) ?_
              refine z_is_ (y := bI (keptA R v 12 || keptB R v (m + 1))) (bI_is (Or.inr ⟨by rw [keptB_s, ← Bool.or_assoc, bI_0.mp c58]; simp [c68, c78, c87], rfl⟩)) ?_
              refine z_isn (pc := 95) (lv' := [(2, .int (bI (keptA R v 12 || keptB R v (m + 1)))), (3, .int (nI m)), (0, .ref (b 0)), (1, .int v)]) hC hm (by decide) rfl dX6_isKept_95 ?_
              refine z_iinc (pc := 96) (v := nI (m + 1)) (j := 1) (lv' := [(3, .int (nI (m + 1))), (2, .int (bI (keptA R v 12 || keptB R v (m + 1)))), (0, .ref (b 0)), (1, .int v)]) hC hm (by decide) rfl (up_step m) rfl dX6_isKept_96 ?_
              refine z_goto (pc := 99) hC 46 (by decide) dX6_isKept_99 ?_
              refine z_lv [0, 1, 2, 3] rfl ?_
              exact ih (m + 1) (by omega)
            · refine z_iconst (pc := 90) (v := 1) hC dX6_isKept_90 (by decide) ?_
              refine z_goto (pc := 91) hC 95 (by decide) dX6_isKept_91 ?_
              refine z_is_ (y := bI (keptA R v 12 || keptB R v (m + 1))) (bI_is (Or.inl ⟨by rw [keptB_s, ← Bool.or_assoc, bI_0.mp c58]; simp [c68, c78, c87], rfl⟩)) ?_
              refine z_isn (pc := 95) (lv' := [(2, .int (bI (keptA R v 12 || keptB R v (m + 1)))), (3, .int (nI m)), (0, .ref (b 0)), (1, .int v)]) hC hm (by decide) rfl dX6_isKept_95 ?_
              refine z_iinc (pc := 96) (v := nI (m + 1)) (j := 1) (lv' := [(3, .int (nI (m + 1))), (2, .int (bI (keptA R v 12 || keptB R v (m + 1)))), (0, .ref (b 0)), (1, .int v)]) hC hm (by decide) rfl (up_step m) rfl dX6_isKept_96 ?_
              refine z_goto (pc := 99) hC 46 (by decide) dX6_isKept_99 ?_
              refine z_lv [0, 1, 2, 3] rfl ?_
              exact ih (m + 1) (by omega)
  have loop1 : ∀ (k m : Nat), m + k = 12 → Z g C 0 0 (mW g.2 b R F V) [(3, .int (nI m)), (2, .int (bI (keptA R v m))), (0, .ref (b 0)), (1, .int v)] 4 [] := by
    intro k
    induction k with
    | zero =>
      intro m hm2
      refine z_iln (pc := 4) hC 0 rfl dX6_isKept_4 ?_
      refine z_bipush (pc := 5) (v := nI 12) hC dX6_isKept_5 (by decide) ?_
      refine z_icge (pc := 7) hC 44 (by decide) dX6_isKept_7 (fun c7 => ?_) (fun c7 => absurd (nI_le (by omega) (by omega)) c7)
      refine z_iconst (pc := 44) (v := nI 0) hC dX6_isKept_44 (by decide) ?_
      refine z_isn (pc := 45) (lv' := [(3, .int (nI 0)), (2, .int (bI (keptA R v m))), (0, .ref (b 0)), (1, .int v)]) hC hm (by decide) rfl dX6_isKept_45 ?_
      refine z_lv [0, 1, 2, 3] rfl ?_
      exact by rw [show m = 12 by omega, show keptA R v 12 = (keptA R v 12 || keptB R v 0) by simp [keptB]]; exact loop2 n 0 (by omega)
    | succ k ih =>
      intro m hm2
      refine z_iln (pc := 4) hC 0 rfl dX6_isKept_4 ?_
      refine z_bipush (pc := 5) (v := nI 12) hC dX6_isKept_5 (by decide) ?_
      refine z_icge (pc := 7) hC 44 (by decide) dX6_isKept_7 (fun c7 => absurd c7 (nI_ge (by omega) (by omega))) (fun c7 => ?_)
      refine z_iln (pc := 10) hC 1 rfl dX6_isKept_10 ?_
      refine z_ifne (pc := 11) hC 32 (by decide) dX6_isKept_11 (fun c11 => ?_) (fun c11 => ?_)
      · refine z_iconst (pc := 32) (v := 1) hC dX6_isKept_32 (by decide) ?_
        refine z_goto (pc := 33) hC 37 (by decide) dX6_isKept_33 ?_
        refine z_is_ (y := bI (keptA R v (m + 1))) (bI_is (Or.inl ⟨by rw [keptA_s]; simp [bI_n.mp c11], rfl⟩)) ?_
        refine z_isn (pc := 37) (lv' := [(2, .int (bI (keptA R v (m + 1)))), (3, .int (nI m)), (0, .ref (b 0)), (1, .int v)]) hC hm (by decide) rfl dX6_isKept_37 ?_
        refine z_iinc (pc := 38) (v := nI (m + 1)) (j := 1) (lv' := [(3, .int (nI (m + 1))), (2, .int (bI (keptA R v (m + 1)))), (0, .ref (b 0)), (1, .int v)]) hC hm (by decide) rfl (up_step m) rfl dX6_isKept_38 ?_
        refine z_goto (pc := 41) hC 4 (by decide) dX6_isKept_41 ?_
        refine z_lv [0, 1, 2, 3] rfl ?_
        exact ih (m + 1) (by omega)
      · refine z_aln (pc := 14) hC 2 rfl dX6_isKept_14 ?_
        refine z_iln (pc := 15) hC 0 rfl dX6_isKept_15 ?_
        refine z_g (pc := 16) (rest := []) hC vX6_isScratch lX6_67 dX6_isKept_16 (m_isScratch (r := m) (by omega)) (fun w => w) isCtx_id rfl 0 6 rfl rfl rfl rfl rfl (by decide) (Nat.le_of_ble_eq_true rfl) ⟨Nat.le_refl _, Nat.le_refl _⟩ ?_
        refine z_ifne (pc := 19) hC 36 (by decide) dX6_isKept_19 (fun c19 => ?_) (fun c19 => ?_)
        · refine z_iconst (pc := 36) (v := 0) hC dX6_isKept_36 (by decide) ?_
          refine z_is_ (y := bI (keptA R v (m + 1))) (bI_is (Or.inr ⟨by rw [keptA_s]; simp [bI_0.mp c11, bI_n.mp c19], rfl⟩)) ?_
          refine z_isn (pc := 37) (lv' := [(2, .int (bI (keptA R v (m + 1)))), (3, .int (nI m)), (0, .ref (b 0)), (1, .int v)]) hC hm (by decide) rfl dX6_isKept_37 ?_
          refine z_iinc (pc := 38) (v := nI (m + 1)) (j := 1) (lv' := [(3, .int (nI (m + 1))), (2, .int (bI (keptA R v (m + 1)))), (0, .ref (b 0)), (1, .int v)]) hC hm (by decide) rfl (up_step m) rfl dX6_isKept_38 ?_
          refine z_goto (pc := 41) hC 4 (by decide) dX6_isKept_41 ?_
          refine z_lv [0, 1, 2, 3] rfl ?_
          exact ih (m + 1) (by omega)
        · refine z_aln (pc := 22) hC 2 rfl dX6_isKept_22 ?_
          refine z_iln (pc := 23) hC 0 rfl dX6_isKept_23 ?_
          refine z_iconst (pc := 24) (v := 0) hC dX6_isKept_24 (by decide) ?_
          refine z_g (pc := 25) (rest := []) hC vX6_of lX6_46 dX6_isKept_25 (m_of (w := 0) (by omega) (by decide)) (fun w => w) isCtx_id rfl 0 6 rfl rfl rfl rfl rfl (by decide) (Nat.le_of_ble_eq_true rfl) ⟨Nat.le_refl _, Nat.le_refl _⟩ ?_
          refine z_iln (pc := 28) hC 3 rfl dX6_isKept_28 ?_
          refine z_icne (pc := 29) hC 36 (by decide) dX6_isKept_29 (fun c29 => ?_) (fun c29 => ?_)
          · refine z_iconst (pc := 36) (v := 0) hC dX6_isKept_36 (by decide) ?_
            refine z_is_ (y := bI (keptA R v (m + 1))) (bI_is (Or.inr ⟨by rw [keptA_s]; simp [bI_0.mp c11, bI_0.mp c19, c29], rfl⟩)) ?_
            refine z_isn (pc := 37) (lv' := [(2, .int (bI (keptA R v (m + 1)))), (3, .int (nI m)), (0, .ref (b 0)), (1, .int v)]) hC hm (by decide) rfl dX6_isKept_37 ?_
            refine z_iinc (pc := 38) (v := nI (m + 1)) (j := 1) (lv' := [(3, .int (nI (m + 1))), (2, .int (bI (keptA R v (m + 1)))), (0, .ref (b 0)), (1, .int v)]) hC hm (by decide) rfl (up_step m) rfl dX6_isKept_38 ?_
            refine z_goto (pc := 41) hC 4 (by decide) dX6_isKept_41 ?_
            refine z_lv [0, 1, 2, 3] rfl ?_
            exact ih (m + 1) (by omega)
          · refine z_iconst (pc := 32) (v := 1) hC dX6_isKept_32 (by decide) ?_
            refine z_goto (pc := 33) hC 37 (by decide) dX6_isKept_33 ?_
            refine z_is_ (y := bI (keptA R v (m + 1))) (bI_is (Or.inl ⟨by rw [keptA_s]; simp [bI_0.mp c11, bI_0.mp c19, c29], rfl⟩)) ?_
            refine z_isn (pc := 37) (lv' := [(2, .int (bI (keptA R v (m + 1)))), (3, .int (nI m)), (0, .ref (b 0)), (1, .int v)]) hC hm (by decide) rfl dX6_isKept_37 ?_
            refine z_iinc (pc := 38) (v := nI (m + 1)) (j := 1) (lv' := [(3, .int (nI (m + 1))), (2, .int (bI (keptA R v (m + 1)))), (0, .ref (b 0)), (1, .int v)]) hC hm (by decide) rfl (up_step m) rfl dX6_isKept_38 ?_
            refine z_goto (pc := 41) hC 4 (by decide) dX6_isKept_41 ?_
            refine z_lv [0, 1, 2, 3] rfl ?_
            exact ih (m + 1) (by omega)
  refine z_iconst (pc := 0) (v := 0) hC dX6_isKept_0 (by decide) ?_
  refine z_isn (pc := 1) (lv' := [(2, .int 0), (0, .ref (b 0)), (1, .int v)]) hC hm (by decide) rfl dX6_isKept_1 ?_
  refine z_iconst (pc := 2) (v := nI 0) hC dX6_isKept_2 (by decide) ?_
  refine z_isn (pc := 3) (lv' := [(3, .int (nI 0)), (2, .int 0), (0, .ref (b 0)), (1, .int v)]) hC hm (by decide) rfl dX6_isKept_3 ?_
  refine z_lv [0, 1, 2, 3] rfl ?_
  exact loop1 12 0 rfl

set_option maxRecDepth 100000 in
set_option maxHeartbeats 4000000 in
theorem m_canSubmit {g : zG} {b : Nat → Nat} {R : St} {F : Nat → Nat → Int32} {V : Nat → Int32} {n : Nat} (hn : R 14 10 = nI n) (hn2 : n ≤ 12) {x v : Int32} : Gi g yX6_canSubmit cX6_canSubmit 3 .boolean 3 [.ref (b 0), .int x, .int v] (mW g.2 b R F V) (bI (canS R n x v)) (mW g.2 b R F V) := by
  refine fi_entry (by decide) (Nat.le_of_ble_eq_true rfl) (fun C hC hm hE => ?_)
  refine z_aln (pc := 0) hC 0 rfl dX6_canSubmit_0 ?_
  refine z_get (pc := 1) hC fX6_7 0 rfl rfl dX6_canSubmit_1 ?_
  refine z_bipush (pc := 4) (v := 82) hC dX6_canSubmit_4 (by decide) ?_
  refine z_iald (pc := 6) hC 1 rfl dX6_canSubmit_6 82 rfl (by decide) (by decide) ?_
  refine z_is_ (y := nI n) (by rw [flat_82]; exact hn) ?_
  refine z_bipush (pc := 7) (v := nI 12) hC dX6_canSubmit_7 (by decide) ?_
  refine z_icge (pc := 9) hC 29 (by decide) dX6_canSubmit_9 (fun c9 => ?_) (fun c9 => ?_)
  · refine z_iconst (pc := 29) (v := 0) hC dX6_canSubmit_29 (by decide) ?_
    exact hE _ _ _ () _ _ _ dX6_canSubmit_30 rfl (bI_is (Or.inr ⟨by simp [canS, show ¬ n < 12 from Nat.not_lt.mpr ((nI_leI (by omega) (by omega)).mp c9)], rfl⟩)) rfl (Nat.le_refl _) (Nat.le_refl _)
  · refine z_iln (pc := 12) hC 1 rfl dX6_canSubmit_12 ?_
    refine z_iconst (pc := 13) (v := 2) hC dX6_canSubmit_13 (by decide) ?_
    refine z_icne (pc := 14) hC 25 (by decide) dX6_canSubmit_14 (fun c14 => ?_) (fun c14 => ?_)
    · refine z_iconst (pc := 25) (v := 1) hC dX6_canSubmit_25 (by decide) ?_
      refine z_goto (pc := 26) hC 30 (by decide) dX6_canSubmit_26 ?_
      exact hE _ _ _ () _ _ _ dX6_canSubmit_30 rfl (bI_is (Or.inl ⟨by simp [canS, show n < 12 from Nat.lt_of_not_le (fun q => c9 (nI_le q (by omega))), c14], rfl⟩)) rfl (Nat.le_refl _) (Nat.le_refl _)
    · refine z_aln (pc := 17) hC 0 rfl dX6_canSubmit_17 ?_
      refine z_iln (pc := 18) hC 2 rfl dX6_canSubmit_18 ?_
      refine z_g (pc := 19) (rest := []) hC vX6_isKept lX6_109 dX6_canSubmit_19 (m_isKept hn hn2) (fun w => w) isCtx_id rfl 0 6 rfl rfl rfl rfl rfl (by decide) (Nat.le_of_ble_eq_true rfl) ⟨Nat.le_refl _, Nat.le_refl _⟩ ?_
      refine z_ifne (pc := 22) hC 29 (by decide) dX6_canSubmit_22 (fun c22 => ?_) (fun c22 => ?_)
      · refine z_iconst (pc := 29) (v := 0) hC dX6_canSubmit_29 (by decide) ?_
        exact hE _ _ _ () _ _ _ dX6_canSubmit_30 rfl (bI_is (Or.inr ⟨by simp [canS, show n < 12 from Nat.lt_of_not_le (fun q => c9 (nI_le q (by omega))), c14, bI_n.mp c22], rfl⟩)) rfl (Nat.le_refl _) (Nat.le_refl _)
      · refine z_iconst (pc := 25) (v := 1) hC dX6_canSubmit_25 (by decide) ?_
        refine z_goto (pc := 26) hC 30 (by decide) dX6_canSubmit_26 ?_
        exact hE _ _ _ () _ _ _ dX6_canSubmit_30 rfl (bI_is (Or.inl ⟨by simp [canS, show n < 12 from Nat.lt_of_not_le (fun q => c9 (nI_le q (by omega))), c14, bI_0.mp c22], rfl⟩)) rfl (Nat.le_refl _) (Nat.le_refl _)

set_option maxRecDepth 100000 in
set_option maxHeartbeats 4000000 in
theorem m_submitNow {g : zG} {b : Nat → Nat} {R : St} {F : Nat → Nat → Int32} {V : Nat → Int32} {n : Nat} (hn : R 14 10 = nI n) (hj : n < 12) {x y z u : Int32} : Gi g yX6_submitNow cX6_submitNow 6 .int 1 [.ref (b 0), .int x, .int y, .int z, .int u] (mW g.2 b R F V) (nI n) (mW g.2 b (subm R n x y z u) F V) := by
  refine fi_entry (by decide) (Nat.le_of_ble_eq_true rfl) (fun C hC hm hE => ?_)
  refine z_aln (pc := 0) hC 0 rfl dX6_submitNow_0 ?_
  refine z_get (pc := 1) hC fX6_7 0 rfl rfl dX6_submitNow_1 ?_
  refine z_bipush (pc := 4) (v := 82) hC dX6_submitNow_4 (by decide) ?_
  refine z_iald (pc := 6) hC 1 rfl dX6_submitNow_6 82 rfl (by decide) (by decide) ?_
  refine z_is_ (y := nI n) (by rw [flat_82]; exact hn) ?_
  refine z_is (pc := 7) (lv' := [(5, .int (nI n)), (0, .ref (b 0)), (1, .int x), (2, .int y), (3, .int z), (4, .int u)]) hC hm (by decide) rfl dX6_submitNow_7 ?_
  refine z_aln (pc := 9) hC 1 rfl dX6_submitNow_9 ?_
  refine z_il (pc := 10) hC 0 rfl dX6_submitNow_10 ?_
  refine z_iconst (pc := 12) (v := 0) hC dX6_submitNow_12 (by decide) ?_
  refine z_iln (pc := 13) hC 2 rfl dX6_submitNow_13 ?_
  refine z_gv (pc := 14) (rest := []) hC vX6_putJob lX6_73 dX6_submitNow_14 (m_putJob (c := 6) (w := 0) (v := x) hj (by decide) rfl) (fun w => w) isCtx_id rfl 0 6 rfl rfl rfl rfl rfl (by decide) (Nat.le_of_ble_eq_true rfl) ⟨Nat.le_refl _, Nat.le_refl _⟩ ?_
  refine z_aln (pc := 17) hC 1 rfl dX6_submitNow_17 ?_
  refine z_il (pc := 18) hC 0 rfl dX6_submitNow_18 ?_
  refine z_iconst (pc := 20) (v := 1) hC dX6_submitNow_20 (by decide) ?_
  refine z_iln (pc := 21) hC 3 rfl dX6_submitNow_21 ?_
  refine z_gv (pc := 22) (rest := []) hC vX6_putJob lX6_73 dX6_submitNow_22 (m_putJob (c := 7) (w := 1) (v := y) hj (by decide) rfl) (fun w => w) isCtx_id rfl 0 6 rfl rfl rfl rfl rfl (by decide) (Nat.le_of_ble_eq_true rfl) ⟨Nat.le_refl _, Nat.le_refl _⟩ ?_
  refine z_aln (pc := 25) hC 1 rfl dX6_submitNow_25 ?_
  refine z_il (pc := 26) hC 0 rfl dX6_submitNow_26 ?_
  refine z_iconst (pc := 28) (v := 2) hC dX6_submitNow_28 (by decide) ?_
  refine z_iln (pc := 29) hC 4 rfl dX6_submitNow_29 ?_
  refine z_gv (pc := 30) (rest := []) hC vX6_putJob lX6_73 dX6_submitNow_30 (m_putJob (c := 8) (w := 2) (v := z) hj (by decide) rfl) (fun w => w) isCtx_id rfl 0 6 rfl rfl rfl rfl rfl (by decide) (Nat.le_of_ble_eq_true rfl) ⟨Nat.le_refl _, Nat.le_refl _⟩ ?_
  refine z_aln (pc := 33) hC 1 rfl dX6_submitNow_33 ?_
  refine z_il (pc := 34) hC 0 rfl dX6_submitNow_34 ?_
  refine z_iconst (pc := 36) (v := 3) hC dX6_submitNow_36 (by decide) ?_
  refine z_il (pc := 37) hC 5 rfl dX6_submitNow_37 ?_
  refine z_gv (pc := 39) (rest := []) hC vX6_putJob lX6_73 dX6_submitNow_39 (m_putJob (c := 9) (w := 3) (v := u) hj (by decide) rfl) (fun w => w) isCtx_id rfl 0 6 rfl rfl rfl rfl rfl (by decide) (Nat.le_of_ble_eq_true rfl) ⟨Nat.le_refl _, Nat.le_refl _⟩ ?_
  refine z_aln (pc := 42) hC 1 rfl dX6_submitNow_42 ?_
  refine z_il (pc := 43) hC 0 rfl dX6_submitNow_43 ?_
  refine z_iconst (pc := 45) (v := 4) hC dX6_submitNow_45 (by decide) ?_
  refine z_iconst (pc := 46) (v := 0) hC dX6_submitNow_46 (by decide) ?_
  refine z_gv (pc := 47) (rest := []) hC vX6_putJob lX6_73 dX6_submitNow_47 (m_putJob (c := 10) (w := 4) (v := 0) hj (by decide) rfl) (fun w => w) isCtx_id rfl 0 6 rfl rfl rfl rfl rfl (by decide) (Nat.le_of_ble_eq_true rfl) ⟨Nat.le_refl _, Nat.le_refl _⟩ ?_
  refine z_aln (pc := 50) hC 1 rfl dX6_submitNow_50 ?_
  refine z_il (pc := 51) hC 0 rfl dX6_submitNow_51 ?_
  refine z_iconst (pc := 53) (v := 5) hC dX6_submitNow_53 (by decide) ?_
  refine z_iconst (pc := 54) (v := 0) hC dX6_submitNow_54 (by decide) ?_
  refine z_gv (pc := 55) (rest := []) hC vX6_putJob lX6_73 dX6_submitNow_55 (m_putJob (c := 11) (w := 5) (v := 0) hj (by decide) rfl) (fun w => w) isCtx_id rfl 0 6 rfl rfl rfl rfl rfl (by decide) (Nat.le_of_ble_eq_true rfl) ⟨Nat.le_refl _, Nat.le_refl _⟩ ?_
  refine z_aln (pc := 58) hC 1 rfl dX6_submitNow_58 ?_
  refine z_il (pc := 59) hC 0 rfl dX6_submitNow_59 ?_
  refine z_bipush (pc := 61) (v := 6) hC dX6_submitNow_61 (by decide) ?_
  refine z_iconst (pc := 63) (v := -1) hC dX6_submitNow_63 (by decide) ?_
  refine z_gv (pc := 64) (rest := []) hC vX6_putJob lX6_73 dX6_submitNow_64 (m_putJob (c := 12) (w := 6) (v := -1) hj (by decide) rfl) (fun w => w) isCtx_id rfl 0 6 rfl rfl rfl rfl rfl (by decide) (Nat.le_of_ble_eq_true rfl) ⟨Nat.le_refl _, Nat.le_refl _⟩ ?_
  refine z_aln (pc := 67) hC 1 rfl dX6_submitNow_67 ?_
  refine z_il (pc := 68) hC 0 rfl dX6_submitNow_68 ?_
  refine z_bipush (pc := 70) (v := 7) hC dX6_submitNow_70 (by decide) ?_
  refine z_iconst (pc := 72) (v := 0) hC dX6_submitNow_72 (by decide) ?_
  refine z_gv (pc := 73) (rest := []) hC vX6_putJob lX6_73 dX6_submitNow_73 (m_putJob (c := 13) (w := 7) (v := 0) hj (by decide) rfl) (fun w => w) isCtx_id rfl 0 6 rfl rfl rfl rfl rfl (by decide) (Nat.le_of_ble_eq_true rfl) ⟨Nat.le_refl _, Nat.le_refl _⟩ ?_
  refine z_aln (pc := 76) hC 1 rfl dX6_submitNow_76 ?_
  refine z_get (pc := 77) hC fX6_7 0 rfl rfl dX6_submitNow_77 ?_
  refine z_bipush (pc := 80) (v := 82) hC dX6_submitNow_80 (by decide) ?_
  refine z_dup2 (pc := 82) hC rfl rfl dX6_submitNow_82 ?_
  refine z_iald (pc := 83) hC 1 rfl dX6_submitNow_83 82 rfl (by decide) (by decide) ?_
  refine z_is_ (y := R 14 10) (flat_82 _) ?_
  refine z_iconst (pc := 84) (v := 1) hC dX6_submitNow_84 (by decide) ?_
  refine z_iadd (pc := 85) (v := (R 14 10) + 1) hC rfl dX6_submitNow_85 ?_
  refine z_iast (pc := 86) (ws' := mW g.2 b (setS (setS (setS (setS (setS (setS (setS (setS (setS R 6 n x) 7 n y) 8 n z) 9 n u) 10 n 0) 11 n 0) 12 n (-1)) 13 n 0) 14 10 ((R 14 10) + 1)) F V) hC 1 rfl dX6_submitNow_86 82 rfl (by decide) (by decide) mW_82 ?_
  refine z_il (pc := 87) hC 0 rfl dX6_submitNow_87 ?_
  exact hE _ _ _ () _ _ _ dX6_submitNow_89 rfl rfl rfl (Nat.le_refl _) (Nat.le_refl _)
end
section
set_option maxRecDepth 100000 in
set_option maxHeartbeats 4000000 in
theorem c_within {g : zG} {x y z : Int32} : Gi g yX5_isWithin cX5_isWithin 3 .boolean 0 [.int x, .int y, .int z] ([]) (bI (inB x y z)) ([]) := by
  refine fi_entry (by decide) (Nat.le_of_ble_eq_true rfl) (fun C hC hm hE => ?_)
  refine z_iln (pc := 0) hC 0 rfl dX5_isWithin_0 ?_
  refine z_iln (pc := 1) hC 1 rfl dX5_isWithin_1 ?_
  refine z_iclt (pc := 2) hC 14 (by decide) dX5_isWithin_2 (fun c2 => ?_) (fun c2 => ?_)
  · refine z_iconst (pc := 14) (v := 0) hC dX5_isWithin_14 (by decide) ?_
    exact hE _ _ _ () _ _ _ dX5_isWithin_15 rfl (by first | exact inB_1 c2 | exact inB_2 c7) rfl (Nat.le_refl _) (Nat.le_refl _)
  · refine z_iln (pc := 5) hC 0 rfl dX5_isWithin_5 ?_
    refine z_iln (pc := 6) hC 2 rfl dX5_isWithin_6 ?_
    refine z_icgt (pc := 7) hC 14 (by decide) dX5_isWithin_7 (fun c7 => ?_) (fun c7 => ?_)
    · refine z_iconst (pc := 14) (v := 0) hC dX5_isWithin_14 (by decide) ?_
      exact hE _ _ _ () _ _ _ dX5_isWithin_15 rfl (by first | exact inB_1 c2 | exact inB_2 c7) rfl (Nat.le_refl _) (Nat.le_refl _)
    · refine z_iconst (pc := 10) (v := 1) hC dX5_isWithin_10 (by decide) ?_
      refine z_goto (pc := 11) hC 15 (by decide) dX5_isWithin_11 ?_
      exact hE _ _ _ () _ _ _ dX5_isWithin_15 rfl (inB_3 c2 c7) rfl (Nat.le_refl _) (Nat.le_refl _)

set_option maxRecDepth 100000 in
set_option maxHeartbeats 4000000 in
theorem c_isReel {g : zG} {x : Int32} : Gi g yX5_isReel cX5_isReel 1 .boolean 1 [.int x] ([]) (bI (isReel x)) ([]) := by
  refine fi_entry (by decide) (Nat.le_of_ble_eq_true rfl) (fun C hC hm hE => ?_)
  refine z_iln (pc := 0) hC 0 rfl dX5_isReel_0 ?_
  refine z_iconst (pc := 1) (v := 0) hC dX5_isReel_1 (by decide) ?_
  refine z_bipush (pc := 2) (v := 11) hC dX5_isReel_2 (by decide) ?_
  refine z_gs (pc := 4) (rest := []) hC sX5_isWithin lX5_33 dX5_isReel_4 (c_within (x := x) (y := 0) (z := 11)) rfl rfl (by decide) (Nat.le_of_ble_eq_true rfl) ⟨Nat.le_refl _, Nat.le_refl _⟩ ?_
  exact hE _ _ _ () _ _ _ dX5_isReel_7 (bI_nar _) rfl rfl (Nat.le_refl _) (Nat.le_refl _)

set_option maxRecDepth 100000 in
set_option maxHeartbeats 4000000 in
theorem c_isScratch {g : zG} {a : Nat → Nat} {R : St} {r : Nat} (hr : r < 12) {dy : Int32} (hdy : dy = R 14 0) : Gi g yX3_isScratch cX3_isScratch 3 .boolean 0 [.ref (a 1), .int (nI r), .int dy] (rW g.2 a R) (bI (scr R r)) (rW g.2 a R) := by
  refine fi_entry (by decide) (Nat.le_of_ble_eq_true rfl) (fun C hC hm hE => ?_)
  refine z_aln (pc := 0) hC 0 rfl dX3_isScratch_0 ?_
  refine z_get (pc := 1) hC fX3_9 1 rfl rfl dX3_isScratch_1 ?_
  refine z_iln (pc := 4) hC 1 rfl dX3_isScratch_4 ?_
  refine z_iald (pc := 5) hC 3 rfl dX3_isScratch_5 r rfl (by omega) (by decide) ?_
  refine z_ifeq (pc := 6) hC 19 (by decide) dX3_isScratch_6 (fun c6 => ?_) (fun c6 => ?_)
  · refine z_iconst (pc := 19) (v := 1) hC dX3_isScratch_19 (by decide) ?_
    refine z_goto (pc := 20) hC 24 (by decide) dX3_isScratch_20 ?_
    exact hE _ _ _ () _ _ _ dX3_isScratch_24 rfl (bI_t (by first | (simp [scr, c6]; done) | (simp [scr, ← hdy, Int32.not_le.mp c16]; done))) rfl (Nat.le_refl _) (Nat.le_refl _)
  · refine z_aln (pc := 9) hC 0 rfl dX3_isScratch_9 ?_
    refine z_get (pc := 10) hC fX3_22 1 rfl rfl dX3_isScratch_10 ?_
    refine z_iln (pc := 13) hC 1 rfl dX3_isScratch_13 ?_
    refine z_iald (pc := 14) hC 6 rfl dX3_isScratch_14 r rfl (by omega) (by decide) ?_
    refine z_iln (pc := 15) hC 2 rfl dX3_isScratch_15 ?_
    refine z_icge (pc := 16) hC 23 (by decide) dX3_isScratch_16 (fun c16 => ?_) (fun c16 => ?_)
    · refine z_iconst (pc := 23) (v := 0) hC dX3_isScratch_23 (by decide) ?_
      exact hE _ _ _ () _ _ _ dX3_isScratch_24 rfl (bI_f (by simp [scr, c6, ← hdy, Int32.not_lt.mpr c16])) rfl (Nat.le_refl _) (Nat.le_refl _)
    · refine z_iconst (pc := 19) (v := 1) hC dX3_isScratch_19 (by decide) ?_
      refine z_goto (pc := 20) hC 24 (by decide) dX3_isScratch_20 ?_
      exact hE _ _ _ () _ _ _ dX3_isScratch_24 rfl (bI_t (by first | (simp [scr, c6]; done) | (simp [scr, ← hdy, Int32.not_le.mp c16]; done))) rfl (Nat.le_refl _) (Nat.le_refl _)

theorem fst_ext (p : Nat → Bool) : ∀ (k i : Nat), i + k < 2 ^ 31 → fst_ p i (k + 1) = if fst_ p i k = -1 then (if p (i + k) = true then nI (i + k) else -1) else fst_ p i k
  | 0, i, _ => by simp [fst_]
  | k + 1, i, hk => by
    by_cases h : p i = true
    · have e : ∀ n, fst_ p i (n + 1) = nI i := fun n => by simp [fst_, h]
      rw [e, e, if_neg (nI_ne (by omega))]
    · have e : ∀ n, fst_ p i (n + 1) = fst_ p (i + 1) n := fun n => by simp [fst_, h]
      rw [e, e, fst_ext p k (i + 1) (by omega), show i + 1 + k = i + (k + 1) by omega]
theorem fst_hit {p : Nat → Bool} {m N : Nat} (h : ∀ j, j < m → p j = false) (hm : p m = true) (hN : m < N) : fst_ p 0 N = nI m := by
  rcases fst_spec p N 0 with ⟨-, h2⟩ | ⟨r, -, h2, h3, h4, h5⟩
  · have := h2 m (by omega) (by omega)
    rw [hm] at this; cases this
  · rcases Nat.lt_trichotomy r m with q | q | q
    · rw [h r q] at h4; cases h4
    · rw [h3, q]
    · rw [h5 m (by omega) q] at hm; cases hm
theorem fst_miss {p : Nat → Bool} {N : Nat} (h : ∀ j, j < N → p j = false) : fst_ p 0 N = -1 := by
  rcases fst_spec p N 0 with ⟨h1, -⟩ | ⟨r, -, h2, h3, h4, h5⟩
  · exact h1
  · rw [h r (by omega)] at h4; cases h4
theorem all_s {p : Nat → Bool} {m : Nat} (h : ∀ j, j < m → p j = false) (hm : p m = false) : ∀ j, j < m + 1 → p j = false := fun j hj => by
  rcases Nat.lt_succ_iff_lt_or_eq.mp hj with q | rfl
  · exact h j q
  · exact hm
theorem keptA_iff {R : St} {v : Int32} {m : Nat} : keptA R v m = false ↔ ∀ j, j < m → (!scr R j && decide (R 0 j = v)) = false := by
  simp [keptA]
theorem keptA_t {R : St} {v : Int32} {m N : Nat} (h : (!scr R m && decide (R 0 m = v)) = true) (hm : m < N) : keptA R v N = true := by
  simp only [keptA, List.any_eq_true, List.mem_range]
  exact ⟨m, hm, h⟩
theorem keptB_t {R : St} {v : Int32} {m N : Nat} (h : (decide (R 6 m = 2) && (decide (R 7 m = v) && decide (R 10 m = 0))) = true) (hm : m < N) : keptB R v N = true := by
  simp only [keptB, List.any_eq_true, List.mem_range]
  exact ⟨m, hm, h⟩
theorem keptA_f {R : St} {v : Int32} {m : Nat} (h : ∀ j, j < m → (!scr R j && decide (R 0 j = v)) = false) : keptA R v m = false := keptA_iff.mpr h
theorem keptB_f {R : St} {v : Int32} {m : Nat} (h : ∀ j, j < m → (decide (R 6 j = 2) && (decide (R 7 j = v) && decide (R 10 j = 0))) = false) : keptB R v m = false := by
  simp only [keptB, List.any_eq_false, List.mem_range]
  exact fun j hj => by rw [h j hj]; decide
theorem fst_lst {R : St} {x : Int32} (hD : DI R) (hx : ¬ x = -1) : fst_ (fun r => decide (R 5 r = x)) 0 12 = onDr R x := by
  rcases lst_spec (fun r => decide (R 5 r = x)) 12 with ⟨h1, h2⟩ | ⟨r, h1, h2, h3, h4⟩
  · exact (fst_miss h2).trans h1.symm
  · refine (fst_hit (fun j hj => ?_) h3 h1).trans h2.symm
    simp only [decide_eq_false_iff_not]
    intro e
    have e3 : R 5 r = x := by simpa using h3
    have := hD j r (by omega) h1 (e.trans e3.symm) (by rw [e]; exact hx)
    omega

set_option maxRecDepth 100000 in
set_option maxHeartbeats 4000000 in
theorem c_keepsLabel {g : zG} {a : Nat → Nat} {R : St} {v dy : Int32} (hdy : dy = R 14 0) : Gi g yX3_keepsLabel cX3_keepsLabel 4 .boolean 1 [.ref (a 1), .int v, .int dy] (rW g.2 a R) (bI (keptA R v 12)) (rW g.2 a R) := by
  refine fi_entry (by decide) (Nat.le_of_ble_eq_true rfl) (fun C hC hm hE => ?_)
  have loop : ∀ k m : Nat, m + k = 12 → (∀ j, j < m → (!scr R j && decide (R 0 j = v)) = false) → Z g C 0 0 (rW g.2 a R) [(3, .int (nI m)), (0, .ref (a 1)), (1, .int v), (2, .int dy)] 2 [] := by
    intro k
    induction k with
    | zero =>
      intro m hm2 hp
      refine z_iln (pc := 2) hC 0 rfl dX3_keepsLabel_2 ?_
      refine z_bipush (pc := 3) (v := nI 12) hC dX3_keepsLabel_3 (by decide) ?_
      refine z_icge (pc := 5) hC 35 (by decide) dX3_keepsLabel_5 (fun c5 => ?_) (fun c5 => absurd (nI_le (by omega) (by omega)) c5)
      refine z_iconst (pc := 35) (v := 0) hC dX3_keepsLabel_35 (by decide) ?_
      exact hE _ _ _ () _ _ _ dX3_keepsLabel_36 rfl (bI_f (keptA_f (by rw [show (12 : Nat) = m by omega]; exact hp))) rfl (Nat.le_refl _) (Nat.le_refl _)
    | succ k ih =>
      intro m hm2 hp
      refine z_iln (pc := 2) hC 0 rfl dX3_keepsLabel_2 ?_
      refine z_bipush (pc := 3) (v := nI 12) hC dX3_keepsLabel_3 (by decide) ?_
      refine z_icge (pc := 5) hC 35 (by decide) dX3_keepsLabel_5 (fun c5 => absurd c5 (nI_ge (by omega) (by omega))) (fun c5 => ?_)
      refine z_aln (pc := 8) hC 1 rfl dX3_keepsLabel_8 ?_
      refine z_get (pc := 9) hC fX3_9 1 rfl rfl dX3_keepsLabel_9 ?_
      refine z_iln (pc := 12) hC 0 rfl dX3_keepsLabel_12 ?_
      refine z_iald (pc := 13) hC 3 rfl dX3_keepsLabel_13 m rfl (by omega) (by decide) ?_
      refine z_iln (pc := 14) hC 2 rfl dX3_keepsLabel_14 ?_
      refine z_icne (pc := 15) hC 29 (by decide) dX3_keepsLabel_15 (fun c15 => ?_) (fun c15 => ?_)
      · refine z_iinc (pc := 29) (v := nI (m + 1)) (j := 0) (lv' := [(3, .int (nI (m + 1))), (0, .ref (a 1)), (1, .int v), (2, .int dy)]) hC hm (by decide) rfl (up_step m) rfl dX3_keepsLabel_29 ?_
        refine z_goto (pc := 32) hC 2 (by decide) dX3_keepsLabel_32 ?_
        refine z_lv [0, 1, 2, 3] rfl ?_
        exact ih (m + 1) (by omega) (all_s hp (by first | (simp [c15]; done) | (simp [bI_n.mp c24]; done)))
      · refine z_aln (pc := 18) hC 1 rfl dX3_keepsLabel_18 ?_
        refine z_iln (pc := 19) hC 0 rfl dX3_keepsLabel_19 ?_
        refine z_iln (pc := 20) hC 3 rfl dX3_keepsLabel_20 ?_
        refine z_g (pc := 21) (rest := []) hC vX3_isScratch lX3_37 dX3_keepsLabel_21 (c_isScratch (r := m) (by omega) hdy) (fun w => w) isCtx_id rfl 1 3 rfl rfl rfl rfl rfl (by decide) (Nat.le_of_ble_eq_true rfl) ⟨Nat.le_refl _, Nat.le_refl _⟩ ?_
        refine z_ifne (pc := 24) hC 29 (by decide) dX3_keepsLabel_24 (fun c24 => ?_) (fun c24 => ?_)
        · refine z_iinc (pc := 29) (v := nI (m + 1)) (j := 0) (lv' := [(3, .int (nI (m + 1))), (0, .ref (a 1)), (1, .int v), (2, .int dy)]) hC hm (by decide) rfl (up_step m) rfl dX3_keepsLabel_29 ?_
          refine z_goto (pc := 32) hC 2 (by decide) dX3_keepsLabel_32 ?_
          refine z_lv [0, 1, 2, 3] rfl ?_
          exact ih (m + 1) (by omega) (all_s hp (by first | (simp [c15]; done) | (simp [bI_n.mp c24]; done)))
        · refine z_iconst (pc := 27) (v := 1) hC dX3_keepsLabel_27 (by decide) ?_
          exact hE _ _ _ () _ _ _ dX3_keepsLabel_28 rfl (bI_t (keptA_t (m := m) (by simp [c15, bI_0.mp c24]) (by omega))) rfl (Nat.le_refl _) (Nat.le_refl _)
  refine z_iconst (pc := 0) (v := nI 0) hC dX3_keepsLabel_0 (by decide) ?_
  refine z_isn (pc := 1) (lv' := [(3, .int (nI 0)), (0, .ref (a 1)), (1, .int v), (2, .int dy)]) hC hm (by decide) rfl dX3_keepsLabel_1 ?_
  refine z_lv [0, 1, 2, 3] rfl ?_
  exact loop 12 0 rfl (fun j h => absurd h (Nat.not_lt_zero j))

set_option maxRecDepth 100000 in
set_option maxHeartbeats 4000000 in
theorem c_findOn {g : zG} {a : Nat → Nat} {R : St} {x : Int32} : Gi g yX3_findOn cX3_findOn 3 .int 0 [.ref (a 1), .int x] (rW g.2 a R) (fst_ (fun r => decide (R 5 r = x)) 0 12) (rW g.2 a R) := by
  refine fi_entry (by decide) (Nat.le_of_ble_eq_true rfl) (fun C hC hm hE => ?_)
  have loop : ∀ k m : Nat, m + k = 12 → (∀ j, j < m → (fun r => decide (R 5 r = x)) j = false) → Z g C 0 0 (rW g.2 a R) [(2, .int (nI m)), (0, .ref (a 1)), (1, .int x)] 2 [] := by
    intro k
    induction k with
    | zero =>
      intro m hm2 hp
      refine z_iln (pc := 2) hC 0 rfl dX3_findOn_2 ?_
      refine z_bipush (pc := 3) (v := nI 12) hC dX3_findOn_3 (by decide) ?_
      refine z_icge (pc := 5) hC 26 (by decide) dX3_findOn_5 (fun c5 => ?_) (fun c5 => absurd (nI_le (by omega) (by omega)) c5)
      refine z_iconst (pc := 26) (v := -1) hC dX3_findOn_26 (by decide) ?_
      exact hE _ _ _ () _ _ _ dX3_findOn_27 rfl (fst_miss (by rw [show (12 : Nat) = m by omega]; exact hp)).symm rfl (Nat.le_refl _) (Nat.le_refl _)
    | succ k ih =>
      intro m hm2 hp
      refine z_iln (pc := 2) hC 0 rfl dX3_findOn_2 ?_
      refine z_bipush (pc := 3) (v := nI 12) hC dX3_findOn_3 (by decide) ?_
      refine z_icge (pc := 5) hC 26 (by decide) dX3_findOn_5 (fun c5 => absurd c5 (nI_ge (by omega) (by omega))) (fun c5 => ?_)
      refine z_aln (pc := 8) hC 1 rfl dX3_findOn_8 ?_
      refine z_get (pc := 9) hC fX3_28 1 rfl rfl dX3_findOn_9 ?_
      refine z_iln (pc := 12) hC 0 rfl dX3_findOn_12 ?_
      refine z_iald (pc := 13) hC 8 rfl dX3_findOn_13 m rfl (by omega) (by decide) ?_
      refine z_iln (pc := 14) hC 2 rfl dX3_findOn_14 ?_
      refine z_icne (pc := 15) hC 20 (by decide) dX3_findOn_15 (fun c15 => ?_) (fun c15 => ?_)
      · refine z_iinc (pc := 20) (v := nI (m + 1)) (j := 0) (lv' := [(2, .int (nI (m + 1))), (0, .ref (a 1)), (1, .int x)]) hC hm (by decide) rfl (up_step m) rfl dX3_findOn_20 ?_
        refine z_goto (pc := 23) hC 2 (by decide) dX3_findOn_23 ?_
        refine z_lv [0, 1, 2] rfl ?_
        exact ih (m + 1) (by omega) (all_s hp (by simp [c15]))
      · refine z_iln (pc := 18) hC 0 rfl dX3_findOn_18 ?_
        exact hE _ _ _ () _ _ _ dX3_findOn_19 rfl (fst_hit hp (by simp [c15]) (by omega)).symm rfl (Nat.le_refl _) (Nat.le_refl _)
  refine z_iconst (pc := 0) (v := nI 0) hC dX3_findOn_0 (by decide) ?_
  refine z_isn (pc := 1) (lv' := [(2, .int (nI 0)), (0, .ref (a 1)), (1, .int x)]) hC hm (by decide) rfl dX3_findOn_1 ?_
  refine z_lv [0, 1, 2] rfl ?_
  exact loop 12 0 rfl (fun j h => absurd h (Nat.not_lt_zero j))

set_option maxRecDepth 100000 in
set_option maxHeartbeats 4000000 in
theorem c_findOnShelf {g : zG} {a : Nat → Nat} {R : St} {x : Int32} : Gi g yX3_findOnShelf cX3_findOnShelf 3 .int 0 [.ref (a 1), .int x] (rW g.2 a R) (sFind R x) (rW g.2 a R) := by
  refine fi_entry (by decide) (Nat.le_of_ble_eq_true rfl) (fun C hC hm hE => ?_)
  have loop : ∀ k m : Nat, m + k = 12 → (∀ j, j < m → (fun r => onSh R r && decide (R 1 r = x)) j = false) → Z g C 0 0 (rW g.2 a R) [(2, .int (nI m)), (0, .ref (a 1)), (1, .int x)] 2 [] := by
    intro k
    induction k with
    | zero =>
      intro m hm2 hp
      refine z_iln (pc := 2) hC 0 rfl dX3_findOnShelf_2 ?_
      refine z_bipush (pc := 3) (v := nI 12) hC dX3_findOnShelf_3 (by decide) ?_
      refine z_icge (pc := 5) hC 36 (by decide) dX3_findOnShelf_5 (fun c5 => ?_) (fun c5 => absurd (nI_le (by omega) (by omega)) c5)
      refine z_iconst (pc := 36) (v := -1) hC dX3_findOnShelf_36 (by decide) ?_
      exact hE _ _ _ () _ _ _ dX3_findOnShelf_37 rfl (fst_miss (by rw [show (12 : Nat) = m by omega]; exact hp)).symm rfl (Nat.le_refl _) (Nat.le_refl _)
    | succ k ih =>
      intro m hm2 hp
      refine z_iln (pc := 2) hC 0 rfl dX3_findOnShelf_2 ?_
      refine z_bipush (pc := 3) (v := nI 12) hC dX3_findOnShelf_3 (by decide) ?_
      refine z_icge (pc := 5) hC 36 (by decide) dX3_findOnShelf_5 (fun c5 => absurd c5 (nI_ge (by omega) (by omega))) (fun c5 => ?_)
      refine z_aln (pc := 8) hC 1 rfl dX3_findOnShelf_8 ?_
      refine z_get (pc := 9) hC fX3_28 1 rfl rfl dX3_findOnShelf_9 ?_
      refine z_iln (pc := 12) hC 0 rfl dX3_findOnShelf_12 ?_
      refine z_iald (pc := 13) hC 8 rfl dX3_findOnShelf_13 m rfl (by omega) (by decide) ?_
      refine z_iconst (pc := 14) (v := -1) hC dX3_findOnShelf_14 (by decide) ?_
      refine z_icne (pc := 15) hC 30 (by decide) dX3_findOnShelf_15 (fun c15 => ?_) (fun c15 => ?_)
      · refine z_iinc (pc := 30) (v := nI (m + 1)) (j := 0) (lv' := [(2, .int (nI (m + 1))), (0, .ref (a 1)), (1, .int x)]) hC hm (by decide) rfl (up_step m) rfl dX3_findOnShelf_30 ?_
        refine z_goto (pc := 33) hC 2 (by decide) dX3_findOnShelf_33 ?_
        refine z_lv [0, 1, 2] rfl ?_
        exact ih (m + 1) (by omega) (all_s hp (by first | (simp [onSh, c15]; done) | (simp [c25]; done)))
      · refine z_aln (pc := 18) hC 1 rfl dX3_findOnShelf_18 ?_
        refine z_get (pc := 19) hC fX3_15 1 rfl rfl dX3_findOnShelf_19 ?_
        refine z_iln (pc := 22) hC 0 rfl dX3_findOnShelf_22 ?_
        refine z_iald (pc := 23) hC 4 rfl dX3_findOnShelf_23 m rfl (by omega) (by decide) ?_
        refine z_iln (pc := 24) hC 2 rfl dX3_findOnShelf_24 ?_
        refine z_icne (pc := 25) hC 30 (by decide) dX3_findOnShelf_25 (fun c25 => ?_) (fun c25 => ?_)
        · refine z_iinc (pc := 30) (v := nI (m + 1)) (j := 0) (lv' := [(2, .int (nI (m + 1))), (0, .ref (a 1)), (1, .int x)]) hC hm (by decide) rfl (up_step m) rfl dX3_findOnShelf_30 ?_
          refine z_goto (pc := 33) hC 2 (by decide) dX3_findOnShelf_33 ?_
          refine z_lv [0, 1, 2] rfl ?_
          exact ih (m + 1) (by omega) (all_s hp (by first | (simp [onSh, c15]; done) | (simp [c25]; done)))
        · refine z_iln (pc := 28) hC 0 rfl dX3_findOnShelf_28 ?_
          exact hE _ _ _ () _ _ _ dX3_findOnShelf_29 rfl (fst_hit hp (by simp [onSh, c15, c25]) (by omega)).symm rfl (Nat.le_refl _) (Nat.le_refl _)
  refine z_iconst (pc := 0) (v := nI 0) hC dX3_findOnShelf_0 (by decide) ?_
  refine z_isn (pc := 1) (lv' := [(2, .int (nI 0)), (0, .ref (a 1)), (1, .int x)]) hC hm (by decide) rfl dX3_findOnShelf_1 ?_
  refine z_lv [0, 1, 2] rfl ?_
  exact loop 12 0 rfl (fun j h => absurd h (Nat.not_lt_zero j))

set_option maxRecDepth 100000 in
set_option maxHeartbeats 4000000 in
theorem c_findEmptyDrive {g : zG} {a : Nat → Nat} {R : St} (hD : DI R) : Gi g yX3_findEmptyDrive cX3_findEmptyDrive 2 .int 1 [.ref (a 1)] (rW g.2 a R) (edr R) (rW g.2 a R) := by
  refine fi_entry (by decide) (Nat.le_of_ble_eq_true rfl) (fun C hC hm hE => ?_)
  have loop : ∀ k m : Nat, m + k = 3 → (∀ j, j < m → (fun d => decide (onDr R (nI d) = -1)) j = false) → Z g C 0 0 (rW g.2 a R) [(1, .int (nI m)), (0, .ref (a 1))] 2 [] := by
    intro k
    induction k with
    | zero =>
      intro m hm2 hp
      refine z_iln (pc := 2) hC 0 rfl dX3_findEmptyDrive_2 ?_
      refine z_iconst (pc := 3) (v := nI 3) hC dX3_findEmptyDrive_3 (by decide) ?_
      refine z_icge (pc := 4) hC 24 (by decide) dX3_findEmptyDrive_4 (fun c4 => ?_) (fun c4 => absurd (nI_le (by omega) (by omega)) c4)
      refine z_iconst (pc := 24) (v := -1) hC dX3_findEmptyDrive_24 (by decide) ?_
      exact hE _ _ _ () _ _ _ dX3_findEmptyDrive_25 rfl (fst_miss (by rw [show (3 : Nat) = m by omega]; exact hp)).symm rfl (Nat.le_refl _) (Nat.le_refl _)
    | succ k ih =>
      intro m hm2 hp
      refine z_iln (pc := 2) hC 0 rfl dX3_findEmptyDrive_2 ?_
      refine z_iconst (pc := 3) (v := nI 3) hC dX3_findEmptyDrive_3 (by decide) ?_
      refine z_icge (pc := 4) hC 24 (by decide) dX3_findEmptyDrive_4 (fun c4 => absurd c4 (nI_ge (by omega) (by omega))) (fun c4 => ?_)
      refine z_aln (pc := 7) hC 1 rfl dX3_findEmptyDrive_7 ?_
      refine z_iln (pc := 8) hC 0 rfl dX3_findEmptyDrive_8 ?_
      refine z_g (pc := 9) (rest := []) hC vX3_findOn lX3_41 dX3_findEmptyDrive_9 (c_findOn (x := nI m)) (fun w => w) isCtx_id rfl 1 3 rfl rfl rfl rfl rfl (by decide) (Nat.le_of_ble_eq_true rfl) ⟨Nat.le_refl _, Nat.le_refl _⟩ ?_
      refine z_is_ (y := onDr R (nI m)) (fst_lst hD (nI_ne (by omega))) ?_
      refine z_iconst (pc := 12) (v := -1) hC dX3_findEmptyDrive_12 (by decide) ?_
      refine z_icne (pc := 13) hC 18 (by decide) dX3_findEmptyDrive_13 (fun c13 => ?_) (fun c13 => ?_)
      · refine z_iinc (pc := 18) (v := nI (m + 1)) (j := 0) (lv' := [(1, .int (nI (m + 1))), (0, .ref (a 1))]) hC hm (by decide) rfl (up_step m) rfl dX3_findEmptyDrive_18 ?_
        refine z_goto (pc := 21) hC 2 (by decide) dX3_findEmptyDrive_21 ?_
        refine z_lv [0, 1] rfl ?_
        exact ih (m + 1) (by omega) (all_s hp (by simp [c13]))
      · refine z_iln (pc := 16) hC 0 rfl dX3_findEmptyDrive_16 ?_
        exact hE _ _ _ () _ _ _ dX3_findEmptyDrive_17 rfl (fst_hit hp (by simp [c13]) (by omega)).symm rfl (Nat.le_refl _) (Nat.le_refl _)
  refine z_iconst (pc := 0) (v := nI 0) hC dX3_findEmptyDrive_0 (by decide) ?_
  refine z_isn (pc := 1) (lv' := [(1, .int (nI 0)), (0, .ref (a 1))]) hC hm (by decide) rfl dX3_findEmptyDrive_1 ?_
  refine z_lv [0, 1] rfl ?_
  exact loop 3 0 rfl (fun j h => absurd h (Nat.not_lt_zero j))

set_option maxRecDepth 100000 in
set_option maxHeartbeats 4000000 in
theorem c_findNextOnShelf {g : zG} {a : Nat → Nat} {R : St} {x : Int32} : Gi g yX3_findNextOnShelf cX3_findNextOnShelf 4 .int 0 [.ref (a 1), .int x] (rW g.2 a R) (aft R x) (rW g.2 a R) := by
  refine fi_entry (by decide) (Nat.le_of_ble_eq_true rfl) (fun C hC hm hE => ?_)
  have loop : ∀ k m : Nat, m + k = 12 → (∀ j, j < m → (fun q => onSh R q && decide (x < nI q)) j = false) → Z g C 0 0 (rW g.2 a R) [(3, .int (nI m)), (2, .int (fst_ (onSh R) 0 m)), (0, .ref (a 1)), (1, .int x)] 4 [] := by
    intro k
    induction k with
    | zero =>
      intro m hm2 hp
      refine z_iln (pc := 4) hC 0 rfl dX3_findNextOnShelf_4 ?_
      refine z_bipush (pc := 5) (v := nI 12) hC dX3_findNextOnShelf_5 (by decide) ?_
      refine z_icge (pc := 7) hC 40 (by decide) dX3_findNextOnShelf_7 (fun c7 => ?_) (fun c7 => absurd (nI_le (by omega) (by omega)) c7)
      refine z_iln (pc := 40) hC 1 rfl dX3_findNextOnShelf_40 ?_
      exact hE _ _ _ () _ _ _ dX3_findNextOnShelf_41 rfl (by have e := fst_miss hp; rw [show m = 12 by omega] at *; simp [aft, e]) rfl (Nat.le_refl _) (Nat.le_refl _)
    | succ k ih =>
      intro m hm2 hp
      refine z_iln (pc := 4) hC 0 rfl dX3_findNextOnShelf_4 ?_
      refine z_bipush (pc := 5) (v := nI 12) hC dX3_findNextOnShelf_5 (by decide) ?_
      refine z_icge (pc := 7) hC 40 (by decide) dX3_findNextOnShelf_7 (fun c7 => absurd c7 (nI_ge (by omega) (by omega))) (fun c7 => ?_)
      refine z_aln (pc := 10) hC 2 rfl dX3_findNextOnShelf_10 ?_
      refine z_get (pc := 11) hC fX3_28 1 rfl rfl dX3_findNextOnShelf_11 ?_
      refine z_iln (pc := 14) hC 0 rfl dX3_findNextOnShelf_14 ?_
      refine z_iald (pc := 15) hC 8 rfl dX3_findNextOnShelf_15 m rfl (by omega) (by decide) ?_
      refine z_iconst (pc := 16) (v := -1) hC dX3_findNextOnShelf_16 (by decide) ?_
      refine z_icne (pc := 17) hC 34 (by decide) dX3_findNextOnShelf_17 (fun c17 => ?_) (fun c17 => ?_)
      · refine z_iinc (pc := 34) (v := nI (m + 1)) (j := 0) (lv' := [(3, .int (nI (m + 1))), (2, .int (fst_ (onSh R) 0 m)), (0, .ref (a 1)), (1, .int x)]) hC hm (by decide) rfl (up_step m) rfl dX3_findNextOnShelf_34 ?_
        refine z_goto (pc := 37) hC 4 (by decide) dX3_findNextOnShelf_37 ?_
        rw [show fst_ (onSh R) 0 m = fst_ (onSh R) 0 (m + 1) by rw [fst_ext _ _ _ (by omega)]; simp [onSh, c17]]
        refine z_lv [0, 1, 2, 3] rfl ?_
        exact ih (m + 1) (by omega) (all_s hp (by first | (simp [onSh, c17]; done) | (simp [Int32.not_lt.mpr c22]; done)))
      · refine z_iln (pc := 20) hC 0 rfl dX3_findNextOnShelf_20 ?_
        refine z_iln (pc := 21) hC 3 rfl dX3_findNextOnShelf_21 ?_
        refine z_icle (pc := 22) hC 27 (by decide) dX3_findNextOnShelf_22 (fun c22 => ?_) (fun c22 => ?_)
        · refine z_iln (pc := 27) hC 1 rfl dX3_findNextOnShelf_27 ?_
          refine z_iconst (pc := 28) (v := -1) hC dX3_findNextOnShelf_28 (by decide) ?_
          refine z_icne (pc := 29) hC 34 (by decide) dX3_findNextOnShelf_29 (fun c29 => ?_) (fun c29 => ?_)
          · refine z_iinc (pc := 34) (v := nI (m + 1)) (j := 0) (lv' := [(3, .int (nI (m + 1))), (2, .int (fst_ (onSh R) 0 m)), (0, .ref (a 1)), (1, .int x)]) hC hm (by decide) rfl (up_step m) rfl dX3_findNextOnShelf_34 ?_
            refine z_goto (pc := 37) hC 4 (by decide) dX3_findNextOnShelf_37 ?_
            rw [show fst_ (onSh R) 0 m = fst_ (onSh R) 0 (m + 1) by rw [fst_ext _ _ _ (by omega), if_neg c29]]
            refine z_lv [0, 1, 2, 3] rfl ?_
            exact ih (m + 1) (by omega) (all_s hp (by first | (simp [onSh, c17]; done) | (simp [Int32.not_lt.mpr c22]; done)))
          · refine z_iln (pc := 32) hC 0 rfl dX3_findNextOnShelf_32 ?_
            refine z_is_ (y := fst_ (onSh R) 0 (m + 1)) (by rw [fst_ext _ _ _ (by omega), if_pos c29, if_pos (by simp [onSh, c17]), Nat.zero_add]) ?_
            refine z_isn (pc := 33) (lv' := [(2, .int (fst_ (onSh R) 0 (m + 1))), (3, .int (nI m)), (0, .ref (a 1)), (1, .int x)]) hC hm (by decide) rfl dX3_findNextOnShelf_33 ?_
            refine z_iinc (pc := 34) (v := nI (m + 1)) (j := 1) (lv' := [(3, .int (nI (m + 1))), (2, .int (fst_ (onSh R) 0 (m + 1))), (0, .ref (a 1)), (1, .int x)]) hC hm (by decide) rfl (up_step m) rfl dX3_findNextOnShelf_34 ?_
            refine z_goto (pc := 37) hC 4 (by decide) dX3_findNextOnShelf_37 ?_
            refine z_lv [0, 1, 2, 3] rfl ?_
            exact ih (m + 1) (by omega) (all_s hp (by first | (simp [onSh, c17]; done) | (simp [Int32.not_lt.mpr c22]; done)))
        · refine z_iln (pc := 25) hC 0 rfl dX3_findNextOnShelf_25 ?_
          exact hE _ _ _ () _ _ _ dX3_findNextOnShelf_26 rfl (by have e := fst_hit hp (by simp [onSh, c17, Int32.not_le.mp c22]) (show m < 12 by omega); simp only [aft, e]; rw [if_neg (nI_ne (by omega))]) rfl (Nat.le_refl _) (Nat.le_refl _)
  refine z_iconst (pc := 0) (v := -1) hC dX3_findNextOnShelf_0 (by decide) ?_
  refine z_isn (pc := 1) (lv' := [(2, .int (-1)), (0, .ref (a 1)), (1, .int x)]) hC hm (by decide) rfl dX3_findNextOnShelf_1 ?_
  refine z_iconst (pc := 2) (v := nI 0) hC dX3_findNextOnShelf_2 (by decide) ?_
  refine z_isn (pc := 3) (lv' := [(3, .int (nI 0)), (2, .int (-1)), (0, .ref (a 1)), (1, .int x)]) hC hm (by decide) rfl dX3_findNextOnShelf_3 ?_
  refine z_lv [0, 1, 2, 3] rfl ?_
  exact loop 12 0 rfl (fun j h => absurd h (Nat.not_lt_zero j))

set_option maxRecDepth 100000 in
set_option maxHeartbeats 4000000 in
theorem c_has {g : zG} {a : Nat → Nat} {R : St} {x : Int32} : Gi g yX2_has cX2_has 2 .boolean 1 [.ref (a 2), .int x] (rW g.2 a R) (bI (isJob R x)) (rW g.2 a R) := by
  refine fi_entry (by decide) (Nat.le_of_ble_eq_true rfl) (fun C hC hm hE => ?_)
  refine z_iln (pc := 0) hC 1 rfl dX2_has_0 ?_
  refine z_iconst (pc := 1) (v := 0) hC dX2_has_1 (by decide) ?_
  refine z_aln (pc := 2) hC 0 rfl dX2_has_2 ?_
  refine z_get (pc := 3) hC fX2_36 2 rfl rfl dX2_has_3 ?_
  refine z_iconst (pc := 6) (v := 1) hC dX2_has_6 (by decide) ?_
  refine z_isub (pc := 7) (v := (R 14 10) - 1) hC rfl dX2_has_7 ?_
  refine z_gsN (pc := 8) (rest := []) hC sX5_isWithin nX2_46 dX2_has_8 (c_within (x := x) (y := 0) (z := R 14 10 - 1)) rfl rfl (by decide) (Nat.le_of_ble_eq_true rfl) ⟨Nat.le_refl _, Nat.le_refl _⟩ ?_
  exact hE _ _ _ () _ _ _ dX2_has_11 (bI_nar _) rfl rfl (Nat.le_refl _) (Nat.le_refl _)

set_option maxRecDepth 100000 in
set_option maxHeartbeats 4000000 in
theorem c_isFull {g : zG} {a : Nat → Nat} {R : St} {n : Nat} (hn : R 14 10 = nI n) (hn2 : n ≤ 12) : Gi g yX2_isFull cX2_isFull 1 .boolean 0 [.ref (a 2)] (rW g.2 a R) (bI (decide (12 ≤ n))) (rW g.2 a R) := by
  refine fi_entry (by decide) (Nat.le_of_ble_eq_true rfl) (fun C hC hm hE => ?_)
  refine z_aln (pc := 0) hC 0 rfl dX2_isFull_0 ?_
  refine z_get (pc := 1) hC fX2_36 2 rfl rfl dX2_isFull_1 ?_
  refine z_bipush (pc := 4) (v := nI 12) hC dX2_isFull_4 (by decide) ?_
  refine z_iclt (pc := 6) hC 13 (by decide) dX2_isFull_6 (fun c6 => ?_) (fun c6 => ?_)
  · have c6n : nI n < nI 12 := by rw [← hn]; exact c6
    refine z_iconst (pc := 13) (v := 0) hC dX2_isFull_13 (by decide) ?_
    exact hE _ _ _ () _ _ _ dX2_isFull_14 rfl (bI_f (by simp; exact (nI_ltI (by omega) (by omega)).mp c6n)) rfl (Nat.le_refl _) (Nat.le_refl _)
  · have c6n : nI 12 ≤ nI n := by rw [← hn]; exact Int32.not_lt.mp c6
    refine z_iconst (pc := 9) (v := 1) hC dX2_isFull_9 (by decide) ?_
    refine z_goto (pc := 10) hC 14 (by decide) dX2_isFull_10 ?_
    exact hE _ _ _ () _ _ _ dX2_isFull_14 rfl (bI_t (by simp; exact (nI_leI (by omega) (by omega)).mp c6n)) rfl (Nat.le_refl _) (Nat.le_refl _)

set_option maxRecDepth 100000 in
set_option maxHeartbeats 4000000 in
theorem c_countIn {g : zG} {a : Nat → Nat} {R : St} {n : Nat} (hn : R 14 10 = nI n) (hn2 : n ≤ 12) {x : Int32} : Gi g yX2_countIn cX2_countIn 4 .int 0 [.ref (a 2), .int x] (rW g.2 a R) (cntS R x 0 n 0) (rW g.2 a R) := by
  refine fi_entry (by decide) (Nat.le_of_ble_eq_true rfl) (fun C hC hm hE => ?_)
  have loop : ∀ (k m : Nat) (y : Int32), m + k = n → cntS R x m k y = cntS R x 0 n 0 → Z g C 0 0 (rW g.2 a R) [(3, .int (nI m)), (2, .int y), (0, .ref (a 2)), (1, .int x)] 4 [] := by
    intro k
    induction k with
    | zero =>
      intro m y hm2 hp
      refine z_iln (pc := 4) hC 0 rfl dX2_countIn_4 ?_
      refine z_aln (pc := 5) hC 2 rfl dX2_countIn_5 ?_
      refine z_get (pc := 6) hC fX2_36 2 rfl rfl dX2_countIn_6 ?_
      refine z_is_ (y := nI n) hn ?_
      refine z_icge (pc := 9) hC 31 (by decide) dX2_countIn_9 (fun c9 => ?_) (fun c9 => absurd (nI_le (by omega) (by omega)) c9)
      refine z_iln (pc := 31) hC 1 rfl dX2_countIn_31 ?_
      exact hE _ _ _ () _ _ _ dX2_countIn_32 rfl hp rfl (Nat.le_refl _) (Nat.le_refl _)
    | succ k ih =>
      intro m y hm2 hp
      refine z_iln (pc := 4) hC 0 rfl dX2_countIn_4 ?_
      refine z_aln (pc := 5) hC 2 rfl dX2_countIn_5 ?_
      refine z_get (pc := 6) hC fX2_36 2 rfl rfl dX2_countIn_6 ?_
      refine z_is_ (y := nI n) hn ?_
      refine z_icge (pc := 9) hC 31 (by decide) dX2_countIn_9 (fun c9 => absurd c9 (nI_ge (by omega) (by omega))) (fun c9 => ?_)
      refine z_aln (pc := 12) hC 2 rfl dX2_countIn_12 ?_
      refine z_get (pc := 13) hC fX2_24 2 rfl rfl dX2_countIn_13 ?_
      refine z_iln (pc := 16) hC 0 rfl dX2_countIn_16 ?_
      refine z_iald (pc := 17) hC 13 rfl dX2_countIn_17 m rfl (by omega) (by decide) ?_
      refine z_iln (pc := 18) hC 3 rfl dX2_countIn_18 ?_
      refine z_icne (pc := 19) hC 25 (by decide) dX2_countIn_19 (fun c19 => ?_) (fun c19 => ?_)
      · refine z_iinc (pc := 25) (v := nI (m + 1)) (j := 0) (lv' := [(3, .int (nI (m + 1))), (2, .int y), (0, .ref (a 2)), (1, .int x)]) hC hm (by decide) rfl (up_step m) rfl dX2_countIn_25 ?_
        refine z_goto (pc := 28) hC 4 (by decide) dX2_countIn_28 ?_
        refine z_lv [0, 1, 2, 3] rfl ?_
        exact ih (m + 1) _ (by omega) (by rw [← hp]; simp [cntS, c19])
      · refine z_iinc (pc := 22) (v := y + 1) (j := 1) (lv' := [(2, .int (y + 1)), (3, .int (nI m)), (0, .ref (a 2)), (1, .int x)]) hC hm (by decide) rfl (by rw [ofInt_1]) rfl dX2_countIn_22 ?_
        refine z_iinc (pc := 25) (v := nI (m + 1)) (j := 1) (lv' := [(3, .int (nI (m + 1))), (2, .int (y + 1)), (0, .ref (a 2)), (1, .int x)]) hC hm (by decide) rfl (up_step m) rfl dX2_countIn_25 ?_
        refine z_goto (pc := 28) hC 4 (by decide) dX2_countIn_28 ?_
        refine z_lv [0, 1, 2, 3] rfl ?_
        exact ih (m + 1) _ (by omega) (by rw [← hp]; simp [cntS, c19])
  refine z_iconst (pc := 0) (v := 0) hC dX2_countIn_0 (by decide) ?_
  refine z_isn (pc := 1) (lv' := [(2, .int 0), (0, .ref (a 2)), (1, .int x)]) hC hm (by decide) rfl dX2_countIn_1 ?_
  refine z_iconst (pc := 2) (v := nI 0) hC dX2_countIn_2 (by decide) ?_
  refine z_isn (pc := 3) (lv' := [(3, .int (nI 0)), (2, .int 0), (0, .ref (a 2)), (1, .int x)]) hC hm (by decide) rfl dX2_countIn_3 ?_
  refine z_lv [0, 1, 2, 3] rfl ?_
  exact loop n 0 0 (by omega) rfl

set_option maxRecDepth 100000 in
set_option maxHeartbeats 4000000 in
theorem c_wantedSticker {g : zG} {a : Nat → Nat} {R : St} {j : Nat} (hj : j < 12) : Gi g yX2_wantedSticker cX2_wantedSticker 2 .int 0 [.ref (a 2), .int (nI j)] (rW g.2 a R) (want R j) (rW g.2 a R) := by
  refine fi_entry (by decide) (Nat.le_of_ble_eq_true rfl) (fun C hC hm hE => ?_)
  refine z_aln (pc := 0) hC 0 rfl dX2_wantedSticker_0 ?_
  refine z_get (pc := 1) hC fX2_9 2 rfl rfl dX2_wantedSticker_1 ?_
  refine z_iln (pc := 4) hC 1 rfl dX2_wantedSticker_4 ?_
  refine z_iald (pc := 5) hC 9 rfl dX2_wantedSticker_5 j rfl (by omega) (by decide) ?_
  refine z_iconst (pc := 6) (v := 2) hC dX2_wantedSticker_6 (by decide) ?_
  refine z_icne (pc := 7) hC 14 (by decide) dX2_wantedSticker_7 (fun c7 => ?_) (fun c7 => ?_)
  · refine z_aln (pc := 14) hC 0 rfl dX2_wantedSticker_14 ?_
    refine z_get (pc := 15) hC fX2_15 2 rfl rfl dX2_wantedSticker_15 ?_
    refine z_iln (pc := 18) hC 1 rfl dX2_wantedSticker_18 ?_
    refine z_iald (pc := 19) hC 10 rfl dX2_wantedSticker_19 j rfl (by omega) (by decide) ?_
    exact hE _ _ _ () _ _ _ dX2_wantedSticker_20 rfl (by simp [want, c7]) rfl (Nat.le_refl _) (Nat.le_refl _)
  · refine z_iconst (pc := 10) (v := 0) hC dX2_wantedSticker_10 (by decide) ?_
    refine z_goto (pc := 11) hC 20 (by decide) dX2_wantedSticker_11 ?_
    exact hE _ _ _ () _ _ _ dX2_wantedSticker_20 rfl (by simp [want, c7]) rfl (Nat.le_refl _) (Nat.le_refl _)

set_option maxRecDepth 100000 in
set_option maxHeartbeats 4000000 in
theorem c_hasWaitingCreate {g : zG} {a : Nat → Nat} {R : St} {n : Nat} (hn : R 14 10 = nI n) (hn2 : n ≤ 12) {v : Int32} : Gi g yX2_hasWaitingCreate cX2_hasWaitingCreate 3 .boolean 0 [.ref (a 2), .int v] (rW g.2 a R) (bI (keptB R v n)) (rW g.2 a R) := by
  refine fi_entry (by decide) (Nat.le_of_ble_eq_true rfl) (fun C hC hm hE => ?_)
  have loop : ∀ k m : Nat, m + k = n → (∀ j, j < m → (decide (R 6 j = 2) && (decide (R 7 j = v) && decide (R 10 j = 0))) = false) → Z g C 0 0 (rW g.2 a R) [(2, .int (nI m)), (0, .ref (a 2)), (1, .int v)] 2 [] := by
    intro k
    induction k with
    | zero =>
      intro m hm2 hp
      refine z_iln (pc := 2) hC 0 rfl dX2_hasWaitingCreate_2 ?_
      refine z_aln (pc := 3) hC 1 rfl dX2_hasWaitingCreate_3 ?_
      refine z_get (pc := 4) hC fX2_36 2 rfl rfl dX2_hasWaitingCreate_4 ?_
      refine z_is_ (y := nI n) hn ?_
      refine z_icge (pc := 7) hC 47 (by decide) dX2_hasWaitingCreate_7 (fun c7 => ?_) (fun c7 => absurd (nI_le (by omega) (by omega)) c7)
      refine z_iconst (pc := 47) (v := 0) hC dX2_hasWaitingCreate_47 (by decide) ?_
      exact hE _ _ _ () _ _ _ dX2_hasWaitingCreate_48 rfl (bI_f (keptB_f (by rw [show n = m by omega]; exact hp))) rfl (Nat.le_refl _) (Nat.le_refl _)
    | succ k ih =>
      intro m hm2 hp
      refine z_iln (pc := 2) hC 0 rfl dX2_hasWaitingCreate_2 ?_
      refine z_aln (pc := 3) hC 1 rfl dX2_hasWaitingCreate_3 ?_
      refine z_get (pc := 4) hC fX2_36 2 rfl rfl dX2_hasWaitingCreate_4 ?_
      refine z_is_ (y := nI n) hn ?_
      refine z_icge (pc := 7) hC 47 (by decide) dX2_hasWaitingCreate_7 (fun c7 => absurd c7 (nI_ge (by omega) (by omega))) (fun c7 => ?_)
      refine z_aln (pc := 10) hC 1 rfl dX2_hasWaitingCreate_10 ?_
      refine z_get (pc := 11) hC fX2_24 2 rfl rfl dX2_hasWaitingCreate_11 ?_
      refine z_iln (pc := 14) hC 0 rfl dX2_hasWaitingCreate_14 ?_
      refine z_iald (pc := 15) hC 13 rfl dX2_hasWaitingCreate_15 m rfl (by omega) (by decide) ?_
      refine z_ifne (pc := 16) hC 41 (by decide) dX2_hasWaitingCreate_16 (fun c16 => ?_) (fun c16 => ?_)
      · refine z_iinc (pc := 41) (v := nI (m + 1)) (j := 0) (lv' := [(2, .int (nI (m + 1))), (0, .ref (a 2)), (1, .int v)]) hC hm (by decide) rfl (up_step m) rfl dX2_hasWaitingCreate_41 ?_
        refine z_goto (pc := 44) hC 2 (by decide) dX2_hasWaitingCreate_44 ?_
        refine z_lv [0, 1, 2] rfl ?_
        exact ih (m + 1) (by omega) (all_s (p := fun j => (decide (R 6 j = 2) && (decide (R 7 j = v) && decide (R 10 j = 0)))) hp (by first | (simp [c16]; done) | (simp [c26]; done) | (simp [c36]; done)))
      · refine z_aln (pc := 19) hC 1 rfl dX2_hasWaitingCreate_19 ?_
        refine z_get (pc := 20) hC fX2_9 2 rfl rfl dX2_hasWaitingCreate_20 ?_
        refine z_iln (pc := 23) hC 0 rfl dX2_hasWaitingCreate_23 ?_
        refine z_iald (pc := 24) hC 9 rfl dX2_hasWaitingCreate_24 m rfl (by omega) (by decide) ?_
        refine z_iconst (pc := 25) (v := 2) hC dX2_hasWaitingCreate_25 (by decide) ?_
        refine z_icne (pc := 26) hC 41 (by decide) dX2_hasWaitingCreate_26 (fun c26 => ?_) (fun c26 => ?_)
        · refine z_iinc (pc := 41) (v := nI (m + 1)) (j := 0) (lv' := [(2, .int (nI (m + 1))), (0, .ref (a 2)), (1, .int v)]) hC hm (by decide) rfl (up_step m) rfl dX2_hasWaitingCreate_41 ?_
          refine z_goto (pc := 44) hC 2 (by decide) dX2_hasWaitingCreate_44 ?_
          refine z_lv [0, 1, 2] rfl ?_
          exact ih (m + 1) (by omega) (all_s (p := fun j => (decide (R 6 j = 2) && (decide (R 7 j = v) && decide (R 10 j = 0)))) hp (by first | (simp [c16]; done) | (simp [c26]; done) | (simp [c36]; done)))
        · refine z_aln (pc := 29) hC 1 rfl dX2_hasWaitingCreate_29 ?_
          refine z_get (pc := 30) hC fX2_15 2 rfl rfl dX2_hasWaitingCreate_30 ?_
          refine z_iln (pc := 33) hC 0 rfl dX2_hasWaitingCreate_33 ?_
          refine z_iald (pc := 34) hC 10 rfl dX2_hasWaitingCreate_34 m rfl (by omega) (by decide) ?_
          refine z_iln (pc := 35) hC 2 rfl dX2_hasWaitingCreate_35 ?_
          refine z_icne (pc := 36) hC 41 (by decide) dX2_hasWaitingCreate_36 (fun c36 => ?_) (fun c36 => ?_)
          · refine z_iinc (pc := 41) (v := nI (m + 1)) (j := 0) (lv' := [(2, .int (nI (m + 1))), (0, .ref (a 2)), (1, .int v)]) hC hm (by decide) rfl (up_step m) rfl dX2_hasWaitingCreate_41 ?_
            refine z_goto (pc := 44) hC 2 (by decide) dX2_hasWaitingCreate_44 ?_
            refine z_lv [0, 1, 2] rfl ?_
            exact ih (m + 1) (by omega) (all_s (p := fun j => (decide (R 6 j = 2) && (decide (R 7 j = v) && decide (R 10 j = 0)))) hp (by first | (simp [c16]; done) | (simp [c26]; done) | (simp [c36]; done)))
          · refine z_iconst (pc := 39) (v := 1) hC dX2_hasWaitingCreate_39 (by decide) ?_
            exact hE _ _ _ () _ _ _ dX2_hasWaitingCreate_40 rfl (bI_t (keptB_t (m := m) (by simp [c16, c26, c36]) (by omega))) rfl (Nat.le_refl _) (Nat.le_refl _)
  refine z_iconst (pc := 0) (v := nI 0) hC dX2_hasWaitingCreate_0 (by decide) ?_
  refine z_isn (pc := 1) (lv' := [(2, .int (nI 0)), (0, .ref (a 2)), (1, .int v)]) hC hm (by decide) rfl dX2_hasWaitingCreate_1 ?_
  refine z_lv [0, 1, 2] rfl ?_
  exact loop n 0 (by omega) (fun j h => absurd h (Nat.not_lt_zero j))
end
section
theorem setS_self {R : St} {c j : Nat} {v : Int32} (h : R c j = v) : setS R c j v = R := by
  funext a b
  rw [setS_at]
  by_cases z : a = c ∧ b = j
  · rw [if_pos z, z.1, z.2, h]
  · rw [if_neg z]
theorem isReel_n {r : Nat} (h : r < 12) : isReel (nI r) = true := by
  refine inB_iff.mpr ⟨nI_pos' (by omega), ?_⟩
  exact nI_le (a := r) (b := 11) (by omega) (by omega)
theorem isReel_m : isReel (-1) = false := by decide
/-- the next job, sought upwards -/
def bu (R : St) : Nat → Int32 × Int32
  | 0 => (-1, -1)
  | m + 1 => if R 10 m = 0 ∧ (bu R m).2 < R 9 m ∧ ¬ fnd R m = -1 then (nI m, R 9 m) else bu R m
theorem elig_iff {R : St} {j : Nat} : elig R j = true ↔ R 10 j = 0 ∧ ¬ fnd R j = -1 := by simp [elig]
theorem best_char (R : St) : ∀ (k j : Nat), j + k < 2 ^ 31 → (best R j k = -1 ∧ ∀ i, j ≤ i → i < j + k → ¬ elig R i = true) ∨ ∃ q, j ≤ q ∧ q < j + k ∧ best R j k = nI q ∧ elig R q = true ∧ ∀ i, j ≤ i → i < j + k → elig R i = true → R 9 i ≤ R 9 q ∧ (i < q → R 9 i < R 9 q)
  | 0, j, _ => Or.inl ⟨rfl, fun i h1 h2 => by omega⟩
  | k + 1, j, hk => by
    by_cases he : elig R j = true
    · rcases best_char R k (j + 1) (by omega) with ⟨h1, h2⟩ | ⟨q, h1, h2, h3, h4, h5⟩
      · refine Or.inr ⟨j, Nat.le_refl _, by omega, (best_t he (Or.inl h1)).symm, he, fun i g1 g2 g3 => ?_⟩
        rcases Nat.eq_or_lt_of_le g1 with rfl | g1
        · exact ⟨Int32.le_refl _, fun z => by omega⟩
        · exact absurd g3 (h2 i g1 (by omega))
      · by_cases hc : R 9 q ≤ R 9 j
        · refine Or.inr ⟨j, Nat.le_refl _, by omega, (best_t he (Or.inr (by rw [h3, nI_clamp (by omega)]; exact hc))).symm, he, fun i g1 g2 g3 => ?_⟩
          rcases Nat.eq_or_lt_of_le g1 with rfl | g1
          · exact ⟨Int32.le_refl _, fun z => by omega⟩
          · exact ⟨Int32.le_trans (h5 i g1 (by omega) g3).1 hc, fun z => by omega⟩
        · have hc' := Int32.not_le.mp hc
          refine Or.inr ⟨q, by omega, by omega, (best_g (by rw [h3]; exact nI_ne (by omega)) (by rw [h3, nI_clamp (by omega)]; exact hc')).symm.trans h3, h4, fun i g1 g2 g3 => ?_⟩
          rcases Nat.eq_or_lt_of_le g1 with rfl | g1
          · exact ⟨Int32.le_of_lt hc', fun _ => hc'⟩
          · exact h5 i g1 (by omega) g3
    · have he' : elig R j = false := by simpa using he
      rcases best_char R k (j + 1) (by omega) with ⟨h1, h2⟩ | ⟨q, h1, h2, h3, h4, h5⟩
      · refine Or.inl ⟨(best_f he').symm.trans h1, fun i g1 g2 => ?_⟩
        rcases Nat.eq_or_lt_of_le g1 with rfl | g1
        · exact he
        · exact h2 i g1 (by omega)
      · refine Or.inr ⟨q, by omega, by omega, (best_f he').symm.trans h3, h4, fun i g1 g2 g3 => ?_⟩
        rcases Nat.eq_or_lt_of_le g1 with rfl | g1
        · exact absurd g3 he
        · exact h5 i g1 (by omega) g3
theorem bu_char (R : St) : ∀ m : Nat, (∀ i, i < m → 0 ≤ R 9 i) → (bu R m = (-1, -1) ∧ ∀ i, i < m → ¬ elig R i = true) ∨ ∃ q, q < m ∧ bu R m = (nI q, R 9 q) ∧ elig R q = true ∧ ∀ i, i < m → elig R i = true → R 9 i ≤ R 9 q ∧ (i < q → R 9 i < R 9 q)
  | 0, _ => Or.inl ⟨rfl, fun i h => by omega⟩
  | m + 1, hp => by
    rcases bu_char R m (fun i h => hp i (by omega)) with ⟨h1, h2⟩ | ⟨q, h1, h2, h3, h4⟩
    · by_cases he : elig R m = true
      · obtain ⟨e1, e2⟩ := elig_iff.mp he
        have hlt : (bu R m).2 < R 9 m := by rw [h1]; exact Int32.lt_of_lt_of_le (by decide) (hp m (by omega))
        refine Or.inr ⟨m, by omega, by simp only [bu]; rw [if_pos ⟨e1, hlt, e2⟩], he, fun i g1 g2 => ?_⟩
        rcases Nat.lt_succ_iff_lt_or_eq.mp g1 with g | rfl
        · exact absurd g2 (h2 i g)
        · exact ⟨Int32.le_refl _, fun z => by omega⟩
      · refine Or.inl ⟨?_, fun i g1 => ?_⟩
        · simp only [bu]
          rw [if_neg (fun z => he (elig_iff.mpr ⟨z.1, z.2.2⟩))]
          exact h1
        · rcases Nat.lt_succ_iff_lt_or_eq.mp g1 with g | rfl
          · exact h2 i g
          · exact he
    · by_cases hc : R 10 m = 0 ∧ (bu R m).2 < R 9 m ∧ ¬ fnd R m = -1
      · have hlt : R 9 q < R 9 m := by have := hc.2.1; rw [h2] at this; exact this
        refine Or.inr ⟨m, by omega, by simp only [bu]; rw [if_pos hc], elig_iff.mpr ⟨hc.1, hc.2.2⟩, fun i g1 g2 => ?_⟩
        rcases Nat.lt_succ_iff_lt_or_eq.mp g1 with g | rfl
        · have := Int32.lt_of_le_of_lt (h4 i g g2).1 hlt
          exact ⟨Int32.le_of_lt this, fun _ => this⟩
        · exact ⟨Int32.le_refl _, fun z => by omega⟩
      · refine Or.inr ⟨q, by omega, by simp only [bu]; rw [if_neg hc]; exact h2, h3, fun i g1 g2 => ?_⟩
        rcases Nat.lt_succ_iff_lt_or_eq.mp g1 with g | rfl
        · exact h4 i g g2
        · obtain ⟨e1, e2⟩ := elig_iff.mp g2
          refine ⟨Int32.not_lt.mp (fun z => hc ⟨e1, by rw [h2]; exact z, e2⟩), fun z => by omega⟩
theorem bu_best {R : St} {n : Nat} (hp : ∀ i, i < n → 0 ≤ R 9 i) (hn : n ≤ 12) : (bu R n).1 = nxt R n := by
  rcases bu_char R n hp with ⟨h1, h2⟩ | ⟨q, h1, h2, h3, h4⟩ <;> rcases best_char R n 0 (by omega) with ⟨g1, g2⟩ | ⟨p, -, g1, g2, g3, g4⟩
  · rw [h1]; exact g1.symm
  · exact absurd g3 (h2 p (by omega))
  · exact absurd h3 (g2 q (by omega) (by omega))
  · rw [h2]
    refine Eq.trans ?_ g2.symm
    show nI q = nI p
    rcases Nat.lt_trichotomy q p with z | z | z
    · exact absurd ((g4 q (by omega) (by omega) h3).2 z) (Int32.not_lt.mpr (h4 p (by omega) g3).1)
    · rw [z]
    · exact absurd ((h4 p (by omega) g3).2 z) (Int32.not_lt.mpr (g4 q (by omega) (by omega) h3).1)
theorem bu_t {R : St} {m : Nat} (h1 : R 10 m = 0) (h2 : ¬ R 9 m ≤ (bu R m).2) (h3 : fnd R m = -1 → False) : bu R (m + 1) = (nI m, R 9 m) := by
  simp only [bu]; rw [if_pos ⟨h1, Int32.not_le.mp h2, h3⟩]
theorem bu_f {R : St} {m : Nat} (h : ¬ (R 10 m = 0 ∧ (bu R m).2 < R 9 m ∧ ¬ fnd R m = -1)) : bu R (m + 1) = bu R m := by
  simp only [bu]; rw [if_neg h]
/-- the minutes' number is apart from all else -/
theorem fnd_m {Q : St} {k : Nat} {v : Int32} {j : Nat} : fnd (setS Q 14 k v) j = fnd Q j := rfl
theorem best_m {Q : St} {k : Nat} {v : Int32} : ∀ (n j : Nat), best (setS Q 14 k v) j n = best Q j n
  | 0, _ => rfl
  | n + 1, j => by
    simp only [best, best_m n (j + 1)]
    rfl
theorem blk_m {Q : St} {v : Int32} {j r : Nat} : blk (setS Q 14 1 v) j r = setS (blk Q j r) 14 1 v := by
  unfold blk
  show (if Q 6 j = 0 then _ else if Q 4 r = 99 then _ else _) = _
  split
  · rw [setS_comm Q v _ (Or.inr (by decide)), setS_comm (setS Q 14 5 _) v _ (Or.inl (by decide))]
    rfl
  · split
    · rw [setS_comm Q _ _ (Or.inr (by decide)), setS_comm (setS Q 14 7 _) _ _ (Or.inl (by decide))]
      rfl
    · rw [setS_comm Q v _ (Or.inl (by decide)), setS_comm (setS Q 4 r _) v _ (Or.inr (by decide)), setS_comm (setS (setS Q 4 r _) 14 6 _) v _ (Or.inl (by decide))]
      rfl
theorem toff_m {Q : St} {v s : Int32} {j r : Nat} : toff (setS (setS Q 14 1 v) 10 j s) j r = setS (toff (setS Q 10 j s) j r) 14 1 v := by
  unfold toff
  rw [setS_comm Q v s (Or.inl (by decide)), setS_comm (setS Q 10 j s) v _ (Or.inl (by decide)), setS_comm (setS (setS Q 10 j s) 5 r _) v _ (Or.inl (by decide))]
theorem mnt_m {Q : St} {v d : Int32} {j r : Nat} : mnt (setS Q 14 1 v) j r d = setS (mnt Q j r d) 14 1 v := by
  unfold mnt
  have e : setS (setS (setS (setS Q 14 1 v) 5 r d) 10 j 1) 12 j (nI r) = setS (setS (setS (setS Q 5 r d) 10 j 1) 12 j (nI r)) 14 1 v := by
    rw [setS_comm Q v d (Or.inl (by decide)), setS_comm (setS Q 5 r d) v _ (Or.inl (by decide)), setS_comm (setS (setS Q 5 r d) 10 j 1) v _ (Or.inl (by decide))]
  show (if Q 6 j = 2 then _ else _) = _
  split
  · rw [e]
    generalize setS (setS (setS Q 5 r d) 10 j 1) 12 j (nI r) = X
    rw [setS_comm X v _ (Or.inl (by decide)), setS_comm (setS X 0 r _) v _ (Or.inl (by decide)), setS_comm (setS (setS X 0 r _) 1 r _) v _ (Or.inl (by decide)), setS_comm (setS (setS (setS X 0 r _) 1 r _) 3 r _) v _ (Or.inl (by decide))]
    rfl
  · exact e
theorem sbk_m {Q : St} {v : Int32} {j r : Nat} : sbk (setS Q 14 1 v) j r = setS (sbk Q j r) 14 1 v := by
  unfold sbk
  rw [setS_comm Q v _ (Or.inl (by decide)), setS_comm (setS Q 1 r _) v _ (Or.inl (by decide)), setS_comm (setS (setS Q 1 r _) 13 j _) v _ (Or.inr (by decide))]
  rfl
theorem srv2_m {Q : St} {v d : Int32} {j r : Nat} : srv2 (setS Q 14 1 v) j r d = setS (srv2 Q j r d) 14 1 v := by
  unfold srv2
  show (if chk Q j r = 0 then _ else _) = _
  split
  · exact mnt_m
  · exact sbk_m
theorem srv_m {Q : St} {v d : Int32} {j : Nat} : srv (setS Q 14 1 v) j d = setS (srv Q j d) 14 1 v := by
  unfold srv
  show (if slp Q (Q 14 2 + 1) = true then srv2 (setS (setS (setS Q 14 1 v) 14 2 (Q 14 2 + 1)) 14 3 (Q 14 3 + 1)) j (aft Q (fnd Q j)).toNatClampNeg d else srv2 (setS (setS (setS Q 14 1 v) 14 2 (Q 14 2 + 1)) 2 (fnd Q j).toNatClampNeg (if Q 6 j = 0 then 0 else 1)) j (fnd Q j).toNatClampNeg d) = _
  split
  · rw [setS_comm Q v _ (Or.inr (by decide)), setS_comm (setS Q 14 2 _) v _ (Or.inr (by decide))]
    exact srv2_m
  · rw [setS_comm Q v _ (Or.inr (by decide)), setS_comm (setS Q 14 2 _) v _ (Or.inl (by decide))]
    exact srv2_m
theorem blk_1 {Q : St} {j r : Nat} : blk Q j r 14 1 = Q 14 1 := by
  unfold blk
  split
  · rfl
  · split <;> rfl
theorem stp_141 {Q : St} {j : Nat} : (stp Q j).1 14 1 = Q 14 1 := by
  unfold stp
  split
  · split
    · exact blk_1
    · exact blk_1
  · rfl
theorem jl_141 : ∀ (k j : Nat) (s : St × Int32), (jl j k s).1 14 1 = s.1 14 1
  | 0, _, _ => rfl
  | k + 1, j, s => by
    simp only [jl]
    rw [jl_141 k (j + 1)]
    exact stp_141
theorem srv2_141 {Q : St} {j r : Nat} {d : Int32} : srv2 Q j r d 14 1 = Q 14 1 := by
  unfold srv2
  split
  · unfold mnt
    split <;> rfl
  · rfl
theorem sstep_141 {Q : St} {n : Nat} : sstep Q n 14 1 = Q 14 1 := by
  unfold sstep
  split
  · unfold srv
    split <;> exact srv2_141
  · rfl
theorem minu_1 {R : St} {n : Nat} : (minu R n).1 = setS (sstep (jl 0 n (R, 0)).1 n) 14 1 (R 14 1 + 1) := by
  show setS (sstep (jl 0 n (R, 0)).1 n) 14 1 (sstep (jl 0 n (R, 0)).1 n 14 1 + 1) = _
  rw [sstep_141, jl_141]

set_option maxRecDepth 100000 in
set_option maxHeartbeats 4000000 in
theorem c_isSlip {g : zG} {a : Nat → Nat} {R : St} {x : Int32} : Gi g yX4_isSlip cX4_isSlip 2 .boolean 0 [.ref (a 0), .int x] (rW g.2 a R) (bI (slp R x)) (rW g.2 a R) := by
  refine fi_entry (by decide) (Nat.le_of_ble_eq_true rfl) (fun C hC hm hE => ?_)
  refine z_aln (pc := 0) hC 0 rfl dX4_isSlip_0 ?_
  refine z_get (pc := 1) hC fX4_29 0 rfl rfl dX4_isSlip_1 ?_
  refine z_ifeq (pc := 4) hC 20 (by decide) dX4_isSlip_4 (fun c4 => ?_) (fun c4 => ?_)
  · refine z_iconst (pc := 20) (v := 0) hC dX4_isSlip_20 (by decide) ?_
    exact hE _ _ _ () _ _ _ dX4_isSlip_21 rfl (bI_f (by first | (simp [slp, c4]; done) | (simp [slp, c13]; done))) rfl (Nat.le_refl _) (Nat.le_refl _)
  · refine z_iln (pc := 7) hC 1 rfl dX4_isSlip_7 ?_
    refine z_aln (pc := 8) hC 0 rfl dX4_isSlip_8 ?_
    refine z_get (pc := 9) hC fX4_29 0 rfl rfl dX4_isSlip_9 ?_
    refine z_irem (pc := 12) (v := x - x / (R 14 8) * (R 14 8)) hC c4 rfl dX4_isSlip_12 ?_
    refine z_ifne (pc := 13) hC 20 (by decide) dX4_isSlip_13 (fun c13 => ?_) (fun c13 => ?_)
    · refine z_iconst (pc := 20) (v := 0) hC dX4_isSlip_20 (by decide) ?_
      exact hE _ _ _ () _ _ _ dX4_isSlip_21 rfl (bI_f (by first | (simp [slp, c4]; done) | (simp [slp, c13]; done))) rfl (Nat.le_refl _) (Nat.le_refl _)
    · refine z_iconst (pc := 16) (v := 1) hC dX4_isSlip_16 (by decide) ?_
      refine z_goto (pc := 17) hC 21 (by decide) dX4_isSlip_17 ?_
      exact hE _ _ _ () _ _ _ dX4_isSlip_21 rfl (bI_t (by simp [slp, c4, c13])) rfl (Nat.le_refl _) (Nat.le_refl _)

set_option maxRecDepth 100000 in
set_option maxHeartbeats 4000000 in
theorem c_hasNextDay {g : zG} {a : Nat → Nat} {R : St} : Gi g yX4_hasNextDay cX4_hasNextDay 1 .boolean 0 [.ref (a 0)] (rW g.2 a R) (bI (decide (R 14 0 < 999))) (rW g.2 a R) := by
  refine fi_entry (by decide) (Nat.le_of_ble_eq_true rfl) (fun C hC hm hE => ?_)
  refine z_aln (pc := 0) hC 0 rfl dX4_hasNextDay_0 ?_
  refine z_get (pc := 1) hC fX4_25 0 rfl rfl dX4_hasNextDay_1 ?_
  refine z_sipush (pc := 4) (v := 999) hC dX4_hasNextDay_4 (by decide) ?_
  refine z_icge (pc := 7) hC 14 (by decide) dX4_hasNextDay_7 (fun c7 => ?_) (fun c7 => ?_)
  · refine z_iconst (pc := 14) (v := 0) hC dX4_hasNextDay_14 (by decide) ?_
    exact hE _ _ _ () _ _ _ dX4_hasNextDay_15 rfl (bI_f (by simpa using c7)) rfl (Nat.le_refl _) (Nat.le_refl _)
  · refine z_iconst (pc := 10) (v := 1) hC dX4_hasNextDay_10 (by decide) ?_
    refine z_goto (pc := 11) hC 15 (by decide) dX4_hasNextDay_11 ?_
    exact hE _ _ _ () _ _ _ dX4_hasNextDay_15 rfl (bI_t (by simpa using Int32.not_le.mp c7)) rfl (Nat.le_refl _) (Nat.le_refl _)

set_option maxRecDepth 100000 in
set_option maxHeartbeats 4000000 in
theorem c_lacksReel {g : zG} {a : Nat → Nat} {R : St} {j : Nat} (hj : j < 12) : Gi g yX4_lacksReel cX4_lacksReel 2 .boolean 1 [.ref (a 0), .int (nI j)] (rW g.2 a R) (bI (decide (fnd R j = -1))) (rW g.2 a R) := by
  refine fi_entry (by decide) (Nat.le_of_ble_eq_true rfl) (fun C hC hm hE => ?_)
  refine z_aln (pc := 0) hC 0 rfl dX4_lacksReel_0 ?_
  refine z_get (pc := 1) hC fX4_12 0 rfl rfl dX4_lacksReel_1 ?_
  refine z_aln (pc := 4) hC 0 rfl dX4_lacksReel_4 ?_
  refine z_get (pc := 5) hC fX4_21 0 rfl rfl dX4_lacksReel_5 ?_
  refine z_iln (pc := 8) hC 1 rfl dX4_lacksReel_8 ?_
  refine z_g (pc := 9) (rest := [.ref (a 1)]) hC vX2_wantedSticker lX4_121 dX4_lacksReel_9 (c_wantedSticker (j := j) hj) (fun w => w) isCtx_id rfl 2 2 rfl rfl rfl rfl rfl (by decide) (Nat.le_of_ble_eq_true rfl) ⟨Nat.le_refl _, Nat.le_refl _⟩ ?_
  refine z_g (pc := 12) (rest := []) hC vX3_findOnShelf lX4_125 dX4_lacksReel_12 (c_findOnShelf (x := want R j)) (fun w => w) isCtx_id rfl 1 3 rfl rfl rfl rfl rfl (by decide) (Nat.le_of_ble_eq_true rfl) ⟨Nat.le_refl _, Nat.le_refl _⟩ ?_
  refine z_iconst (pc := 15) (v := -1) hC dX4_lacksReel_15 (by decide) ?_
  refine z_icne (pc := 16) hC 23 (by decide) dX4_lacksReel_16 (fun c16 => ?_) (fun c16 => ?_)
  · refine z_iconst (pc := 23) (v := 0) hC dX4_lacksReel_23 (by decide) ?_
    exact hE _ _ _ () _ _ _ dX4_lacksReel_24 rfl (bI_f (decide_eq_false c16)) rfl (Nat.le_refl _) (Nat.le_refl _)
  · refine z_iconst (pc := 19) (v := 1) hC dX4_lacksReel_19 (by decide) ?_
    refine z_goto (pc := 20) hC 24 (by decide) dX4_lacksReel_20 ?_
    exact hE _ _ _ () _ _ _ dX4_lacksReel_24 rfl (bI_t (decide_eq_true c16)) rfl (Nat.le_refl _) (Nat.le_refl _)

set_option maxRecDepth 100000 in
set_option maxHeartbeats 4000000 in
theorem c_findNextJob {g : zG} {a : Nat → Nat} {R : St} {n : Nat} (hn : R 14 10 = nI n) (hn2 : n ≤ 12) (hp : ∀ i, i < n → 0 ≤ R 9 i) : Gi g yX4_findNextJob cX4_findNextJob 4 .int 2 [.ref (a 0)] (rW g.2 a R) (nxt R n) (rW g.2 a R) := by
  refine fi_entry (by decide) (Nat.le_of_ble_eq_true rfl) (fun C hC hm hE => ?_)
  have loop : ∀ k m : Nat, m + k = n → Z g C 0 0 (rW g.2 a R) [(3, .int (nI m)), (2, .int (bu R m).2), (1, .int (bu R m).1), (0, .ref (a 0))] 6 [] := by
    intro k
    induction k with
    | zero =>
      intro m hm2
      refine z_iln (pc := 6) hC 0 rfl dX4_findNextJob_6 ?_
      refine z_aln (pc := 7) hC 3 rfl dX4_findNextJob_7 ?_
      refine z_get (pc := 8) hC fX4_21 0 rfl rfl dX4_findNextJob_8 ?_
      refine z_get (pc := 11) hC fX4_92 2 rfl rfl dX4_findNextJob_11 ?_
      refine z_is_ (y := nI n) hn ?_
      refine z_icge (pc := 14) hC 68 (by decide) dX4_findNextJob_14 (fun c14 => ?_) (fun c14 => absurd (nI_le (by omega) (by omega)) c14)
      refine z_iln (pc := 68) hC 2 rfl dX4_findNextJob_68 ?_
      exact hE _ _ _ () _ _ _ dX4_findNextJob_69 rfl (by rw [show m = n by omega]; exact bu_best hp hn2) rfl (Nat.le_refl _) (Nat.le_refl _)
    | succ k ih =>
      intro m hm2
      refine z_iln (pc := 6) hC 0 rfl dX4_findNextJob_6 ?_
      refine z_aln (pc := 7) hC 3 rfl dX4_findNextJob_7 ?_
      refine z_get (pc := 8) hC fX4_21 0 rfl rfl dX4_findNextJob_8 ?_
      refine z_get (pc := 11) hC fX4_92 2 rfl rfl dX4_findNextJob_11 ?_
      refine z_is_ (y := nI n) hn ?_
      refine z_icge (pc := 14) hC 68 (by decide) dX4_findNextJob_14 (fun c14 => absurd c14 (nI_ge (by omega) (by omega))) (fun c14 => ?_)
      refine z_aln (pc := 17) hC 3 rfl dX4_findNextJob_17 ?_
      refine z_get (pc := 18) hC fX4_21 0 rfl rfl dX4_findNextJob_18 ?_
      refine z_get (pc := 21) hC fX4_85 2 rfl rfl dX4_findNextJob_21 ?_
      refine z_iln (pc := 24) hC 0 rfl dX4_findNextJob_24 ?_
      refine z_iald (pc := 25) hC 13 rfl dX4_findNextJob_25 m rfl (by omega) (by decide) ?_
      refine z_ifne (pc := 26) hC 62 (by decide) dX4_findNextJob_26 (fun c26 => ?_) (fun c26 => ?_)
      · refine z_iinc (pc := 62) (v := nI (m + 1)) (j := 0) (lv' := [(3, .int (nI (m + 1))), (2, .int (bu R m).2), (1, .int (bu R m).1), (0, .ref (a 0))]) hC hm (by decide) rfl (up_step m) rfl dX4_findNextJob_62 ?_
        refine z_goto (pc := 65) hC 6 (by decide) dX4_findNextJob_65 ?_
        have e := bu_f (R := R) (m := m) (by exact fun z => c26 z.1)
        rw [← e]
        refine z_lv [0, 1, 2, 3] rfl ?_
        exact ih (m + 1) (by omega)
      · refine z_aln (pc := 29) hC 3 rfl dX4_findNextJob_29 ?_
        refine z_get (pc := 30) hC fX4_21 0 rfl rfl dX4_findNextJob_30 ?_
        refine z_get (pc := 33) hC fX4_128 2 rfl rfl dX4_findNextJob_33 ?_
        refine z_iln (pc := 36) hC 0 rfl dX4_findNextJob_36 ?_
        refine z_iald (pc := 37) hC 12 rfl dX4_findNextJob_37 m rfl (by omega) (by decide) ?_
        refine z_iln (pc := 38) hC 1 rfl dX4_findNextJob_38 ?_
        refine z_icle (pc := 39) hC 62 (by decide) dX4_findNextJob_39 (fun c39 => ?_) (fun c39 => ?_)
        · refine z_iinc (pc := 62) (v := nI (m + 1)) (j := 0) (lv' := [(3, .int (nI (m + 1))), (2, .int (bu R m).2), (1, .int (bu R m).1), (0, .ref (a 0))]) hC hm (by decide) rfl (up_step m) rfl dX4_findNextJob_62 ?_
          refine z_goto (pc := 65) hC 6 (by decide) dX4_findNextJob_65 ?_
          have e := bu_f (R := R) (m := m) (by exact fun z => Int32.not_lt.mpr c39 z.2.1)
          rw [← e]
          refine z_lv [0, 1, 2, 3] rfl ?_
          exact ih (m + 1) (by omega)
        · refine z_aln (pc := 42) hC 3 rfl dX4_findNextJob_42 ?_
          refine z_iln (pc := 43) hC 0 rfl dX4_findNextJob_43 ?_
          refine z_g (pc := 44) (rest := []) hC vX4_lacksReel lX4_131 dX4_findNextJob_44 (c_lacksReel (j := m) (by omega)) (fun w => w) isCtx_id rfl 0 4 rfl rfl rfl rfl rfl (by decide) (Nat.le_of_ble_eq_true rfl) ⟨Nat.le_refl _, Nat.le_refl _⟩ ?_
          refine z_ifne (pc := 47) hC 62 (by decide) dX4_findNextJob_47 (fun c47 => ?_) (fun c47 => ?_)
          · refine z_iinc (pc := 62) (v := nI (m + 1)) (j := 0) (lv' := [(3, .int (nI (m + 1))), (2, .int (bu R m).2), (1, .int (bu R m).1), (0, .ref (a 0))]) hC hm (by decide) rfl (up_step m) rfl dX4_findNextJob_62 ?_
            refine z_goto (pc := 65) hC 6 (by decide) dX4_findNextJob_65 ?_
            have e := bu_f (R := R) (m := m) (by exact fun z => c47 (by simp [z.2.2, bI]))
            rw [← e]
            refine z_lv [0, 1, 2, 3] rfl ?_
            exact ih (m + 1) (by omega)
          · refine z_iln (pc := 50) hC 0 rfl dX4_findNextJob_50 ?_
            refine z_isn (pc := 51) (lv' := [(1, .int (nI m)), (3, .int (nI m)), (2, .int (bu R m).2), (0, .ref (a 0))]) hC hm (by decide) rfl dX4_findNextJob_51 ?_
            refine z_aln (pc := 52) hC 3 rfl dX4_findNextJob_52 ?_
            refine z_get (pc := 53) hC fX4_21 0 rfl rfl dX4_findNextJob_53 ?_
            refine z_get (pc := 56) hC fX4_128 2 rfl rfl dX4_findNextJob_56 ?_
            refine z_iln (pc := 59) hC 1 rfl dX4_findNextJob_59 ?_
            refine z_iald (pc := 60) hC 12 rfl dX4_findNextJob_60 m rfl (by omega) (by decide) ?_
            refine z_isn (pc := 61) (lv' := [(2, .int (R 9 m)), (1, .int (nI m)), (3, .int (nI m)), (0, .ref (a 0))]) hC hm (by decide) rfl dX4_findNextJob_61 ?_
            refine z_iinc (pc := 62) (v := nI (m + 1)) (j := 2) (lv' := [(3, .int (nI (m + 1))), (2, .int (R 9 m)), (1, .int (nI m)), (0, .ref (a 0))]) hC hm (by decide) rfl (up_step m) rfl dX4_findNextJob_62 ?_
            refine z_goto (pc := 65) hC 6 (by decide) dX4_findNextJob_65 ?_
            have e := bu_t c26 c39 (fun z => by simp [z, bI] at c47)
            rw [show nI m = (bu R (m + 1)).1 by rw [e], show R 9 m = (bu R (m + 1)).2 by rw [e]]
            refine z_lv [0, 1, 2, 3] rfl ?_
            exact ih (m + 1) (by omega)
  refine z_iconst (pc := 0) (v := -1) hC dX4_findNextJob_0 (by decide) ?_
  refine z_isn (pc := 1) (lv' := [(1, .int (-1)), (0, .ref (a 0))]) hC hm (by decide) rfl dX4_findNextJob_1 ?_
  refine z_iconst (pc := 2) (v := -1) hC dX4_findNextJob_2 (by decide) ?_
  refine z_isn (pc := 3) (lv' := [(2, .int (-1)), (1, .int (-1)), (0, .ref (a 0))]) hC hm (by decide) rfl dX4_findNextJob_3 ?_
  refine z_iconst (pc := 4) (v := nI 0) hC dX4_findNextJob_4 (by decide) ?_
  refine z_isn (pc := 5) (lv' := [(3, .int (nI 0)), (2, .int (-1)), (1, .int (-1)), (0, .ref (a 0))]) hC hm (by decide) rfl dX4_findNextJob_5 ?_
  refine z_lv [0, 1, 2, 3] rfl ?_
  exact loop n 0 (by omega)

def chs (R : St) (j : Nat) (s : Bool) : Int32 := if s = true ∧ ¬ fnd R j = -1 then aft R (fnd R j) else fnd R j

set_option maxRecDepth 100000 in
set_option maxHeartbeats 4000000 in
theorem c_chooseReel {g : zG} {a : Nat → Nat} {R : St} {j : Nat} (hj : j < 12) {s : Bool} : Gi g yX4_chooseReel cX4_chooseReel 4 .int 1 [.ref (a 0), .int (nI j), .int (bI s)] (rW g.2 a R) (chs R j s) (rW g.2 a R) := by
  refine fi_entry (by decide) (Nat.le_of_ble_eq_true rfl) (fun C hC hm hE => ?_)
  refine z_aln (pc := 0) hC 0 rfl dX4_chooseReel_0 ?_
  refine z_get (pc := 1) hC fX4_12 0 rfl rfl dX4_chooseReel_1 ?_
  refine z_aln (pc := 4) hC 0 rfl dX4_chooseReel_4 ?_
  refine z_get (pc := 5) hC fX4_21 0 rfl rfl dX4_chooseReel_5 ?_
  refine z_iln (pc := 8) hC 1 rfl dX4_chooseReel_8 ?_
  refine z_g (pc := 9) (rest := [.ref (a 1)]) hC vX2_wantedSticker lX4_121 dX4_chooseReel_9 (c_wantedSticker (j := j) hj) (fun w => w) isCtx_id rfl 2 2 rfl rfl rfl rfl rfl (by decide) (Nat.le_of_ble_eq_true rfl) ⟨Nat.le_refl _, Nat.le_refl _⟩ ?_
  refine z_g (pc := 12) (rest := []) hC vX3_findOnShelf lX4_125 dX4_chooseReel_12 (c_findOnShelf (x := want R j)) (fun w => w) isCtx_id rfl 1 3 rfl rfl rfl rfl rfl (by decide) (Nat.le_of_ble_eq_true rfl) ⟨Nat.le_refl _, Nat.le_refl _⟩ ?_
  refine z_is_ (y := fnd R j) rfl ?_
  refine z_isn (pc := 15) (lv' := [(3, .int (fnd R j)), (0, .ref (a 0)), (1, .int (nI j)), (2, .int (bI s))]) hC hm (by decide) rfl dX4_chooseReel_15 ?_
  refine z_iln (pc := 16) hC 3 rfl dX4_chooseReel_16 ?_
  refine z_ifeq (pc := 17) hC 36 (by decide) dX4_chooseReel_17 (fun c17 => ?_) (fun c17 => ?_)
  · refine z_iln (pc := 36) hC 0 rfl dX4_chooseReel_36 ?_
    exact hE _ _ _ () _ _ _ dX4_chooseReel_37 rfl (by simp [chs, bI_0.mp c17]) rfl (Nat.le_refl _) (Nat.le_refl _)
  · refine z_iln (pc := 20) hC 0 rfl dX4_chooseReel_20 ?_
    refine z_iconst (pc := 21) (v := -1) hC dX4_chooseReel_21 (by decide) ?_
    refine z_iceq (pc := 22) hC 36 (by decide) dX4_chooseReel_22 (fun c22 => ?_) (fun c22 => ?_)
    · refine z_iln (pc := 36) hC 0 rfl dX4_chooseReel_36 ?_
      exact hE _ _ _ () _ _ _ dX4_chooseReel_37 rfl (by simp [chs, bI_n.mp c17, c22]) rfl (Nat.le_refl _) (Nat.le_refl _)
    · refine z_aln (pc := 25) hC 1 rfl dX4_chooseReel_25 ?_
      refine z_get (pc := 26) hC fX4_12 0 rfl rfl dX4_chooseReel_26 ?_
      refine z_iln (pc := 29) hC 0 rfl dX4_chooseReel_29 ?_
      refine z_g (pc := 30) (rest := []) hC vX3_findNextOnShelf lX4_134 dX4_chooseReel_30 (c_findNextOnShelf (x := fnd R j)) (fun w => w) isCtx_id rfl 1 3 rfl rfl rfl rfl rfl (by decide) (Nat.le_of_ble_eq_true rfl) ⟨Nat.le_refl _, Nat.le_refl _⟩ ?_
      refine z_goto (pc := 33) hC 37 (by decide) dX4_chooseReel_33 ?_
      exact hE _ _ _ () _ _ _ dX4_chooseReel_37 rfl (by simp [chs, bI_n.mp c17, c22]) rfl (Nat.le_refl _) (Nat.le_refl _)

theorem kept_ab (R : St) (n : Nat) (v : Int32) : kept R n v = (keptA R v 12 || keptB R v n) := rfl

set_option maxRecDepth 100000 in
set_option maxHeartbeats 4000000 in
theorem c_takesJob {g : zG} {a : Nat → Nat} {R : St} {n : Nat} (hn : R 14 10 = nI n) (hn2 : n ≤ 12) {x v : Int32} : Gi g yX4_takesJob cX4_takesJob 3 .boolean 2 [.ref (a 0), .int x, .int v] (rW g.2 a R) (bI (canS R n x v)) (rW g.2 a R) := by
  refine fi_entry (by decide) (Nat.le_of_ble_eq_true rfl) (fun C hC hm hE => ?_)
  refine z_aln (pc := 0) hC 0 rfl dX4_takesJob_0 ?_
  refine z_get (pc := 1) hC fX4_21 0 rfl rfl dX4_takesJob_1 ?_
  refine z_g (pc := 4) (rest := []) hC vX2_isFull lX4_63 dX4_takesJob_4 (c_isFull hn hn2) (fun w => w) isCtx_id rfl 2 2 rfl rfl rfl rfl rfl (by decide) (Nat.le_of_ble_eq_true rfl) ⟨Nat.le_refl _, Nat.le_refl _⟩ ?_
  refine z_ifeq (pc := 7) hC 12 (by decide) dX4_takesJob_7 (fun c7 => ?_) (fun c7 => ?_)
  · refine z_iln (pc := 12) hC 1 rfl dX4_takesJob_12 ?_
    refine z_iconst (pc := 13) (v := 2) hC dX4_takesJob_13 (by decide) ?_
    refine z_icne (pc := 14) hC 43 (by decide) dX4_takesJob_14 (fun c14 => ?_) (fun c14 => ?_)
    · refine z_iconst (pc := 43) (v := 1) hC dX4_takesJob_43 (by decide) ?_
      refine z_goto (pc := 44) hC 48 (by decide) dX4_takesJob_44 ?_
      exact hE _ _ _ () _ _ _ dX4_takesJob_48 rfl (bI_is (Or.inl ⟨by simp [canS, kept_ab, show n < 12 by simpa using bI_0.mp c7, c14], rfl⟩)) rfl (Nat.le_refl _) (Nat.le_refl _)
    · refine z_aln (pc := 17) hC 0 rfl dX4_takesJob_17 ?_
      refine z_get (pc := 18) hC fX4_12 0 rfl rfl dX4_takesJob_18 ?_
      refine z_iln (pc := 21) hC 2 rfl dX4_takesJob_21 ?_
      refine z_aln (pc := 22) hC 0 rfl dX4_takesJob_22 ?_
      refine z_get (pc := 23) hC fX4_25 0 rfl rfl dX4_takesJob_23 ?_
      refine z_g (pc := 26) (rest := []) hC vX3_keepsLabel lX4_67 dX4_takesJob_26 (c_keepsLabel (v := v) (dy := R 14 0) rfl) (fun w => w) isCtx_id rfl 1 3 rfl rfl rfl rfl rfl (by decide) (Nat.le_of_ble_eq_true rfl) ⟨Nat.le_refl _, Nat.le_refl _⟩ ?_
      refine z_ifne (pc := 29) hC 47 (by decide) dX4_takesJob_29 (fun c29 => ?_) (fun c29 => ?_)
      · refine z_iconst (pc := 47) (v := 0) hC dX4_takesJob_47 (by decide) ?_
        exact hE _ _ _ () _ _ _ dX4_takesJob_48 rfl (bI_is (Or.inr ⟨by simp [canS, kept_ab, show n < 12 by simpa using bI_0.mp c7, c14, bI_n.mp c29], rfl⟩)) rfl (Nat.le_refl _) (Nat.le_refl _)
      · refine z_aln (pc := 32) hC 0 rfl dX4_takesJob_32 ?_
        refine z_get (pc := 33) hC fX4_21 0 rfl rfl dX4_takesJob_33 ?_
        refine z_iln (pc := 36) hC 2 rfl dX4_takesJob_36 ?_
        refine z_g (pc := 37) (rest := []) hC vX2_hasWaitingCreate lX4_71 dX4_takesJob_37 (c_hasWaitingCreate hn hn2 (v := v)) (fun w => w) isCtx_id rfl 2 2 rfl rfl rfl rfl rfl (by decide) (Nat.le_of_ble_eq_true rfl) ⟨Nat.le_refl _, Nat.le_refl _⟩ ?_
        refine z_ifne (pc := 40) hC 47 (by decide) dX4_takesJob_40 (fun c40 => ?_) (fun c40 => ?_)
        · refine z_iconst (pc := 47) (v := 0) hC dX4_takesJob_47 (by decide) ?_
          exact hE _ _ _ () _ _ _ dX4_takesJob_48 rfl (bI_is (Or.inr ⟨by simp [canS, kept_ab, show n < 12 by simpa using bI_0.mp c7, c14, bI_0.mp c29, bI_n.mp c40], rfl⟩)) rfl (Nat.le_refl _) (Nat.le_refl _)
        · refine z_iconst (pc := 43) (v := 1) hC dX4_takesJob_43 (by decide) ?_
          refine z_goto (pc := 44) hC 48 (by decide) dX4_takesJob_44 ?_
          exact hE _ _ _ () _ _ _ dX4_takesJob_48 rfl (bI_is (Or.inl ⟨by simp [canS, kept_ab, show n < 12 by simpa using bI_0.mp c7, c14, bI_0.mp c29, bI_0.mp c40], rfl⟩)) rfl (Nat.le_refl _) (Nat.le_refl _)
  · refine z_iconst (pc := 10) (v := 0) hC dX4_takesJob_10 (by decide) ?_
    exact hE _ _ _ () _ _ _ dX4_takesJob_11 rfl (bI_is (Or.inr ⟨by simp [canS, kept_ab, show ¬ n < 12 by simpa using bI_n.mp c7], rfl⟩)) rfl (Nat.le_refl _) (Nat.le_refl _)

set_option maxRecDepth 100000 in
set_option maxHeartbeats 4000000 in
theorem c_endJob {g : zG} {a : Nat → Nat} {R : St} {j r : Nat} (hj : j < 12) (hr : r < 12) (h : R 12 j = nI r) {s : Int32} : Gv g yX4_endJob cX4_endJob 4 2 [.ref (a 0), .int (nI j), .int s] (rW g.2 a R) (rW g.2 a (toff (setS R 10 j s) j r)) := by
  refine fv_entry (by decide) (Nat.le_of_ble_eq_true rfl) (fun C hC hm _ hE => ?_)
  refine z_aln (pc := 0) hC 0 rfl dX4_endJob_0 ?_
  refine z_get (pc := 1) hC fX4_21 0 rfl rfl dX4_endJob_1 ?_
  refine z_get (pc := 4) hC fX4_75 2 rfl rfl dX4_endJob_4 ?_
  refine z_iln (pc := 7) hC 1 rfl dX4_endJob_7 ?_
  refine z_iald (pc := 8) hC 15 rfl dX4_endJob_8 j rfl (by omega) (by decide) ?_
  refine z_is_ (y := nI r) h ?_
  refine z_isn (pc := 9) (lv' := [(3, .int (nI r)), (0, .ref (a 0)), (1, .int (nI j)), (2, .int s)]) hC hm (by decide) rfl dX4_endJob_9 ?_
  refine z_iln (pc := 10) hC 0 rfl dX4_endJob_10 ?_
  refine z_gsN (pc := 11) (rest := []) hC sX5_isReel nX4_79 dX4_endJob_11 (c_isReel (x := nI r)) rfl rfl (by decide) (Nat.le_of_ble_eq_true rfl) ⟨Nat.le_refl _, Nat.le_refl _⟩ ?_
  refine z_ifeq (pc := 14) hC 27 (by decide) dX4_endJob_14 (fun c14 => absurd c14 (bI_n.mpr (isReel_n hr))) (fun c14 => ?_)
  refine z_aln (pc := 17) hC 1 rfl dX4_endJob_17 ?_
  refine z_get (pc := 18) hC fX4_12 0 rfl rfl dX4_endJob_18 ?_
  refine z_get (pc := 21) hC fX4_82 1 rfl rfl dX4_endJob_21 ?_
  refine z_iln (pc := 24) hC 0 rfl dX4_endJob_24 ?_
  refine z_iconst (pc := 25) (v := -1) hC dX4_endJob_25 (by decide) ?_
  refine z_iast (pc := 26) (ws' := rW g.2 a (setS R 5 r (-1))) hC 8 rfl dX4_endJob_26 r rfl (by omega) (by decide) rW_5 ?_
  refine z_aln (pc := 27) hC 1 rfl dX4_endJob_27 ?_
  refine z_get (pc := 28) hC fX4_21 0 rfl rfl dX4_endJob_28 ?_
  refine z_get (pc := 31) hC fX4_75 2 rfl rfl dX4_endJob_31 ?_
  refine z_iln (pc := 34) hC 2 rfl dX4_endJob_34 ?_
  refine z_iconst (pc := 35) (v := -1) hC dX4_endJob_35 (by decide) ?_
  refine z_iast (pc := 36) (ws' := rW g.2 a (setS (setS R 5 r (-1)) 12 j (-1))) hC 15 rfl dX4_endJob_36 j rfl (by omega) (by decide) rW_12 ?_
  refine z_aln (pc := 37) hC 1 rfl dX4_endJob_37 ?_
  refine z_get (pc := 38) hC fX4_21 0 rfl rfl dX4_endJob_38 ?_
  refine z_get (pc := 41) hC fX4_85 2 rfl rfl dX4_endJob_41 ?_
  refine z_iln (pc := 44) hC 2 rfl dX4_endJob_44 ?_
  refine z_iln (pc := 45) hC 3 rfl dX4_endJob_45 ?_
  refine z_iast (pc := 46) (ws' := rW g.2 a (setS (setS (setS R 5 r (-1)) 12 j (-1)) 10 j s)) hC 13 rfl dX4_endJob_46 j rfl (by omega) (by decide) rW_10 ?_
  exact hE _ _ () _ _ _ dX4_endJob_47 trivial (by unfold toff; rw [setS_comm (setS R 5 r _) _ _ (Or.inl (by decide)), setS_comm R _ _ (Or.inl (by decide))]) (Nat.le_refl _) (Nat.le_refl _)

set_option maxRecDepth 100000 in
set_option maxHeartbeats 4000000 in
theorem c_endJob0 {g : zG} {a : Nat → Nat} {R : St} {j : Nat} (hj : j < 12) (h : R 12 j = -1) {s : Int32} : Gv g yX4_endJob cX4_endJob 4 2 [.ref (a 0), .int (nI j), .int s] (rW g.2 a R) (rW g.2 a (setS R 10 j s)) := by
  refine fv_entry (by decide) (Nat.le_of_ble_eq_true rfl) (fun C hC hm _ hE => ?_)
  refine z_aln (pc := 0) hC 0 rfl dX4_endJob_0 ?_
  refine z_get (pc := 1) hC fX4_21 0 rfl rfl dX4_endJob_1 ?_
  refine z_get (pc := 4) hC fX4_75 2 rfl rfl dX4_endJob_4 ?_
  refine z_iln (pc := 7) hC 1 rfl dX4_endJob_7 ?_
  refine z_iald (pc := 8) hC 15 rfl dX4_endJob_8 j rfl (by omega) (by decide) ?_
  refine z_is_ (y := -1) h ?_
  refine z_isn (pc := 9) (lv' := [(3, .int (-1)), (0, .ref (a 0)), (1, .int (nI j)), (2, .int s)]) hC hm (by decide) rfl dX4_endJob_9 ?_
  refine z_iln (pc := 10) hC 0 rfl dX4_endJob_10 ?_
  refine z_gsN (pc := 11) (rest := []) hC sX5_isReel nX4_79 dX4_endJob_11 (c_isReel (x := -1)) rfl rfl (by decide) (Nat.le_of_ble_eq_true rfl) ⟨Nat.le_refl _, Nat.le_refl _⟩ ?_
  refine z_ifeq (pc := 14) hC 27 (by decide) dX4_endJob_14 (fun c14 => ?_) (fun c14 => absurd (bI_n.mp c14) (by rw [isReel_m]; decide))
  refine z_aln (pc := 27) hC 1 rfl dX4_endJob_27 ?_
  refine z_get (pc := 28) hC fX4_21 0 rfl rfl dX4_endJob_28 ?_
  refine z_get (pc := 31) hC fX4_75 2 rfl rfl dX4_endJob_31 ?_
  refine z_iln (pc := 34) hC 2 rfl dX4_endJob_34 ?_
  refine z_iconst (pc := 35) (v := -1) hC dX4_endJob_35 (by decide) ?_
  refine z_iast (pc := 36) (ws' := rW g.2 a (setS R 12 j (-1))) hC 15 rfl dX4_endJob_36 j rfl (by omega) (by decide) rW_12 ?_
  refine z_aln (pc := 37) hC 1 rfl dX4_endJob_37 ?_
  refine z_get (pc := 38) hC fX4_21 0 rfl rfl dX4_endJob_38 ?_
  refine z_get (pc := 41) hC fX4_85 2 rfl rfl dX4_endJob_41 ?_
  refine z_iln (pc := 44) hC 2 rfl dX4_endJob_44 ?_
  refine z_iln (pc := 45) hC 3 rfl dX4_endJob_45 ?_
  refine z_iast (pc := 46) (ws' := rW g.2 a (setS (setS R 12 j (-1)) 10 j s)) hC 13 rfl dX4_endJob_46 j rfl (by omega) (by decide) rW_10 ?_
  exact hE _ _ () _ _ _ dX4_endJob_47 trivial (by rw [setS_self h]) (Nat.le_refl _) (Nat.le_refl _)

theorem ring_0 {x : Int32} (h : x = 0) : x = 0 := h
theorem ring_1 {x : Int32} (hg : x = 0 ∨ x = 1) (h : ¬ x = 0) : x = 1 := hg.resolve_left h

set_option maxRecDepth 100000 in
set_option maxHeartbeats 4000000 in
theorem c_check {g : zG} {a : Nat → Nat} {R : St} {j r : Nat} (hj : j < 12) (hr : r < 12) (hg : R 2 r = 0 ∨ R 2 r = 1) : Gi g yX4_check cX4_check 4 .int 2 [.ref (a 0), .int (nI j), .int (nI r)] (rW g.2 a R) (chk R j r) (rW g.2 a R) := by
  refine fi_entry (by decide) (Nat.le_of_ble_eq_true rfl) (fun C hC hm hE => ?_)
  refine z_aln (pc := 0) hC 0 rfl dX4_check_0 ?_
  refine z_get (pc := 1) hC fX4_21 0 rfl rfl dX4_check_1 ?_
  refine z_get (pc := 4) hC fX4_117 2 rfl rfl dX4_check_4 ?_
  refine z_iln (pc := 7) hC 1 rfl dX4_check_7 ?_
  refine z_iald (pc := 8) hC 9 rfl dX4_check_8 j rfl (by omega) (by decide) ?_
  refine z_isn (pc := 9) (lv' := [(3, .int (R 6 j)), (0, .ref (a 0)), (1, .int (nI j)), (2, .int (nI r))]) hC hm (by decide) rfl dX4_check_9 ?_
  refine z_iln (pc := 10) hC 0 rfl dX4_check_10 ?_
  refine z_iconst (pc := 11) (v := 2) hC dX4_check_11 (by decide) ?_
  refine z_iceq (pc := 12) hC 38 (by decide) dX4_check_12 (fun c12 => ?_) (fun c12 => ?_)
  · refine z_iln (pc := 38) hC 0 rfl dX4_check_38 ?_
    refine z_iconst (pc := 39) (v := 2) hC dX4_check_39 (by decide) ?_
    refine z_icne (pc := 40) hC 60 (by decide) dX4_check_40 (fun c40 => absurd c12 c40) (fun c40 => ?_)
    refine z_aln (pc := 43) hC 1 rfl dX4_check_43 ?_
    refine z_get (pc := 44) hC fX4_12 0 rfl rfl dX4_check_44 ?_
    refine z_iln (pc := 47) hC 3 rfl dX4_check_47 ?_
    refine z_aln (pc := 48) hC 1 rfl dX4_check_48 ?_
    refine z_get (pc := 49) hC fX4_25 0 rfl rfl dX4_check_49 ?_
    refine z_g (pc := 52) (rest := []) hC vX3_isScratch lX4_165 dX4_check_52 (c_isScratch (r := r) (dy := R 14 0) hr rfl) (fun w => w) isCtx_id rfl 1 3 rfl rfl rfl rfl rfl (by decide) (Nat.le_of_ble_eq_true rfl) ⟨Nat.le_refl _, Nat.le_refl _⟩ ?_
    refine z_ifne (pc := 55) hC 60 (by decide) dX4_check_55 (fun c55 => ?_) (fun c55 => ?_)
    · refine z_iln (pc := 60) hC 0 rfl dX4_check_60 ?_
      refine z_ifne (pc := 61) hC 78 (by decide) dX4_check_61 (fun c61 => ?_) (fun c61 => absurd (c61.symm.trans c40) (by decide))
      refine z_iln (pc := 78) hC 0 rfl dX4_check_78 ?_
      refine z_ifeq (pc := 79) hC 96 (by decide) dX4_check_79 (fun c79 => absurd c79 c61) (fun c79 => ?_)
      refine z_aln (pc := 82) hC 1 rfl dX4_check_82 ?_
      refine z_get (pc := 83) hC fX4_12 0 rfl rfl dX4_check_83 ?_
      refine z_get (pc := 86) hC fX4_144 1 rfl rfl dX4_check_86 ?_
      refine z_iln (pc := 89) hC 3 rfl dX4_check_89 ?_
      refine z_zald (pc := 90) hC 5 rfl dX4_check_90 r rfl (by omega) (by decide) ?_
      refine z_ifne (pc := 91) hC 96 (by decide) dX4_check_91 (fun c91 => ?_) (fun c91 => ?_)
      · refine z_iconst (pc := 96) (v := 0) hC dX4_check_96 (by decide) ?_
        exact hE _ _ _ () _ _ _ dX4_check_97 rfl (by simp [chk, c12, c40, bI_n.mp c55, c61, c79, ring_1 hg c91]) rfl (Nat.le_refl _) (Nat.le_refl _)
      · refine z_iconst (pc := 94) (v := 4) hC dX4_check_94 (by decide) ?_
        exact hE _ _ _ () _ _ _ dX4_check_95 rfl (by simp [chk, c12, c40, bI_n.mp c55, c61, c79, ring_0 c91]) rfl (Nat.le_refl _) (Nat.le_refl _)
    · refine z_iconst (pc := 58) (v := 2) hC dX4_check_58 (by decide) ?_
      exact hE _ _ _ () _ _ _ dX4_check_59 rfl (by simp [chk, c12, c40, bI_0.mp c55]) rfl (Nat.le_refl _) (Nat.le_refl _)
  · refine z_aln (pc := 15) hC 1 rfl dX4_check_15 ?_
    refine z_get (pc := 16) hC fX4_12 0 rfl rfl dX4_check_16 ?_
    refine z_get (pc := 19) hC fX4_159 1 rfl rfl dX4_check_19 ?_
    refine z_iln (pc := 22) hC 3 rfl dX4_check_22 ?_
    refine z_iald (pc := 23) hC 3 rfl dX4_check_23 r rfl (by omega) (by decide) ?_
    refine z_aln (pc := 24) hC 1 rfl dX4_check_24 ?_
    refine z_get (pc := 25) hC fX4_21 0 rfl rfl dX4_check_25 ?_
    refine z_get (pc := 28) hC fX4_162 2 rfl rfl dX4_check_28 ?_
    refine z_iln (pc := 31) hC 2 rfl dX4_check_31 ?_
    refine z_iald (pc := 32) hC 10 rfl dX4_check_32 j rfl (by omega) (by decide) ?_
    refine z_iceq (pc := 33) hC 38 (by decide) dX4_check_33 (fun c33 => ?_) (fun c33 => ?_)
    · refine z_iln (pc := 38) hC 0 rfl dX4_check_38 ?_
      refine z_iconst (pc := 39) (v := 2) hC dX4_check_39 (by decide) ?_
      refine z_icne (pc := 40) hC 60 (by decide) dX4_check_40 (fun c40 => ?_) (fun c40 => absurd c40 c12)
      refine z_iln (pc := 60) hC 0 rfl dX4_check_60 ?_
      refine z_ifne (pc := 61) hC 78 (by decide) dX4_check_61 (fun c61 => ?_) (fun c61 => ?_)
      · refine z_iln (pc := 78) hC 0 rfl dX4_check_78 ?_
        refine z_ifeq (pc := 79) hC 96 (by decide) dX4_check_79 (fun c79 => absurd c79 c61) (fun c79 => ?_)
        refine z_aln (pc := 82) hC 1 rfl dX4_check_82 ?_
        refine z_get (pc := 83) hC fX4_12 0 rfl rfl dX4_check_83 ?_
        refine z_get (pc := 86) hC fX4_144 1 rfl rfl dX4_check_86 ?_
        refine z_iln (pc := 89) hC 3 rfl dX4_check_89 ?_
        refine z_zald (pc := 90) hC 5 rfl dX4_check_90 r rfl (by omega) (by decide) ?_
        refine z_ifne (pc := 91) hC 96 (by decide) dX4_check_91 (fun c91 => ?_) (fun c91 => ?_)
        · refine z_iconst (pc := 96) (v := 0) hC dX4_check_96 (by decide) ?_
          exact hE _ _ _ () _ _ _ dX4_check_97 rfl (by simp [chk, c12, c33, c40, c61, c79, ring_1 hg c91]) rfl (Nat.le_refl _) (Nat.le_refl _)
        · refine z_iconst (pc := 94) (v := 4) hC dX4_check_94 (by decide) ?_
          exact hE _ _ _ () _ _ _ dX4_check_95 rfl (by simp [chk, c12, c33, c40, c61, c79, ring_0 c91]) rfl (Nat.le_refl _) (Nat.le_refl _)
      · refine z_aln (pc := 64) hC 1 rfl dX4_check_64 ?_
        refine z_get (pc := 65) hC fX4_12 0 rfl rfl dX4_check_65 ?_
        refine z_get (pc := 68) hC fX4_144 1 rfl rfl dX4_check_68 ?_
        refine z_iln (pc := 71) hC 3 rfl dX4_check_71 ?_
        refine z_zald (pc := 72) hC 5 rfl dX4_check_72 r rfl (by omega) (by decide) ?_
        refine z_ifeq (pc := 73) hC 78 (by decide) dX4_check_73 (fun c73 => ?_) (fun c73 => ?_)
        · refine z_iln (pc := 78) hC 0 rfl dX4_check_78 ?_
          refine z_ifeq (pc := 79) hC 96 (by decide) dX4_check_79 (fun c79 => ?_) (fun c79 => absurd c61 c79)
          refine z_iconst (pc := 96) (v := 0) hC dX4_check_96 (by decide) ?_
          exact hE _ _ _ () _ _ _ dX4_check_97 rfl (by simp [chk, c12, c33, c40, c61, ring_0 c73, c79]) rfl (Nat.le_refl _) (Nat.le_refl _)
        · refine z_iconst (pc := 76) (v := 3) hC dX4_check_76 (by decide) ?_
          exact hE _ _ _ () _ _ _ dX4_check_77 rfl (by simp [chk, c12, c33, c40, c61, ring_1 hg c73]) rfl (Nat.le_refl _) (Nat.le_refl _)
    · refine z_iconst (pc := 36) (v := 1) hC dX4_check_36 (by decide) ?_
      exact hE _ _ _ () _ _ _ dX4_check_37 rfl (by simp [chk, c12, c33]) rfl (Nat.le_refl _) (Nat.le_refl _)
end
