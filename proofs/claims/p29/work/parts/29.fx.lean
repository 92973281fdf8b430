/-! METHODS THAT MAY THROW, where they don't: the throwing ends are never reached -/
def xStr : List (Nat × String) := [(39, "an argument is out of range"), (50, "the room takes no such job now"), (73, "no such job"), (80, "the job neither waits nor runs"), (92, "no such reel"), (94, "the volume is out of range"), (108, "the reel is on a drive"), (114, "the number of minutes is out of range"), (124, "this is the last day"), (130, "no such setting"), (132, "the value is out of the range of the setting"), (140, "the character code is out of range"), (145, "the text is full"), (155, "the text is not valid"), (188, "there is no saved state"), (203, "no such part of a reel"), (205, "no such drive"), (230, "no such part of a job"), (235, "no such job or reel"), (278, "no such count")]
def xOK (_ _ : Nat) (_ : String) : Prop := True
theorem xIAE : xOK 37 41 "java/lang/IllegalArgumentException" := trivial
theorem xISE : xOK 48 52 "java/lang/IllegalStateException" := trivial
theorem xIOE : xOK 71 75 "java/lang/IndexOutOfBoundsException" := trivial
/-- the throw at pc -/
def zThr {S : Type} (g : zG) (C : zC) (cy : ByteArray) (px : String → S → Prop) (wx : S → va_W) : Prop :=
  ∀ (pc ik is ic : Nat) (cls text : String) (lv : List (Nat × Value)) (ws : va_W), xOK ik ic cls → decode cy pc = .ok (.new ik, 3) → decode cy (pc + 3) = .ok (.dup, 1) → decode cy (pc + 4) = .ok (.ldc is, 2) → decode cy (pc + 6) = .ok (.invokespecial ic, 3) → decode cy (pc + 9) = .ok (.athrow, 1) → (is, text) ∈ xStr → ∀ u : S, px cls u → ws = wx u → Z g C 0 0 ws lv pc []
/-- .. with a wide entry -/
def zThrW {S : Type} (g : zG) (C : zC) (cy : ByteArray) (px : String → S → Prop) (wx : S → va_W) : Prop :=
  ∀ (pc ik is ic : Nat) (cls text : String) (lv : List (Nat × Value)) (ws : va_W), xOK ik ic cls → decode cy pc = .ok (.new ik, 3) → decode cy (pc + 3) = .ok (.dup, 1) → decode cy (pc + 4) = .ok (.ldc_w is, 3) → decode cy (pc + 7) = .ok (.invokespecial ic, 3) → decode cy (pc + 10) = .ok (.athrow, 1) → (is, text) ∈ xStr → ∀ u : S, px cls u → ws = wx u → Z g C 0 0 ws lv pc []
theorem fg_entry {S : Type} {g : zG} {y : MethodName} {cy : ByteArray} {nl : Nat} {ret : FieldType} {d : Nat} {av : List Value} {w : va_W} {px : String → S → Prop} {wx : S → va_W} {post : Int32 → S → Prop} {w' : S → va_W} (hx : ∀ E u, ¬ px E u) (hy : plainName y.cls = true) (hn : (lg_sl av).length ≤ nl)
    (h : ∀ C : zC, zOK g C cy y.cls d 0 0 → (zc C).maxLocals = nl → zI g C cy ret 0 0 post w' → zThr g C cy px wx → zThrW g C cy px wx → Z g C 0 0 w (lv_args 0 av) 0 []) : FI g y cy nl ret d 0 0 av w post w' :=
  fi_entry hy hn (fun C hC hm hE => h C hC hm hE (fun _ _ _ _ _ _ _ _ _ _ _ _ _ _ _ u hp _ => absurd hp (hx _ u)) (fun _ _ _ _ _ _ _ _ _ _ _ _ _ _ _ u hp _ => absurd hp (hx _ u)))
