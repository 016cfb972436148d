/-! the walk over the laid-out cells -/
abbrev Cx : Type := Program × Launch × Env × Room × State × MethodId × Array Value × List Frame × Method × Code
/-- what the tables say besides the good words -/
def nestL : List (String × Nat × MethodName × String) := [("GearGauge$State", 94, ⟨"GearGauge", "isGear", "(II)Z"⟩, "GearGauge"), ("GearGauge$Text", 39, ⟨"GearGauge", "isDeviation", "(I)Z"⟩, "GearGauge"), ("GearGauge$Gear", 50, ⟨"GearGauge", "rounded", "(JJ)I"⟩, "GearGauge"), ("GearGauge$Line", 55, ⟨"GearGauge", "rounded", "(JJ)I"⟩, "GearGauge"), ("GearGauge$Gear", 46, ⟨"GearGauge", "isDeviation", "(I)Z"⟩, "GearGauge"), ("GearGauge$Mesh", 33, ⟨"GearGauge", "commonDivisor", "(JJ)J"⟩, "GearGauge"), ("GearGauge$State", 23, ⟨"GearGauge$Gear", "<init>", "()V"⟩, "GearGauge"), ("GearGauge$State", 24, ⟨"GearGauge$Line", "<init>", "()V"⟩, "GearGauge"), ("GearGauge", 25, ⟨"GearGauge$Text", "<init>", "()V"⟩, "GearGauge"), ("GearGauge", 32, ⟨"GearGauge$Mesh", "<init>", "()V"⟩, "GearGauge"), ("GearGauge", 39, ⟨"GearGauge$Gear", "<init>", "()V"⟩, "GearGauge")]
def declL : List MethodName := [⟨"java/lang/RuntimeException", "<init>", "()V"⟩, ⟨"java/lang/RuntimeException", "<init>", "(Ljava/lang/String;)V"⟩, ⟨"java/lang/Exception", "<init>", "()V"⟩, ⟨"java/lang/Exception", "<init>", "(Ljava/lang/String;)V"⟩, ⟨"java/lang/Throwable", "<init>", "()V"⟩, ⟨"java/lang/Throwable", "<init>", "(Ljava/lang/String;)V"⟩]
abbrev eIAE : String := "java/lang/IllegalArgumentException"
abbrev eISE : String := "java/lang/IllegalStateException"
abbrev eIOB : String := "java/lang/IndexOutOfBoundsException"
def excL : List String := [eIAE, eISE, eIOB]
def strL : List (Nat × String) := [(57, "teeth or module out of range"), (68, "no room for a gear"), (319, "no such gear"), (323, "no such series"), (325, "no such reading"), (94, "value out of range"), (101, "seed or spread out of range"), (115, "no such tooth"), (126, "a reading would be out of range"), (141, "what out of range"), (327, "no such flank"), (150, "k out of range"), (173, "kind out of range"), (178, "no room for a line"), (321, "no such line"), (192, "no room for a point"), (206, "no such point"), (331, "too few points"), (217, "part out of range"), (329, "quality out of range"), (251, "u out of range"), (253, "phase out of range"), (269, "no such place"), (277, "no room for a byte"), (301, "no saved state")]
def Ng (U : State) : Prop := (∀ q ∈ nestL, va_Nw (.methodLinkNest q.1 q.2.1 q.2.2.1 q.2.2.2) U) ∧ (∀ x ∈ declL, va_Nw (.declares x) U) ∧ (∀ e ∈ excL, va_Nw (.castable e e) U) ∧ (∀ e ∈ excL, ∀ f ∈ excL, e ≠ f → va_Nc e f U) ∧ (∀ q ∈ strL, ∃ sa : Nat, vk_R "GearGauge" q.1 q.2 sa U)
theorem Ng.warm {s U : State} (hW : s.WarmedH U.vm) (h : Ng s) : Ng U := by
  obtain ⟨h1, h2, h3, h4, h5⟩ := h
  exact ⟨fun q hq => va_Nw.warmM hW (h1 q hq), fun x hx => va_Nw.warmD hW (h2 x hx), fun e he => va_Nw.warmC hW (h3 e he), fun e he f hf hn => va_Nc.moved hW.alike (h4 e he f hf hn), fun q hq => by
    obtain ⟨sa, h⟩ := h5 q hq
    exact ⟨sa, vk_R.warm hW h⟩⟩
theorem Ng.same {s U : State} (hv : U.vm = s.vm) (h : Ng s) : Ng U := Ng.warm (by rw [hv]; exact State.WarmedH.refl s) h
/-- the two statics that a throw reads -/
def Zs (G : Gs) (U : State) (H : Heap) : Prop := vx_Zq Bundle.tN "UNASSIGNED_STACK" Bundle.steD (Fr G) U H ∧ vx_Zq Bundle.tN "SUPPRESSED_SENTINEL" Bundle.listD (Fr G) U H
/-- what stands at a method's start, beside the cells -/
def St (G : Gs) (U : State) : Prop := va_K G.2.1 vwCl (tysE G.2.2) U ∧ Ng U
/-- a method's own start: the machine, its code, the words, the room, what it answers -/
def Bx (l : Launch) (G : Gs) (X : Cx) (cc : ByteArray) (nL : Nat) (own : String) (rm : Room) (ret : Option FieldType) : Prop :=
  CallFix X.1 X.2.2.2.2.2.1 X.2.2.2.2.2.2.2.2.2 cc nL X.2.2.2.2.1 X.2.2.2.2.2.2.1 tG own ∧ X.2.1 = l ∧ X.2.2.2.1 = rm ∧ X.2.2.2.2.2.2.2.2.1.sig.returnType = ret ∧ X.2.2.2.2.2.2.2.2.1.locks = false ∧ St G X.2.2.2.2.1 ∧ Zs G X.2.2.2.2.1 X.2.2.2.2.1.heap
/-- the machine goes on from pc, with these locals and this stack, over the cells that M tells, to a state with Q -/
def WM (G : Gs) (X : Cx) (k n : Nat) (Q : State → Prop) (M : Mem) (pc : Nat) (lv : List (Nat × Value)) (st : List Value) : Prop :=
  ∀ (H : Heap) (locs : List Loc) (ls : Array Slot), va_P G.2.1 vwCl (WW G M) H → va_S (Fr G) X.2.2.2.2.1.heap H locs → lv_has ls X.2.2.2.2.2.2.2.2.2.maxLocals lv →
    W X.1 X.2.1 X.2.2.1 X.2.2.2.1 X.2.2.2.2.1 X.2.2.2.2.2.1 X.2.2.2.2.2.2.1 X.2.2.2.2.2.2.2.1 X.2.2.2.2.2.2.2.2.1 X.2.2.2.2.2.2.2.2.2 H locs k n Q (F0 X.2.2.2.2.2.1 pc ls st)
theorem in32_0 : In32 0 := ⟨by omega, by omega⟩
section R
variable {l : Launch} {G : Gs} {X : Cx} {cc : ByteArray} {nL : Nat} {own : String} {rm0 : Room} {ret0 : Option FieldType} {k n : Nat} {Q : State → Prop} {M : Mem} {pc : Nat} {lv : List (Nat × Value)} {st : List Value}
theorem WM.pick {lv' : List (Nat × Value)} (ks : List Nat) (hl : lv_pick lv ks = lv') (kk : WM G X k n Q M pc lv' st) : WM G X k n Q M pc lv st :=
  fun H locs ls hP hS h => kk H locs ls hP hS (lv_sub h ks hl)
theorem WM.to {pc' : Nat} {lv' : List (Nat × Value)} {st' : List Value} {M' : Mem} (h : WM G X k n Q M' pc' lv' st') (e1 : pc' = pc) (e2 : lv' = lv) (e3 : st' = st) (e4 : M' = M) : WM G X k n Q M pc lv st := by
  subst e1; subst e2; subst e3; subst e4; exact h
theorem WM.mem {M' : Mem} (h : ∀ b, Same M M' b) (kk : WM G X k n Q M' pc lv st) : WM G X k n Q M pc lv st :=
  fun H locs ls hP hS h2 => kk H locs ls (va_P_ext hP h) hS h2
theorem WM.widen {k' n' : Nat} (h1 : k ≤ k') (h2 : n ≤ n') (kk : WM G X k' n' Q M pc lv st) : WM G X k n Q M pc lv st :=
  fun H locs ls hP hS h => W.widen h1 h2 (kk H locs ls hP hS h)
theorem r_iconst (B : Bx l G X cc nL own rm0 ret0) {z : Int} (hdg : decode cc pc = .ok (.iconst z, 1)) (kk : WM G X k n Q M (pc + 1) lv (.int (iI z) :: st)) : WM G X k n Q M pc lv (st) :=
  fun H locs ls hP hS hl => lv_iconst B.1.1 B.1.2.1 hdg rfl (kk H locs ls hP hS hl)
theorem r_bipush (B : Bx l G X cc nL own rm0 ret0) {z : Int} (hdg : decode cc pc = .ok (.bipush z, 2)) (hz : (Int8.ofInt z).toInt32 = iI z) (kk : WM G X k n Q M (pc + 2) lv (.int (iI z) :: st)) : WM G X k n Q M pc lv (st) :=
  fun H locs ls hP hS hl => lv_bipush B.1.1 B.1.2.1 hdg hz (kk H locs ls hP hS hl)
theorem r_sipush (B : Bx l G X cc nL own rm0 ret0) {z : Int} (hdg : decode cc pc = .ok (.sipush z, 3)) (hz : (Int16.ofInt z).toInt32 = iI z) (kk : WM G X k n Q M (pc + 3) lv (.int (iI z) :: st)) : WM G X k n Q M pc lv (st) :=
  fun H locs ls hP hS hl => lv_sipush B.1.1 B.1.2.1 hdg hz (kk H locs ls hP hS hl)
theorem r_lconst0 (B : Bx l G X cc nL own rm0 ret0)  (hdg : decode cc pc = .ok (.lconst 0, 1)) (kk : WM G X k n Q M (pc + 1) lv (.long (lI 0) :: st)) : WM G X k n Q M pc lv (st) :=
  fun H locs ls hP hS hl => lv_lconst B.1.1 B.1.2.1 hdg rfl (kk H locs ls hP hS hl)
theorem r_lconst1 (B : Bx l G X cc nL own rm0 ret0)  (hdg : decode cc pc = .ok (.lconst 1, 1)) (kk : WM G X k n Q M (pc + 1) lv (.long (lI 1) :: st)) : WM G X k n Q M pc lv (st) :=
  fun H locs ls hP hS hl => lv_lconst B.1.1 B.1.2.1 hdg rfl (kk H locs ls hP hS hl)
theorem r_ldc2 (B : Bx l G X cc nL own rm0 ret0) {i : Nat} {z : Int} {v : Int64} (hdg : decode cc pc = .ok (.ldc2_w i, 3)) (w : Cond.constantLong own i v ∈ tG) (hz : v = lI z) (kk : WM G X k n Q M (pc + 3) lv (.long (lI z) :: st)) : WM G X k n Q M pc lv (st) :=
  fun H locs ls hP hS hl => lv_ldc2 B.1.1 B.1.2.1 B.1.2.2.2.1 (B.1.2.2.2.2 _ w) hdg (by subst hz; exact (kk H locs ls hP hS hl))
theorem r_ldc (B : Bx l G X cc nL own rm0 ret0) {i : Nat} {z : Int} {v : Int32} (hdg : decode cc pc = .ok (.ldc i, 2)) (w : Cond.constant own i v ∈ tG) (hz : v = iI z) (kk : WM G X k n Q M (pc + 2) lv (.int (iI z) :: st)) : WM G X k n Q M pc lv (st) :=
  fun H locs ls hP hS hl => lv_ldc B.1.1 B.1.2.1 B.1.2.2.2.1 (B.1.2.2.2.2 _ w) hdg (by subst hz; exact (kk H locs ls hP hS hl))
theorem r_iload_n (B : Bx l G X cc nL own rm0 ret0) {i : Fin 4} {x : Int} (j : Nat) (hdg : decode cc pc = .ok (.iload_n i, 1)) (hj : lv[j]? = some ((i : Nat), .int (iI x))) (kk : WM G X k n Q M (pc + 1) lv (.int (iI x) :: st)) : WM G X k n Q M pc lv (st) :=
  fun H locs ls hP hS hl => lv_iload_n B.1.1 B.1.2.1 hdg rfl (lv_at hl j hj) (kk H locs ls hP hS hl)
theorem r_iload (B : Bx l G X cc nL own rm0 ret0) {i : Nat} {x : Int} (j : Nat) (hdg : decode cc pc = .ok (.iload i, 2)) (hj : lv[j]? = some (i, .int (iI x))) (kk : WM G X k n Q M (pc + 2) lv (.int (iI x) :: st)) : WM G X k n Q M pc lv (st) :=
  fun H locs ls hP hS hl => lv_iload B.1.1 B.1.2.1 hdg (lv_at hl j hj) (kk H locs ls hP hS hl)
theorem r_istore_n (B : Bx l G X cc nL own rm0 ret0) {i : Fin 4} {x : Int} {lv' : List (Nat × Value)} (hdg : decode cc pc = .ok (.istore_n i, 1)) (hn : (i : Nat) < nL) (he : ((i : Nat), .int (iI x)) :: lv.filter (fun q => !(q.1 == (i : Nat)) && !(q.1 + 1 == (i : Nat) && q.2.category == 2)) = lv') (kk : WM G X k n Q M (pc + 1) lv' st) : WM G X k n Q M pc lv (.int (iI x) :: st) :=
  fun H locs ls hP hS hl => lv_istore_n B.1.1 B.1.2.1 hdg rfl hl (by rw [B.1.2.2.1]; exact hn) he (fun ls' hl' => kk H locs ls' hP hS hl')
theorem r_istore (B : Bx l G X cc nL own rm0 ret0) {i : Nat} {x : Int} {lv' : List (Nat × Value)} (hdg : decode cc pc = .ok (.istore i, 2)) (hn : i < nL) (he : (i, .int (iI x)) :: lv.filter (fun q => !(q.1 == i) && !(q.1 + 1 == i && q.2.category == 2)) = lv') (kk : WM G X k n Q M (pc + 2) lv' st) : WM G X k n Q M pc lv (.int (iI x) :: st) :=
  fun H locs ls hP hS hl => lv_istore B.1.1 B.1.2.1 hdg hl (by rw [B.1.2.2.1]; exact hn) he (fun ls' hl' => kk H locs ls' hP hS hl')
theorem r_lload_n (B : Bx l G X cc nL own rm0 ret0) {i : Fin 4} {x : Int} (j : Nat) (hdg : decode cc pc = .ok (.lload_n i, 1)) (hj : lv[j]? = some ((i : Nat), .long (lI x))) (kk : WM G X k n Q M (pc + 1) lv (.long (lI x) :: st)) : WM G X k n Q M pc lv (st) :=
  fun H locs ls hP hS hl => lv_lload_n B.1.1 B.1.2.1 hdg rfl (lv_at hl j hj) (kk H locs ls hP hS hl)
theorem r_lload (B : Bx l G X cc nL own rm0 ret0) {i : Nat} {x : Int} (j : Nat) (hdg : decode cc pc = .ok (.lload i, 2)) (hj : lv[j]? = some (i, .long (lI x))) (kk : WM G X k n Q M (pc + 2) lv (.long (lI x) :: st)) : WM G X k n Q M pc lv (st) :=
  fun H locs ls hP hS hl => lv_lload B.1.1 B.1.2.1 hdg (lv_at hl j hj) (kk H locs ls hP hS hl)
theorem r_lstore_n (B : Bx l G X cc nL own rm0 ret0) {i : Fin 4} {x : Int} {lv' : List (Nat × Value)} (hdg : decode cc pc = .ok (.lstore_n i, 1)) (hn : (i : Nat) + 1 < nL) (he : ((i : Nat), .long (lI x)) :: lv.filter (fun q => !(q.1 == (i : Nat)) && (!(q.1 == (i : Nat) + 1) && !(q.1 + 1 == (i : Nat) && q.2.category == 2))) = lv') (kk : WM G X k n Q M (pc + 1) lv' st) : WM G X k n Q M pc lv (.long (lI x) :: st) :=
  fun H locs ls hP hS hl => lv_lstore_n B.1.1 B.1.2.1 hdg rfl hl (by rw [B.1.2.2.1]; exact hn) he (fun ls' hl' => kk H locs ls' hP hS hl')
theorem r_lstore (B : Bx l G X cc nL own rm0 ret0) {i : Nat} {x : Int} {lv' : List (Nat × Value)} (hdg : decode cc pc = .ok (.lstore i, 2)) (hn : i + 1 < nL) (he : (i, .long (lI x)) :: lv.filter (fun q => !(q.1 == i) && (!(q.1 == i + 1) && !(q.1 + 1 == i && q.2.category == 2))) = lv') (kk : WM G X k n Q M (pc + 2) lv' st) : WM G X k n Q M pc lv (.long (lI x) :: st) :=
  fun H locs ls hP hS hl => lv_lstore B.1.1 B.1.2.1 hdg hl (by rw [B.1.2.2.1]; exact hn) he (fun ls' hl' => kk H locs ls' hP hS hl')
theorem r_aload_n (B : Bx l G X cc nL own rm0 ret0) {i : Fin 4} {x : Nat} (j : Nat) (hdg : decode cc pc = .ok (.aload_n i, 1)) (hj : lv[j]? = some ((i : Nat), .ref x)) (kk : WM G X k n Q M (pc + 1) lv (.ref x :: st)) : WM G X k n Q M pc lv (st) :=
  fun H locs ls hP hS hl => lv_aload_n B.1.1 B.1.2.1 hdg rfl (lv_at hl j hj) (kk H locs ls hP hS hl)
theorem r_aload (B : Bx l G X cc nL own rm0 ret0) {i : Nat} {x : Nat} (j : Nat) (hdg : decode cc pc = .ok (.aload i, 2)) (hj : lv[j]? = some (i, .ref x)) (kk : WM G X k n Q M (pc + 2) lv (.ref x :: st)) : WM G X k n Q M pc lv (st) :=
  fun H locs ls hP hS hl => lv_aload B.1.1 B.1.2.1 hdg (lv_at hl j hj) (kk H locs ls hP hS hl)
theorem r_astore_n (B : Bx l G X cc nL own rm0 ret0) {i : Fin 4} {x : Nat} {lv' : List (Nat × Value)} (hdg : decode cc pc = .ok (.astore_n i, 1)) (hn : (i : Nat) < nL) (he : ((i : Nat), .ref x) :: lv.filter (fun q => !(q.1 == (i : Nat)) && !(q.1 + 1 == (i : Nat) && q.2.category == 2)) = lv') (kk : WM G X k n Q M (pc + 1) lv' st) : WM G X k n Q M pc lv (.ref x :: st) :=
  fun H locs ls hP hS hl => lv_astore_n B.1.1 B.1.2.1 hdg rfl hl (by rw [B.1.2.2.1]; exact hn) he (fun ls' hl' => kk H locs ls' hP hS hl')
theorem r_astore (B : Bx l G X cc nL own rm0 ret0) {i : Nat} {x : Nat} {lv' : List (Nat × Value)} (hdg : decode cc pc = .ok (.astore i, 2)) (hn : i < nL) (he : (i, .ref x) :: lv.filter (fun q => !(q.1 == i) && !(q.1 + 1 == i && q.2.category == 2)) = lv') (kk : WM G X k n Q M (pc + 2) lv' st) : WM G X k n Q M pc lv (.ref x :: st) :=
  fun H locs ls hP hS hl => lv_astore B.1.1 B.1.2.1 hdg hl (by rw [B.1.2.2.1]; exact hn) he (fun ls' hl' => kk H locs ls' hP hS hl')
theorem r_dload_n (B : Bx l G X cc nL own rm0 ret0) {i : Fin 4} {x : UInt64} (j : Nat) (hdg : decode cc pc = .ok (.dload_n i, 1)) (hj : lv[j]? = some ((i : Nat), .double x)) (kk : WM G X k n Q M (pc + 1) lv (.double x :: st)) : WM G X k n Q M pc lv (st) :=
  fun H locs ls hP hS hl => lv_dload_n B.1.1 B.1.2.1 hdg rfl (lv_at hl j hj) (kk H locs ls hP hS hl)
theorem r_dload (B : Bx l G X cc nL own rm0 ret0) {i : Nat} {x : UInt64} (j : Nat) (hdg : decode cc pc = .ok (.dload i, 2)) (hj : lv[j]? = some (i, .double x)) (kk : WM G X k n Q M (pc + 2) lv (.double x :: st)) : WM G X k n Q M pc lv (st) :=
  fun H locs ls hP hS hl => lv_dload B.1.1 B.1.2.1 hdg (lv_at hl j hj) (kk H locs ls hP hS hl)
theorem r_dstore_n (B : Bx l G X cc nL own rm0 ret0) {i : Fin 4} {x : UInt64} {lv' : List (Nat × Value)} (hdg : decode cc pc = .ok (.dstore_n i, 1)) (hn : (i : Nat) + 1 < nL) (he : ((i : Nat), .double x) :: lv.filter (fun q => !(q.1 == (i : Nat)) && (!(q.1 == (i : Nat) + 1) && !(q.1 + 1 == (i : Nat) && q.2.category == 2))) = lv') (kk : WM G X k n Q M (pc + 1) lv' st) : WM G X k n Q M pc lv (.double x :: st) :=
  fun H locs ls hP hS hl => lv_dstore_n B.1.1 B.1.2.1 hdg rfl hl (by rw [B.1.2.2.1]; exact hn) he (fun ls' hl' => kk H locs ls' hP hS hl')
theorem r_dstore (B : Bx l G X cc nL own rm0 ret0) {i : Nat} {x : UInt64} {lv' : List (Nat × Value)} (hdg : decode cc pc = .ok (.dstore i, 2)) (hn : i + 1 < nL) (he : (i, .double x) :: lv.filter (fun q => !(q.1 == i) && (!(q.1 == i + 1) && !(q.1 + 1 == i && q.2.category == 2))) = lv') (kk : WM G X k n Q M (pc + 2) lv' st) : WM G X k n Q M pc lv (.double x :: st) :=
  fun H locs ls hP hS hl => lv_dstore B.1.1 B.1.2.1 hdg hl (by rw [B.1.2.2.1]; exact hn) he (fun ls' hl' => kk H locs ls' hP hS hl')
theorem r_iinc (B : Bx l G X cc nL own rm0 ret0) {i j : Nat} {z x : Int} {lv' : List (Nat × Value)} (hdg : decode cc pc = .ok (.iinc i z, 3)) (hj : lv[j]? = some (i, .int (iI x))) (hn : i < nL) (he : (i, Value.int (iI (x + z))) :: lv.filter (fun q => !(q.1 == i) && !(q.1 + 1 == i && q.2.category == 2)) = lv') (kk : WM G X k n Q M (pc + 3) lv' st) : WM G X k n Q M pc lv st :=
  fun H locs ls hP hS hl => lv_iinc B.1.1 B.1.2.1 hdg hl hj (iI_add x z) (by rw [B.1.2.2.1]; exact hn) he (fun ls' hl' => kk H locs ls' hP hS hl')
theorem r_iadd (B : Bx l G X cc nL own rm0 ret0) {x y : Int} (hdg : decode cc pc = .ok (.iadd, 1)) (kk : WM G X k n Q M (pc + 1) lv (.int (iI (x + y)) :: st)) : WM G X k n Q M pc lv (.int (iI y) :: .int (iI x) :: st) :=
  fun H locs ls hP hS hl => lv_iadd B.1.1 B.1.2.1 hdg (by rw [iI_add]; exact (kk H locs ls hP hS hl))
theorem r_ladd (B : Bx l G X cc nL own rm0 ret0) {x y : Int} (hdg : decode cc pc = .ok (.ladd, 1)) (kk : WM G X k n Q M (pc + 1) lv (.long (lI (x + y)) :: st)) : WM G X k n Q M pc lv (.long (lI y) :: .long (lI x) :: st) :=
  fun H locs ls hP hS hl => lv_ladd B.1.1 B.1.2.1 hdg (by rw [lI_add]; exact (kk H locs ls hP hS hl))
theorem r_isub (B : Bx l G X cc nL own rm0 ret0) {x y : Int} (hdg : decode cc pc = .ok (.isub, 1)) (kk : WM G X k n Q M (pc + 1) lv (.int (iI (x - y)) :: st)) : WM G X k n Q M pc lv (.int (iI y) :: .int (iI x) :: st) :=
  fun H locs ls hP hS hl => lv_isub B.1.1 B.1.2.1 hdg (by rw [iI_sub]; exact (kk H locs ls hP hS hl))
theorem r_lsub (B : Bx l G X cc nL own rm0 ret0) {x y : Int} (hdg : decode cc pc = .ok (.lsub, 1)) (kk : WM G X k n Q M (pc + 1) lv (.long (lI (x - y)) :: st)) : WM G X k n Q M pc lv (.long (lI y) :: .long (lI x) :: st) :=
  fun H locs ls hP hS hl => lv_lsub B.1.1 B.1.2.1 hdg (by rw [lI_sub]; exact (kk H locs ls hP hS hl))
theorem r_imul (B : Bx l G X cc nL own rm0 ret0) {x y : Int} (hdg : decode cc pc = .ok (.imul, 1)) (kk : WM G X k n Q M (pc + 1) lv (.int (iI (x * y)) :: st)) : WM G X k n Q M pc lv (.int (iI y) :: .int (iI x) :: st) :=
  fun H locs ls hP hS hl => lv_imul B.1.1 B.1.2.1 hdg (by rw [iI_mul]; exact (kk H locs ls hP hS hl))
theorem r_lmul (B : Bx l G X cc nL own rm0 ret0) {x y : Int} (hdg : decode cc pc = .ok (.lmul, 1)) (kk : WM G X k n Q M (pc + 1) lv (.long (lI (x * y)) :: st)) : WM G X k n Q M pc lv (.long (lI y) :: .long (lI x) :: st) :=
  fun H locs ls hP hS hl => lv_lmul B.1.1 B.1.2.1 hdg (by rw [lI_mul]; exact (kk H locs ls hP hS hl))
theorem r_ineg (B : Bx l G X cc nL own rm0 ret0) {x : Int} (hdg : decode cc pc = .ok (.ineg, 1)) (kk : WM G X k n Q M (pc + 1) lv (.int (iI (-x)) :: st)) : WM G X k n Q M pc lv (.int (iI x) :: st) :=
  fun H locs ls hP hS hl => lv_ineg B.1.1 B.1.2.1 hdg (by rw [iI_neg]; exact (kk H locs ls hP hS hl))
theorem r_lneg (B : Bx l G X cc nL own rm0 ret0) {x : Int} (hdg : decode cc pc = .ok (.lneg, 1)) (kk : WM G X k n Q M (pc + 1) lv (.long (lI (-x)) :: st)) : WM G X k n Q M pc lv (.long (lI x) :: st) :=
  fun H locs ls hP hS hl => lv_lneg B.1.1 B.1.2.1 hdg (by rw [lI_neg]; exact (kk H locs ls hP hS hl))
theorem r_idiv (B : Bx l G X cc nL own rm0 ret0) {x y : Int} (hdg : decode cc pc = .ok (.idiv, 1)) (hx : In32 x) (hy : In32 y) (hne : y ≠ 0) (kk : WM G X k n Q M (pc + 1) lv (.int (iI (x.tdiv y)) :: st)) : WM G X k n Q M pc lv (.int (iI y) :: .int (iI x) :: st) :=
  fun H locs ls hP hS hl => lv_idiv B.1.1 B.1.2.1 hdg (fun q => hne ((iI_inj hy ⟨by omega, by omega⟩).mp q)) (by rw [iI_div hx hy]; exact (kk H locs ls hP hS hl))
theorem r_ldiv (B : Bx l G X cc nL own rm0 ret0) {x y : Int} (hdg : decode cc pc = .ok (.ldiv, 1)) (hx : In64 x) (hy : In64 y) (hne : y ≠ 0) (kk : WM G X k n Q M (pc + 1) lv (.long (lI (x.tdiv y)) :: st)) : WM G X k n Q M pc lv (.long (lI y) :: .long (lI x) :: st) :=
  fun H locs ls hP hS hl => lv_ldiv B.1.1 B.1.2.1 hdg (fun q => hne ((lI_inj hy ⟨by omega, by omega⟩).mp q)) (by rw [lI_div hx hy]; exact (kk H locs ls hP hS hl))
theorem r_irem (B : Bx l G X cc nL own rm0 ret0) {x y : Int} (hdg : decode cc pc = .ok (.irem, 1)) (hx : In32 x) (hy : In32 y) (hne : y ≠ 0) (kk : WM G X k n Q M (pc + 1) lv (.int (iI (x.tmod y)) :: st)) : WM G X k n Q M pc lv (.int (iI y) :: .int (iI x) :: st) :=
  fun H locs ls hP hS hl => lv_irem B.1.1 B.1.2.1 hdg (fun q => hne ((iI_inj hy ⟨by omega, by omega⟩).mp q)) (by rw [iI_rem hx hy]; exact (kk H locs ls hP hS hl))
theorem r_lrem (B : Bx l G X cc nL own rm0 ret0) {x y : Int} (hdg : decode cc pc = .ok (.lrem, 1)) (hx : In64 x) (hy : In64 y) (hne : y ≠ 0) (kk : WM G X k n Q M (pc + 1) lv (.long (lI (x.tmod y)) :: st)) : WM G X k n Q M pc lv (.long (lI y) :: .long (lI x) :: st) :=
  fun H locs ls hP hS hl => lv_lrem B.1.1 B.1.2.1 hdg (fun q => hne ((lI_inj hy ⟨by omega, by omega⟩).mp q)) (by rw [lI_rem hx hy]; exact (kk H locs ls hP hS hl))
theorem r_i2l (B : Bx l G X cc nL own rm0 ret0) {x : Int} (hdg : decode cc pc = .ok (.i2l, 1)) (hx : In32 x) (kk : WM G X k n Q M (pc + 1) lv (.long (lI x) :: st)) : WM G X k n Q M pc lv (.int (iI x) :: st) :=
  fun H locs ls hP hS hl => lv_i2l B.1.1 B.1.2.1 hdg (iI_i2l hx) (kk H locs ls hP hS hl)
theorem r_l2i (B : Bx l G X cc nL own rm0 ret0) {x : Int} (hdg : decode cc pc = .ok (.l2i, 1)) (kk : WM G X k n Q M (pc + 1) lv (.int (iI x) :: st)) : WM G X k n Q M pc lv (.long (lI x) :: st) :=
  fun H locs ls hP hS hl => lv_l2i B.1.1 B.1.2.1 hdg (lI_l2i x) (kk H locs ls hP hS hl)
theorem r_dup (B : Bx l G X cc nL own rm0 ret0) {v : Value} (hdg : decode cc pc = .ok (.dup, 1)) (hv : v.category = 1) (kk : WM G X k n Q M (pc + 1) lv (v :: v :: st)) : WM G X k n Q M pc lv (v :: st) :=
  fun H locs ls hP hS hl => lv_dup B.1.1 B.1.2.1 hdg hv (kk H locs ls hP hS hl)
theorem r_pop (B : Bx l G X cc nL own rm0 ret0) {v : Value} (hdg : decode cc pc = .ok (.pop, 1)) (hv : v.category = 1) (kk : WM G X k n Q M (pc + 1) lv (st)) : WM G X k n Q M pc lv (v :: st) :=
  fun H locs ls hP hS hl => lv_pop B.1.1 B.1.2.1 hdg hv (kk H locs ls hP hS hl)
theorem r_dup2 (B : Bx l G X cc nL own rm0 ret0) {u v : Value} (hdg : decode cc pc = .ok (.dup2, 1)) (hv : v.category = 1) (hu : u.category = 1) (kk : WM G X k n Q M (pc + 1) lv (v :: u :: v :: u :: st)) : WM G X k n Q M pc lv (v :: u :: st) :=
  fun H locs ls hP hS hl => lv_dup2_11 B.1.1 B.1.2.1 hdg hv hu (kk H locs ls hP hS hl)
theorem r_goto (B : Bx l G X cc nL own rm0 ret0) {off : Int} {tgt : Nat} (hdg : decode cc pc = .ok (.goto off, 3)) (ht : (pc : Int) + off = (tgt : Int)) (kk : WM G X k n Q M tgt lv st) : WM G X k n Q M pc lv st :=
  fun H locs ls hP hS hl => lv_goto B.1.1 B.1.2.1 hdg ht (kk H locs ls hP hS hl)
theorem r_if_eq (B : Bx l G X cc nL own rm0 ret0) {x : Int} {off : Int} {tgt : Nat} (hdg : decode cc pc = .ok (.ifCond .eq off, 3)) (ht : (pc : Int) + off = (tgt : Int)) (hx : In32 x) (kt : x = 0 → WM G X k n Q M tgt lv st) (kf : ¬ (x = 0) → WM G X k n Q M (pc + 3) lv st) : WM G X k n Q M pc lv (.int (iI x) :: st) := by
  have e := ((iI_inj hx in32_0 : iI x = iI 0 ↔ x = 0))
  exact fun H locs ls hP hS hl => lv_if_eq B.1.1 B.1.2.1 hdg ht (fun h => (kt (e.mp h)) H locs ls hP hS hl) (fun h => (kf (fun q => h (e.mpr q))) H locs ls hP hS hl)
theorem r_icmp_eq (B : Bx l G X cc nL own rm0 ret0) {x y : Int} {off : Int} {tgt : Nat} (hdg : decode cc pc = .ok (.if_icmp .eq off, 3)) (ht : (pc : Int) + off = (tgt : Int)) (hx : In32 x) (hy : In32 y) (kt : x = y → WM G X k n Q M tgt lv st) (kf : ¬ (x = y) → WM G X k n Q M (pc + 3) lv st) : WM G X k n Q M pc lv (.int (iI y) :: .int (iI x) :: st) := by
  have e := ((iI_inj hx hy))
  exact fun H locs ls hP hS hl => lv_icmp_eq B.1.1 B.1.2.1 hdg ht (fun h => (kt (e.mp h)) H locs ls hP hS hl) (fun h => (kf (fun q => h (e.mpr q))) H locs ls hP hS hl)
theorem r_lcmp_eq (B : Bx l G X cc nL own rm0 ret0) {x y : Int} {off : Int} {tgt : Nat} (hdg : decode cc pc = .ok (.lcmp, 1)) (hdg2 : decode cc (pc + 1) = .ok (.ifCond .eq off, 3)) (ht : ((pc + 1 : Nat) : Int) + off = (tgt : Int)) (hx : In64 x) (hy : In64 y) (kt : x = y → WM G X k n Q M tgt lv st) (kf : ¬ (x = y) → WM G X k n Q M (pc + 4) lv st) : WM G X k n Q M pc lv (.long (lI y) :: .long (lI x) :: st) :=
  fun H locs ls hP hS hl => W.lcmp B.1.1 B.1.2.1 hdg (by
    rw [lg_cmpI hx hy]
    exact r_if_eq B hdg2 ht (cmpI_in x y) (fun h => kt ((cmpI_eq x y).mp h)) (fun h => kf (fun q => h ((cmpI_eq x y).mpr q))) H locs ls hP hS hl)
theorem r_if_ne (B : Bx l G X cc nL own rm0 ret0) {x : Int} {off : Int} {tgt : Nat} (hdg : decode cc pc = .ok (.ifCond .ne off, 3)) (ht : (pc : Int) + off = (tgt : Int)) (hx : In32 x) (kt : ¬ x = 0 → WM G X k n Q M tgt lv st) (kf : x = 0 → WM G X k n Q M (pc + 3) lv st) : WM G X k n Q M pc lv (.int (iI x) :: st) := by
  have e := ((iI_inj hx in32_0 : iI x = iI 0 ↔ x = 0))
  exact fun H locs ls hP hS hl => lv_if_ne B.1.1 B.1.2.1 hdg ht (fun h => (kt (fun q => h (e.mpr q))) H locs ls hP hS hl) (fun h => (kf (e.mp h)) H locs ls hP hS hl)
theorem r_icmp_ne (B : Bx l G X cc nL own rm0 ret0) {x y : Int} {off : Int} {tgt : Nat} (hdg : decode cc pc = .ok (.if_icmp .ne off, 3)) (ht : (pc : Int) + off = (tgt : Int)) (hx : In32 x) (hy : In32 y) (kt : ¬ x = y → WM G X k n Q M tgt lv st) (kf : x = y → WM G X k n Q M (pc + 3) lv st) : WM G X k n Q M pc lv (.int (iI y) :: .int (iI x) :: st) := by
  have e := ((iI_inj hx hy))
  exact fun H locs ls hP hS hl => lv_icmp_ne B.1.1 B.1.2.1 hdg ht (fun h => (kt (fun q => h (e.mpr q))) H locs ls hP hS hl) (fun h => (kf (e.mp h)) H locs ls hP hS hl)
theorem r_lcmp_ne (B : Bx l G X cc nL own rm0 ret0) {x y : Int} {off : Int} {tgt : Nat} (hdg : decode cc pc = .ok (.lcmp, 1)) (hdg2 : decode cc (pc + 1) = .ok (.ifCond .ne off, 3)) (ht : ((pc + 1 : Nat) : Int) + off = (tgt : Int)) (hx : In64 x) (hy : In64 y) (kt : ¬ x = y → WM G X k n Q M tgt lv st) (kf : x = y → WM G X k n Q M (pc + 4) lv st) : WM G X k n Q M pc lv (.long (lI y) :: .long (lI x) :: st) :=
  fun H locs ls hP hS hl => W.lcmp B.1.1 B.1.2.1 hdg (by
    rw [lg_cmpI hx hy]
    exact r_if_ne B hdg2 ht (cmpI_in x y) (fun h => kt (fun q => h ((cmpI_eq x y).mpr q))) (fun h => kf ((cmpI_eq x y).mp h)) H locs ls hP hS hl)
theorem r_if_lt (B : Bx l G X cc nL own rm0 ret0) {x : Int} {off : Int} {tgt : Nat} (hdg : decode cc pc = .ok (.ifCond .lt off, 3)) (ht : (pc : Int) + off = (tgt : Int)) (hx : In32 x) (kt : x < 0 → WM G X k n Q M tgt lv st) (kf : ¬ (x < 0) → WM G X k n Q M (pc + 3) lv st) : WM G X k n Q M pc lv (.int (iI x) :: st) := by
  have e := ((iI_lt hx in32_0 : iI x < iI 0 ↔ x < 0))
  exact fun H locs ls hP hS hl => lv_if_lt B.1.1 B.1.2.1 hdg ht (fun h => (kt (e.mp h)) H locs ls hP hS hl) (fun h => (kf (fun q => h (e.mpr q))) H locs ls hP hS hl)
theorem r_icmp_lt (B : Bx l G X cc nL own rm0 ret0) {x y : Int} {off : Int} {tgt : Nat} (hdg : decode cc pc = .ok (.if_icmp .lt off, 3)) (ht : (pc : Int) + off = (tgt : Int)) (hx : In32 x) (hy : In32 y) (kt : x < y → WM G X k n Q M tgt lv st) (kf : ¬ (x < y) → WM G X k n Q M (pc + 3) lv st) : WM G X k n Q M pc lv (.int (iI y) :: .int (iI x) :: st) := by
  have e := ((iI_lt hx hy))
  exact fun H locs ls hP hS hl => lv_icmp_lt B.1.1 B.1.2.1 hdg ht (fun h => (kt (e.mp h)) H locs ls hP hS hl) (fun h => (kf (fun q => h (e.mpr q))) H locs ls hP hS hl)
theorem r_lcmp_lt (B : Bx l G X cc nL own rm0 ret0) {x y : Int} {off : Int} {tgt : Nat} (hdg : decode cc pc = .ok (.lcmp, 1)) (hdg2 : decode cc (pc + 1) = .ok (.ifCond .lt off, 3)) (ht : ((pc + 1 : Nat) : Int) + off = (tgt : Int)) (hx : In64 x) (hy : In64 y) (kt : x < y → WM G X k n Q M tgt lv st) (kf : ¬ (x < y) → WM G X k n Q M (pc + 4) lv st) : WM G X k n Q M pc lv (.long (lI y) :: .long (lI x) :: st) :=
  fun H locs ls hP hS hl => W.lcmp B.1.1 B.1.2.1 hdg (by
    rw [lg_cmpI hx hy]
    exact r_if_lt B hdg2 ht (cmpI_in x y) (fun h => kt ((cmpI_lt x y).mp h)) (fun h => kf (fun q => h ((cmpI_lt x y).mpr q))) H locs ls hP hS hl)
theorem r_if_ge (B : Bx l G X cc nL own rm0 ret0) {x : Int} {off : Int} {tgt : Nat} (hdg : decode cc pc = .ok (.ifCond .ge off, 3)) (ht : (pc : Int) + off = (tgt : Int)) (hx : In32 x) (kt : 0 ≤ x → WM G X k n Q M tgt lv st) (kf : ¬ (0 ≤ x) → WM G X k n Q M (pc + 3) lv st) : WM G X k n Q M pc lv (.int (iI x) :: st) := by
  have e := ((iI_le in32_0 hx : iI 0 ≤ iI x ↔ 0 ≤ x))
  exact fun H locs ls hP hS hl => lv_if_ge B.1.1 B.1.2.1 hdg ht (fun h => (kt (e.mp h)) H locs ls hP hS hl) (fun h => (kf (fun q => h (e.mpr q))) H locs ls hP hS hl)
theorem r_icmp_ge (B : Bx l G X cc nL own rm0 ret0) {x y : Int} {off : Int} {tgt : Nat} (hdg : decode cc pc = .ok (.if_icmp .ge off, 3)) (ht : (pc : Int) + off = (tgt : Int)) (hx : In32 x) (hy : In32 y) (kt : y ≤ x → WM G X k n Q M tgt lv st) (kf : ¬ (y ≤ x) → WM G X k n Q M (pc + 3) lv st) : WM G X k n Q M pc lv (.int (iI y) :: .int (iI x) :: st) := by
  have e := ((iI_le hy hx))
  exact fun H locs ls hP hS hl => lv_icmp_ge B.1.1 B.1.2.1 hdg ht (fun h => (kt (e.mp h)) H locs ls hP hS hl) (fun h => (kf (fun q => h (e.mpr q))) H locs ls hP hS hl)
theorem r_lcmp_ge (B : Bx l G X cc nL own rm0 ret0) {x y : Int} {off : Int} {tgt : Nat} (hdg : decode cc pc = .ok (.lcmp, 1)) (hdg2 : decode cc (pc + 1) = .ok (.ifCond .ge off, 3)) (ht : ((pc + 1 : Nat) : Int) + off = (tgt : Int)) (hx : In64 x) (hy : In64 y) (kt : y ≤ x → WM G X k n Q M tgt lv st) (kf : ¬ (y ≤ x) → WM G X k n Q M (pc + 4) lv st) : WM G X k n Q M pc lv (.long (lI y) :: .long (lI x) :: st) :=
  fun H locs ls hP hS hl => W.lcmp B.1.1 B.1.2.1 hdg (by
    rw [lg_cmpI hx hy]
    exact r_if_ge B hdg2 ht (cmpI_in x y) (fun h => kt ((cmpI_ge x y).mp h)) (fun h => kf (fun q => h ((cmpI_ge x y).mpr q))) H locs ls hP hS hl)
theorem r_if_gt (B : Bx l G X cc nL own rm0 ret0) {x : Int} {off : Int} {tgt : Nat} (hdg : decode cc pc = .ok (.ifCond .gt off, 3)) (ht : (pc : Int) + off = (tgt : Int)) (hx : In32 x) (kt : 0 < x → WM G X k n Q M tgt lv st) (kf : ¬ (0 < x) → WM G X k n Q M (pc + 3) lv st) : WM G X k n Q M pc lv (.int (iI x) :: st) := by
  have e := ((iI_lt in32_0 hx : iI 0 < iI x ↔ 0 < x))
  exact fun H locs ls hP hS hl => lv_if_gt B.1.1 B.1.2.1 hdg ht (fun h => (kt (e.mp h)) H locs ls hP hS hl) (fun h => (kf (fun q => h (e.mpr q))) H locs ls hP hS hl)
theorem r_icmp_gt (B : Bx l G X cc nL own rm0 ret0) {x y : Int} {off : Int} {tgt : Nat} (hdg : decode cc pc = .ok (.if_icmp .gt off, 3)) (ht : (pc : Int) + off = (tgt : Int)) (hx : In32 x) (hy : In32 y) (kt : y < x → WM G X k n Q M tgt lv st) (kf : ¬ (y < x) → WM G X k n Q M (pc + 3) lv st) : WM G X k n Q M pc lv (.int (iI y) :: .int (iI x) :: st) := by
  have e := ((iI_lt hy hx))
  exact fun H locs ls hP hS hl => lv_icmp_gt B.1.1 B.1.2.1 hdg ht (fun h => (kt (e.mp h)) H locs ls hP hS hl) (fun h => (kf (fun q => h (e.mpr q))) H locs ls hP hS hl)
theorem r_lcmp_gt (B : Bx l G X cc nL own rm0 ret0) {x y : Int} {off : Int} {tgt : Nat} (hdg : decode cc pc = .ok (.lcmp, 1)) (hdg2 : decode cc (pc + 1) = .ok (.ifCond .gt off, 3)) (ht : ((pc + 1 : Nat) : Int) + off = (tgt : Int)) (hx : In64 x) (hy : In64 y) (kt : y < x → WM G X k n Q M tgt lv st) (kf : ¬ (y < x) → WM G X k n Q M (pc + 4) lv st) : WM G X k n Q M pc lv (.long (lI y) :: .long (lI x) :: st) :=
  fun H locs ls hP hS hl => W.lcmp B.1.1 B.1.2.1 hdg (by
    rw [lg_cmpI hx hy]
    exact r_if_gt B hdg2 ht (cmpI_in x y) (fun h => kt ((cmpI_gt x y).mp h)) (fun h => kf (fun q => h ((cmpI_gt x y).mpr q))) H locs ls hP hS hl)
theorem r_if_le (B : Bx l G X cc nL own rm0 ret0) {x : Int} {off : Int} {tgt : Nat} (hdg : decode cc pc = .ok (.ifCond .le off, 3)) (ht : (pc : Int) + off = (tgt : Int)) (hx : In32 x) (kt : x ≤ 0 → WM G X k n Q M tgt lv st) (kf : ¬ (x ≤ 0) → WM G X k n Q M (pc + 3) lv st) : WM G X k n Q M pc lv (.int (iI x) :: st) := by
  have e := ((iI_le hx in32_0 : iI x ≤ iI 0 ↔ x ≤ 0))
  exact fun H locs ls hP hS hl => lv_if_le B.1.1 B.1.2.1 hdg ht (fun h => (kt (e.mp h)) H locs ls hP hS hl) (fun h => (kf (fun q => h (e.mpr q))) H locs ls hP hS hl)
theorem r_icmp_le (B : Bx l G X cc nL own rm0 ret0) {x y : Int} {off : Int} {tgt : Nat} (hdg : decode cc pc = .ok (.if_icmp .le off, 3)) (ht : (pc : Int) + off = (tgt : Int)) (hx : In32 x) (hy : In32 y) (kt : x ≤ y → WM G X k n Q M tgt lv st) (kf : ¬ (x ≤ y) → WM G X k n Q M (pc + 3) lv st) : WM G X k n Q M pc lv (.int (iI y) :: .int (iI x) :: st) := by
  have e := ((iI_le hx hy))
  exact fun H locs ls hP hS hl => lv_icmp_le B.1.1 B.1.2.1 hdg ht (fun h => (kt (e.mp h)) H locs ls hP hS hl) (fun h => (kf (fun q => h (e.mpr q))) H locs ls hP hS hl)
theorem r_lcmp_le (B : Bx l G X cc nL own rm0 ret0) {x y : Int} {off : Int} {tgt : Nat} (hdg : decode cc pc = .ok (.lcmp, 1)) (hdg2 : decode cc (pc + 1) = .ok (.ifCond .le off, 3)) (ht : ((pc + 1 : Nat) : Int) + off = (tgt : Int)) (hx : In64 x) (hy : In64 y) (kt : x ≤ y → WM G X k n Q M tgt lv st) (kf : ¬ (x ≤ y) → WM G X k n Q M (pc + 4) lv st) : WM G X k n Q M pc lv (.long (lI y) :: .long (lI x) :: st) :=
  fun H locs ls hP hS hl => W.lcmp B.1.1 B.1.2.1 hdg (by
    rw [lg_cmpI hx hy]
    exact r_if_le B hdg2 ht (cmpI_in x y) (fun h => kt ((cmpI_le x y).mp h)) (fun h => kf (fun q => h ((cmpI_le x y).mpr q))) H locs ls hP hS hl)
end R
