/-! constructors: the cells behind N, laid one by one -/
def LW (N n : Nat) (f : Nat → va_E) : va_W := (List.range n).map (fun d => (N + d, f d))
theorem LW_at {N n d : Nat} {f : Nat → va_E} (h : d < n) : (LW N n f)[d]? = some (N + d, f d) := by
  unfold LW
  rw [List.getElem?_map, List.getElem?_range h]
  rfl
theorem LW_in {N n k : Nat} {f : Nat → va_E} {q : Nat × va_E} (h : (LW N n f)[k]? = some q) : k < n ∧ q = (N + k, f k) := by
  by_cases hk : k < n
  · rw [LW_at hk] at h
    cases h
    exact ⟨hk, rfl⟩
  · unfold LW at h
    rw [List.getElem?_map, List.getElem?_eq_none (by rw [List.length_range]; omega)] at h
    cases h
theorem LW_D {G : Gs} {n : Nat} {f : Nat → va_E} : va_D (Fr G) (LW G.1 n f) := by
  refine ⟨fun i j p q h1 h2 h3 => ?_, fun k q h => ?_⟩
  · rw [(LW_in h1).2, (LW_in h2).2] at h3
    have h4 : G.1 + i = G.1 + j := h3
    omega
  · show G.1 ≤ q.1
    rw [(LW_in h).2]
    exact Nat.le_add_right _ _
def upE (f : Nat → va_E) (d : Nat) (e : va_E) : Nat → va_E := fun j => if j = d then e else f j
theorem upE_eq {f : Nat → va_E} {d : Nat} {e : va_E} : upE f d e d = e := if_pos rfl
theorem upE_ne {f : Nat → va_E} {d j : Nat} {e : va_E} (h : j ≠ d) : upE f d e j = f j := if_neg h
/-- the heap ends with n cells behind N, those of f -/
def HW (G : Gs) (n : Nat) (f : Nat → va_E) (H : Heap) : Prop := va_P G.2.1 vwCl (LW G.1 n f) H ∧ H.size = G.1 + n
theorem HW.get {G : Gs} {n d : Nat} {f : Nat → va_E} {H : Heap} (h : HW G n f H) (hd : d < n) : va_at G.2.1 vwCl (G.1 + d, f d) H := h.1 d _ (LW_at hd)
theorem HW.of {G : Gs} {n : Nat} {f : Nat → va_E} {H : Heap} (h : ∀ d, d < n → va_at G.2.1 vwCl (G.1 + d, f d) H) (hs : H.size = G.1 + n) : HW G n f H := ⟨fun k q hk => by rw [(LW_in hk).2]; exact h k (LW_in hk).1, hs⟩
theorem HW.congr {G : Gs} {n : Nat} {f f' : Nat → va_E} {H : Heap} (h : HW G n f H) (hf : ∀ d, d < n → f' d = f d) : HW G n f' H := HW.of (fun d hd => by rw [hf d hd]; exact h.get hd) h.2
theorem HW.push {G : Gs} {n : Nat} {f : Nat → va_E} {e : va_E} {H H1 : Heap} (h : HW G n f H) (hk : ∀ q : Nat, q < G.1 + n → H1[q]? = H[q]?) (hs : H1.size = G.1 + n + 1) (he : va_at G.2.1 vwCl (G.1 + n, e) H1) : HW G (n + 1) (upE f n e) H1 :=
  HW.of (fun d hd => by
    by_cases w : d = n
    · rw [w, upE_eq]; exact he
    · rw [upE_ne w]; exact (h.get (by omega)).kept (hk (G.1 + d) (by omega))) (by rw [hs]; omega)
theorem HW.put {G : Gs} {n d : Nat} {f : Nat → va_E} {e : va_E} {H H1 : Heap} (h : HW G n f H) (hd : d < n) (he : va_at G.2.1 vwCl (G.1 + d, e) H1) (oq : ∀ q : Nat, q ≠ G.1 + d → H1[q]? = H[q]?) (hs : H1.size = H.size) : HW G n (upE f d e) H1 :=
  HW.of (fun j hj => by
    by_cases w : j = d
    · rw [w, upE_eq]; exact he
    · rw [upE_ne w]; exact (h.get hj).kept (oq (G.1 + j) (by omega))) (by rw [hs]; exact h.2)
theorem HW.S {G : Gs} {n : Nat} {f : Nat → va_E} {H H0 H1 : Heap} {locs : List Loc} (h : HW G n f H) (hS : va_S (Fr G) H0 H locs) (hk : ∀ q : Nat, q < G.1 + n → H1[q]? = H[q]?) (hs : G.1 + n ≤ H1.size) : va_S (Fr G) H0 H1 locs := by
  have h2 := h.2
  have h3 := hS.1
  exact ⟨by omega, fun x h1 h4 => (hk x (by omega)).trans (hS.2.1 x h1 h4), hS.2.2⟩
/-- the words on arrays that only the constructors use -/
def va_AB (U : State) : Prop := (Cond.arrayOver (.array .int)).before #[] U = true
theorem va_AB.use {A : Array Value} {U : State} (h : va_AB U) : (Cond.arrayOver (.array .int)).before A U = true := h
theorem va_AB.moved {u U : State} (hvm : u.vm.Alike U.vm) (h : va_AB u) : va_AB U := by
  obtain ⟨comp, c, k, h1, h2, h3, h4, h5⟩ := arrayOverA_spec h
  obtain ⟨k', hk', he⟩ := hvm.2.2 _ _ h3
  have hi : (U.vm.classes.findIdx? fun (x : Class) => match x.kind with | .array component _ => component == comp | _ => false) = some c := by
    have e1 := va_idx_bare U.vm comp
    have e2 := va_idx_bare u.vm comp
    have hb : U.vm.bare = u.vm.bare := by first | exact hvm.bare_eq | exact hvm.bare_eq.symm
    rw [hb] at e1
    exact (e1.symm.trans e2).trans h2
  have hkind : k'.kind = .array comp (.array .int) := by rw [he]; exact h4
  have f1 : U.vm.findClass (FieldType.array .int).toString = some comp := by rw [hvm.findClass]; exact h1
  have f2 : U.vm.findClass ("[" ++ (FieldType.array .int).toString) = some c := by rw [hvm.findClass]; exact h5
  unfold va_AB Cond.before Cond.holds
  simp only [Cond.value]
  rw [f1, Option.bind_some]
  refine (congrArg (fun o : Option Nat => (o.bind (fun c => (U.vm.classes[c]?).map fun (k : Class) => match k.kind with | .array _ ty => decide (ty = FieldType.array .int) && decide (U.vm.findClass ("[" ++ (FieldType.array .int).toString) = some c) | _ => false) == some true)) hi).trans ?_
  simp [hk', hkind, f2]
def Oa (U : State) : Prop := va_AO RX0 U ∧ va_AO RX1 U ∧ va_AO RX3 U ∧ va_AB U
theorem Oa.moved {u U : State} (hvm : u.vm.Alike U.vm) (h : Oa u) : Oa U := ⟨va_AO.moved hvm h.1, va_AO.moved hvm h.2.1, va_AO.moved hvm h.2.2.1, va_AB.moved hvm h.2.2.2⟩
def Be (l : Launch) (G : Gs) (X : Cx) (cc : ByteArray) (nL : Nat) (own : String) (rm : Room) (ret : Option FieldType) : Prop := Bx l G X cc nL own rm ret ∧ Oa X.2.2.2.2.1 ∧ G.1 ≤ X.2.2.2.2.1.heap.size
/-- the machine goes on over the cells of f -/
def WE (G : Gs) (X : Cx) (k n : Nat) (Q : State → Prop) (d : Nat) (f : Nat → va_E) (pc : Nat) (lv : List (Nat × Value)) (st : List Value) : Prop :=
  ∀ (H : Heap) (locs : List Loc) (ls : Array Slot), HW G d f H → va_S (Fr G) X.2.2.2.2.1.heap H locs → lv_has ls X.2.2.2.2.2.2.2.2.2.maxLocals lv →
    W X.1 X.2.1 X.2.2.1 X.2.2.2.1 X.2.2.2.2.1 X.2.2.2.2.2.1 X.2.2.2.2.2.2.1 X.2.2.2.2.2.2.2.1 X.2.2.2.2.2.2.2.2.1 X.2.2.2.2.2.2.2.2.2 H locs k n Q (F0 X.2.2.2.2.2.1 pc ls st)
def PreE (G : Gs) (d : Nat) (f : Nat → va_E) (av : List Value) : Array Value → State → Prop := va_Pc av (fun U => HW G d f U.heap ∧ St G U ∧ Zs G U U.heap ∧ Oa U)
def QE (G : Gs) (d : Nat) (f : Nat → va_E) : Array Value → State → Outcome → State → Prop := va_Qv (fun _ : Unit => True) (fun _ t => HW G d f t.heap) (Fr G)
/-- a constructor's contract: of d cells it makes d' -/
def CtE (l : Launch) (G : Gs) (y : MethodName) (cc : ByteArray) (nL : Nat) (rm : Room) (av : List Value) (d : Nat) (f : Nat → va_E) (d' : Nat) (f' : Nat → va_E) (z w : Nat) : Prop :=
  Met l y (.code y cc nL none :: tG) rm (PreE G d f av) (QE G d' f') z w (Fr G)
theorem PreE.blind (G : Gs) (d : Nat) (f : Nat → va_E) (av : List Value) : FrameBlind (PreE G d f av) := fun a U g mk q => by
  obtain ⟨q0, qP, ⟨qK, qN⟩, qZ, qO⟩ := q
  exact ⟨q0, qP, ⟨va_K.moved (u := U) (U := U.calling g mk a) (Vm.Alike.refl U.vm) qK, Ng.same (s := U) (U := U.calling g mk a) rfl qN⟩, Zs.moved (u := U) (U := U.calling g mk a) (Vm.Alike.refl U.vm) qZ, Oa.moved (u := U) (U := U.calling g mk a) (Vm.Alike.refl U.vm) qO⟩
theorem CtE.of {l : Launch} {G : Gs} {y : MethodName} {cc : ByteArray} {nL : Nat} {rm : Room} {av : List Value} {d d' : Nat} {f f' : Nat → va_E} {z w : Nat} (hy : plainFor y = true) (hi : y.name = "<init>") (hn : (lg_sl av).length ≤ nL) (lv : List (Nat × Value)) (hlv : lv_args 0 av = lv)
    (body : ∀ X : Cx, Be l G X cc nL y.cls rm none → X.2.2.2.2.2.2.2.2.1.name = "<init>" → WE G X 0 0 (bM X (QE G d' f') z w G) d f 0 lv []) : CtE l G y cc nL rm av d f d' f' z w := by
  refine Met.ofWF (cc := cc) (maxL := nL) (ret := none) hy rfl ?_
  intro p e s m args below meth c s₁ B hml hv
  obtain ⟨rfl, hP, hSt, hZ, hO⟩ := hv
  have hts := atoms_spec (ws := .code y cc nL none :: tG) B.pre
  have hown : s.vm.findClass y.cls = some m.cls := findClass_of_methodNamed B.named
  have hl := lv_entry av (n := nL) hn
  rw [hlv] at hl
  rw [lg_entry_eq]
  subst hml
  exact body (p, l, e, (headSpec (.code y cc c.maxLocals none :: tG) rm).room, s, m, av.toArray, below, meth, c) ⟨⟨⟨B.exec, B.bytes, rfl, hown, fun w hw => hts w (List.mem_cons_of_mem _ hw)⟩, rfl, rfl, B.returns, B.notSynchronized, hSt, hZ⟩, hO, by rw [hP.2]; exact Nat.le_add_right _ _⟩ ((name_of_methodNamed B.named B.method).1.trans hi) s.heap [] _ hP va_S.rf hl
section E
variable {l : Launch} {G : Gs} {X : Cx} {cc : ByteArray} {nL : Nat} {own : String} {rm0 : Room} {ret0 : Option FieldType} {k n : Nat} {Q : State → Prop} {d : Nat} {f : Nat → va_E} {pc : Nat} {lv : List (Nat × Value)} {st : List Value}
theorem WE.pick {lv' : List (Nat × Value)} (ks : List Nat) (hl : lv_pick lv ks = lv') (kk : WE G X k n Q d f pc lv' st) : WE G X k n Q d f pc lv st :=
  fun H locs ls hP hS h => kk H locs ls hP hS (lv_sub h ks hl)
theorem WE.congr {f' : Nat → va_E} (hf : ∀ j, j < d → f' j = f j) (kk : WE G X k n Q d f' pc lv st) : WE G X k n Q d f pc lv st :=
  fun H locs ls hP hS h => kk H locs ls (hP.congr hf) hS h
theorem WE.widen {k' n' : Nat} (h1 : k ≤ k') (h2 : n ≤ n') (kk : WE G X k' n' Q d f pc lv st) : WE G X k n Q d f pc lv st :=
  fun H locs ls hP hS h => W.widen h1 h2 (kk H locs ls hP hS h)
theorem e_iconst (B : Be l G X cc nL own rm0 ret0) {z : Int} (hdg : decode cc pc = .ok (.iconst z, 1)) (kk : WE G X k n Q d f (pc + 1) lv (.int (iI z) :: st)) : WE G X k n Q d f pc lv (st) :=
  fun H locs ls hP hS hl => lv_iconst B.1.1.1 B.1.1.2.1 hdg rfl (kk H locs ls hP hS hl)
theorem e_bipush (B : Be l G X cc nL own rm0 ret0) {z : Int} (hdg : decode cc pc = .ok (.bipush z, 2)) (hz : (Int8.ofInt z).toInt32 = iI z) (kk : WE G X k n Q d f (pc + 2) lv (.int (iI z) :: st)) : WE G X k n Q d f pc lv (st) :=
  fun H locs ls hP hS hl => lv_bipush B.1.1.1 B.1.1.2.1 hdg hz (kk H locs ls hP hS hl)
theorem e_sipush (B : Be l G X cc nL own rm0 ret0) {z : Int} (hdg : decode cc pc = .ok (.sipush z, 3)) (hz : (Int16.ofInt z).toInt32 = iI z) (kk : WE G X k n Q d f (pc + 3) lv (.int (iI z) :: st)) : WE G X k n Q d f pc lv (st) :=
  fun H locs ls hP hS hl => lv_sipush B.1.1.1 B.1.1.2.1 hdg hz (kk H locs ls hP hS hl)
theorem e_iload_n (B : Be l G X cc nL own rm0 ret0) {i : Fin 4} {x : Int} (j : Nat) (hdg : decode cc pc = .ok (.iload_n i, 1)) (hj : lv[j]? = some ((i : Nat), .int (iI x))) (kk : WE G X k n Q d f (pc + 1) lv (.int (iI x) :: st)) : WE G X k n Q d f pc lv (st) :=
  fun H locs ls hP hS hl => lv_iload_n B.1.1.1 B.1.1.2.1 hdg rfl (lv_at hl j hj) (kk H locs ls hP hS hl)
theorem e_istore_n (B : Be l G X cc nL own rm0 ret0) {i : Fin 4} {x : Int} {lv' : List (Nat × Value)} (hdg : decode cc pc = .ok (.istore_n i, 1)) (hn : (i : Nat) < nL) (he : ((i : Nat), .int (iI x)) :: lv.filter (fun q => !(q.1 == (i : Nat)) && !(q.1 + 1 == (i : Nat) && q.2.category == 2)) = lv') (kk : WE G X k n Q d f (pc + 1) lv' st) : WE G X k n Q d f pc lv (.int (iI x) :: st) :=
  fun H locs ls hP hS hl => lv_istore_n B.1.1.1 B.1.1.2.1 hdg rfl hl (by rw [B.1.1.2.2.1]; exact hn) he (fun ls' hl' => kk H locs ls' hP hS hl')
theorem e_istore (B : Be l G X cc nL own rm0 ret0) {i : Nat} {x : Int} {lv' : List (Nat × Value)} (hdg : decode cc pc = .ok (.istore i, 2)) (hn : i < nL) (he : (i, .int (iI x)) :: lv.filter (fun q => !(q.1 == i) && !(q.1 + 1 == i && q.2.category == 2)) = lv') (kk : WE G X k n Q d f (pc + 2) lv' st) : WE G X k n Q d f pc lv (.int (iI x) :: st) :=
  fun H locs ls hP hS hl => lv_istore B.1.1.1 B.1.1.2.1 hdg hl (by rw [B.1.1.2.2.1]; exact hn) he (fun ls' hl' => kk H locs ls' hP hS hl')
theorem e_aload_n (B : Be l G X cc nL own rm0 ret0) {i : Fin 4} {x : Nat} (j : Nat) (hdg : decode cc pc = .ok (.aload_n i, 1)) (hj : lv[j]? = some ((i : Nat), .ref x)) (kk : WE G X k n Q d f (pc + 1) lv (.ref x :: st)) : WE G X k n Q d f pc lv (st) :=
  fun H locs ls hP hS hl => lv_aload_n B.1.1.1 B.1.1.2.1 hdg rfl (lv_at hl j hj) (kk H locs ls hP hS hl)
theorem e_astore_n (B : Be l G X cc nL own rm0 ret0) {i : Fin 4} {x : Nat} {lv' : List (Nat × Value)} (hdg : decode cc pc = .ok (.astore_n i, 1)) (hn : (i : Nat) < nL) (he : ((i : Nat), .ref x) :: lv.filter (fun q => !(q.1 == (i : Nat)) && !(q.1 + 1 == (i : Nat) && q.2.category == 2)) = lv') (kk : WE G X k n Q d f (pc + 1) lv' st) : WE G X k n Q d f pc lv (.ref x :: st) :=
  fun H locs ls hP hS hl => lv_astore_n B.1.1.1 B.1.1.2.1 hdg rfl hl (by rw [B.1.1.2.2.1]; exact hn) he (fun ls' hl' => kk H locs ls' hP hS hl')
theorem e_astore (B : Be l G X cc nL own rm0 ret0) {i : Nat} {x : Nat} {lv' : List (Nat × Value)} (hdg : decode cc pc = .ok (.astore i, 2)) (hn : i < nL) (he : (i, .ref x) :: lv.filter (fun q => !(q.1 == i) && !(q.1 + 1 == i && q.2.category == 2)) = lv') (kk : WE G X k n Q d f (pc + 2) lv' st) : WE G X k n Q d f pc lv (.ref x :: st) :=
  fun H locs ls hP hS hl => lv_astore B.1.1.1 B.1.1.2.1 hdg hl (by rw [B.1.1.2.2.1]; exact hn) he (fun ls' hl' => kk H locs ls' hP hS hl')
theorem e_iinc (B : Be l G X cc nL own rm0 ret0) {i j : Nat} {z x : Int} {lv' : List (Nat × Value)} (hdg : decode cc pc = .ok (.iinc i z, 3)) (hj : lv[j]? = some (i, .int (iI x))) (hn : i < nL) (he : (i, Value.int (iI (x + z))) :: lv.filter (fun q => !(q.1 == i) && !(q.1 + 1 == i && q.2.category == 2)) = lv') (kk : WE G X k n Q d f (pc + 3) lv' st) : WE G X k n Q d f pc lv st :=
  fun H locs ls hP hS hl => lv_iinc B.1.1.1 B.1.1.2.1 hdg hl hj (iI_add x z) (by rw [B.1.1.2.2.1]; exact hn) he (fun ls' hl' => kk H locs ls' hP hS hl')
theorem e_dup (B : Be l G X cc nL own rm0 ret0) {v : Value} (hdg : decode cc pc = .ok (.dup, 1)) (hv : v.category = 1) (kk : WE G X k n Q d f (pc + 1) lv (v :: v :: st)) : WE G X k n Q d f pc lv (v :: st) :=
  fun H locs ls hP hS hl => lv_dup B.1.1.1 B.1.1.2.1 hdg hv (kk H locs ls hP hS hl)
theorem e_goto (B : Be l G X cc nL own rm0 ret0) {off : Int} {tgt : Nat} (hdg : decode cc pc = .ok (.goto off, 3)) (ht : (pc : Int) + off = (tgt : Int)) (kk : WE G X k n Q d f tgt lv st) : WE G X k n Q d f pc lv st :=
  fun H locs ls hP hS hl => lv_goto B.1.1.1 B.1.1.2.1 hdg ht (kk H locs ls hP hS hl)
theorem e_icmp_ge (B : Be l G X cc nL own rm0 ret0) {x y : Int} {off : Int} {tgt : Nat} (hdg : decode cc pc = .ok (.if_icmp .ge off, 3)) (ht : (pc : Int) + off = (tgt : Int)) (hx : In32 x) (hy : In32 y) (kt : y ≤ x → WE G X k n Q d f tgt lv st) (kf : ¬ (y ≤ x) → WE G X k n Q d f (pc + 3) lv st) : WE G X k n Q d f pc lv (.int (iI y) :: .int (iI x) :: st) := by
  have e := ((iI_le hy hx))
  exact fun H locs ls hP hS hl => lv_icmp_ge B.1.1.1 B.1.1.2.1 hdg ht (fun h => (kt (e.mp h)) H locs ls hP hS hl) (fun h => (kf (fun q => h (e.mpr q))) H locs ls hP hS hl)
theorem e_new (B : Be l G X cc nL own rm0 ret0) {ci N i : Nat} {C : String} {T : u_T} {fs : List Value} (ty : Nat → FieldType) (hc : vwCl[ci]? = some (C, T, N)) (hin : ∀ w ∈ u_ws C T N, w ∈ tG) (hty : ∀ k, k < N → parseFieldDescriptor (T k).2.2.1 = some (ty k)) (hfs : ∀ j, j < N → defaultValue (ty j) = vp_V fs j) (w1 : Cond.classLink own i C ∈ tG) (w2 : Cond.instantiable C N ∈ tG) (w3 : Cond.initialized C ∈ tG) (hR : k + 1 ≤ rm0.cells ∧ n + N ≤ rm0.slots) (hdg : decode cc pc = .ok (.new i, 3)) (kk : WE G X (k + 1) (n + N) Q (d + 1) (upE f d (.inr (ci, fs))) (pc + 3) lv (.ref (G.1 + d) :: st)) : WE G X k n Q d f pc lv st := by
  intro H locs ls hP hS hl
  have hKn := B.1.2.2.2.2.2.1.1.1 ci _ hc
  have hts := B.1.1.2.2.2.2
  refine W.newcK B.1.1.1 B.1.1.2.1 B.1.1.2.2.2.1 (hts _ w1) (hts _ w2) (hts _ w3) rfl hdg (by rw [B.1.2.2.1]; exact hR.1) (by rw [B.1.2.2.1]; exact hR.2) hKn.2.1 hP.2 fun H1 kC hkC e1 z1 o1 => ?_
  exact kk H1 locs ls (hP.push o1 z1 ⟨_, hc, (u_born ty hts hin hKn hkC e1 hty).to hfs⟩) (hP.S hS o1 (by omega)) hl
theorem e_newa (B : Be l G X cc nL own rm0 ret0) {atype : ArrayType} {ty : FieldType} {cA : ClassId} {N' : Nat} {z : Int} {a0 : vp_A} (hty : newarray.typeOf atype = ty) (hfc : ∀ U : State, St G U → U.vm.findClass ("[" ++ ty.toString) = some cA) (wa : Cond.arrayClass ty ∈ tG) (ha : vp_cell cA a0 = arrV cA N' (fun _ => defaultValue ty)) (hz : 0 ≤ z ∧ z ≤ 2147483647) (hN : z = (N' : Int)) (hb : N' * componentBytes ty ≤ 536870912) (hR : k + 1 ≤ rm0.cells ∧ n + N' ≤ rm0.slots) (hdg : decode cc pc = .ok (.newarray atype, 2)) (kk : WE G X (k + 1) (n + N') Q (d + 1) (upE f d (.inl (cA, a0))) (pc + 2) lv (.ref (G.1 + d) :: st)) : WE G X k n Q d f pc lv (.int (iI z) :: st) := by
  intro H locs ls hP hS hl
  subst hty
  have hz0 : ¬ (iI z) < 0 := fun q => by
    have h3 := (iI_lt (x := z) (y := 0) ⟨by omega, by omega⟩ ⟨by omega, by omega⟩).mp q
    omega
  have hn2 : (iI z).toNatClampNeg = N' := by have := iI_nat hz.1 hz.2; omega
  refine va_newaK (h := G.1 + d) B.1.1.1 B.1.1.2.1 (B.1.1.2.2.2.2 _ wa) rfl hdg rfl hz0 hn2 hb (by rw [B.1.2.2.1]; exact hR.1) (by rw [B.1.2.2.1]; exact hR.2) hP.2 fun H1 cA' e1 z1 o1 hAr hNm => ?_
  have e : cA' = cA := Option.some.inj (hNm.symm.trans (hfc _ B.1.2.2.2.2.2.1))
  subst e
  exact kk H1 locs ls (hP.push o1 z1 (by show H1[G.1 + d]? = some (vp_cell _ _); rw [ha]; exact e1)) (hP.S hS o1 (by omega)) hl
theorem e_newq (B : Be l G X cc nL own rm0 ret0) {C : String} {i t0 : Nat} {cA : ClassId} {N' : Nat} {z : Int} (ht : (tysE G.2.2)[t0]? = some (cA, .object C)) (hO : va_AO C X.2.2.2.2.1) (w1 : Cond.classLink own i C ∈ tG) (hz : 0 ≤ z ∧ z ≤ 2147483647) (hN : z = (N' : Int)) (hb : N' * 4 ≤ 536870912) (hR : k + 1 ≤ rm0.cells ∧ n + N' ≤ rm0.slots) (hdg : decode cc pc = .ok (.anewarray i, 3)) (kk : WE G X (k + 1) (n + N') Q (d + 1) (upE f d (.inl (cA, N', .inr (.inr (.inr (.inr (fun _ => none))))))) (pc + 3) lv (.ref (G.1 + d) :: st)) : WE G X k n Q d f pc lv (.int (iI z) :: st) := by
  intro H locs ls hP hS hl
  have hz0 : ¬ (iI z) < 0 := fun q => by
    have h3 := (iI_lt (x := z) (y := 0) ⟨by omega, by omega⟩ ⟨by omega, by omega⟩).mp q
    omega
  have hn2 : (iI z).toNatClampNeg = N' := by have := iI_nat hz.1 hz.2; omega
  subst hn2
  have h2 := hP.2
  refine W.anew B.1.1.1 B.1.1.2.1 B.1.1.2.2.2.1 (B.1.1.2.2.2.2 _ w1) (va_AO.use hO) rfl hdg rfl hz0 hb (by rw [B.1.2.2.1]; exact hR.1) (by rw [B.1.2.2.1]; exact hR.2) fun cA' kA comp f1 f2 f3 f4 => ?_
  obtain ⟨kA', comp', g1, g2, g3, g4⟩ := (B.1.2.2.2.2.2.1.1.2 t0 _ ht).2
  have e : cA' = cA := Option.some.inj (f1.symm.trans g4)
  subst e
  generalize hH1 : H.push ({ cls := cA', slots := Array.replicate (iI z).toNatClampNeg .null, vm := .none } : Cell) = H1
  have z1 : H1.size = G.1 + d + 1 := by rw [← hH1, Array.size_push, h2]
  have e1 : H1[G.1 + d]? = some (arrV cA' (iI z).toNatClampNeg (fun _ => .null)) := by rw [← hH1, ← h2, Array.getElem?_push_size, ← arrV_new]
  have o1 : ∀ q : Nat, q < G.1 + d → H1[q]? = H[q]? := fun q hq => by rw [← hH1, Array.getElem?_push, if_neg (by omega)]
  rw [h2]
  exact kk H1 locs ls (hP.push o1 z1 (by show H1[G.1 + d]? = some (vp_cell _ _); rw [vp_cell_q]; exact e1)) (hP.S hS o1 (by omega)) hl
theorem mu_outer (c : ClassId) (N h0 : Nat) : ∀ i : Nat, Jvm.Free.Multi.outerC c N h0 i = arrV c N (fun j => va_rf (if j < i then some (h0 + 1 + j) else none))
  | 0 => by
    show ({ cls := c, slots := Array.replicate N .null, vm := .none } : Cell) = _
    rw [arrV_new]
    refine congrArg (arrV c N) (funext fun j => ?_)
    simp [va_rf]
  | i + 1 => by
    show (Jvm.Free.Multi.outerC c N h0 i).setSlot i (.ref (h0 + 1 + i)) = _
    rw [mu_outer c N h0 i, arrV_store]
    refine congrArg (arrV c N) (funext fun j => ?_)
    by_cases e : j = i
    · subst e
      simp [updV, va_rf]
    · by_cases h : j < i
      · simp [updV, e, h, Nat.lt_succ_of_lt h]
      · simp [updV, e, h, show ¬ j < i + 1 by omega]
/-- three rows of 31 numbers -/
theorem e_mna (B : Be l G X cc nL own rm0 ret0) {i : Nat} (w1 : Cond.classLink own i ("[" ++ (FieldType.array .int).toString) ∈ tG) (wa : Cond.arrayClass .int ∈ tG) (hR : k + 4 ≤ rm0.cells ∧ n + 96 ≤ rm0.slots) (hdg : decode cc pc = .ok (.multianewarray i 2, 4)) (kk : WE G X (k + 4) (n + 96) Q (d + 4) (upE (upE (upE (upE f d (.inl (G.2.2 4, 3, .inr (.inr (.inr (.inr (fun j => if j < 3 then some (G.1 + d + 1 + j) else none))))))) (d + 1) (.inl (G.2.2 0, 31, .inl (fun _ => 0)))) (d + 2) (.inl (G.2.2 0, 31, .inl (fun _ => 0)))) (d + 3) (.inl (G.2.2 0, 31, .inl (fun _ => 0)))) (pc + 4) lv (.ref (G.1 + d) :: st)) : WE G X k n Q d f pc lv (.int (iI 31) :: .int (iI 3) :: st) := by
  intro H locs ls hP hS hl T hT Xs
  obtain ⟨vm₁, cA, comp, -, fA, fC, -, -, X', step⟩ := Xs.multianewarray2F B.1.1.1 B.1.1.2.2.2.1 (B.1.1.2.2.2.2 _ w1) (va_AB.use B.2.1.2.2.2) (B.1.1.2.2.2.2 _ wa) (g := F0 X.2.2.2.2.2.1 pc ls (.int (iI 31) :: .int (iI 3) :: st)) rfl (by rw [B.1.1.2.1]; exact hdg) (n := iI 3) (k := iI 31) rfl (by decide) (by decide) (by decide) (by decide) (by decide) rfl rfl (by rw [B.1.2.2.1]; exact hR.1) (by rw [B.1.2.2.1]; exact hR.2)
  have g4 : X.2.2.2.2.1.vm.findClass ("[" ++ (FieldType.array .int).toString) = some (G.2.2 4) := (B.1.2.2.2.2.2.1.1.2 4 _ rfl).2
  have g0 : X.2.2.2.2.1.vm.findClass (FieldType.array .int).toString = some (G.2.2 0) := (B.1.2.2.2.2.2.1.1.2 0 _ rfl).2
  have e1 : cA = G.2.2 4 := Option.some.inj (fA.symm.trans g4)
  have e2 : comp = G.2.2 0 := Option.some.inj (fC.symm.trans g0)
  subst e1
  subst e2
  have n3 : (iI 3).toNatClampNeg = 3 := by decide
  have n31 : (iI 31).toNatClampNeg = 31 := by decide
  rw [n3, n31] at X' step
  have hTh : (T.setVm vm₁).heap = H := hT
  obtain ⟨f1, f2, -, -⟩ := Jvm.Free.Multi.fill_facts (T.setVm vm₁) (G.2.2 4) (G.2.2 0) 3 31 (defaultValue .int) 3
  have hold : ∀ x : Nat, x < H.size → (Jvm.Free.Multi.fill (T.setVm vm₁) (G.2.2 4) (G.2.2 0) 3 31 (defaultValue .int) 3).heap[x]? = H[x]? := fun x hx => by
    have h9 := Jvm.Free.Multi.fill_old (T.setVm vm₁) (G.2.2 4) (G.2.2 0) 3 31 (defaultValue .int) (a := x) (by rw [hTh]; exact hx) 3
    rw [hTh] at h9
    exact h9
  have hrow : ∀ j : Nat, j < 3 → (Jvm.Free.Multi.fill (T.setVm vm₁) (G.2.2 4) (G.2.2 0) 3 31 (defaultValue .int) 3).heap[H.size + 1 + j]? = some (vp_cell (G.2.2 0) (31, .inl (fun _ => 0))) := fun j hj => by
    have h9 := Jvm.Free.Multi.fill_inner (T.setVm vm₁) (G.2.2 4) (G.2.2 0) 3 31 (defaultValue .int) 3 j hj
    rw [hTh] at h9
    rw [h9, vp_cell_i]
    exact congrArg some (arrV_new _ _ _)
  rw [mu_outer] at f2
  rw [hTh, hP.2] at f1 f2
  rw [hP.2] at hold hrow
  obtain ⟨t, a1, b1⟩ := kk _ locs ls (HW.of (fun j hj => by
    by_cases w3 : j = d + 3
    · subst w3; rw [upE_eq]; exact hrow 2 (by decide)
    · by_cases w2 : j = d + 2
      · subst w2; rw [upE_ne (by omega), upE_eq]; exact hrow 1 (by decide)
      · by_cases w1 : j = d + 1
        · subst w1; rw [upE_ne (by omega), upE_ne (by omega), upE_eq]; exact hrow 0 (by decide)
        · by_cases w0 : j = d
          · subst w0; rw [upE_ne (by omega), upE_ne (by omega), upE_ne (by omega), upE_eq]; exact f2
          · rw [upE_ne (by omega), upE_ne (by omega), upE_ne (by omega), upE_ne (by omega)]; exact (hP.get (by omega)).kept (hold (G.1 + j) (by omega))) (by rw [f1]; omega)) (hP.S hS hold (by rw [f1]; omega)) hl _ rfl X'
  refine ⟨t, step t ?_, b1⟩
  have e : T.heap.size = G.1 + d := by rw [hT]; exact hP.2
  rw [e]
  exact a1
theorem e_putF (B : Be l G X cc nL own rm0 ret0) (hin2 : X.2.2.2.2.2.2.2.2.1.name = "<init>") {ci N i a : Nat} {C : String} {T : u_T} {v : Value} {ty : FieldType} {fs : List Value} (ty0 : Nat → FieldType) (hc : vwCl[ci]? = some (C, T, N)) (b : Nat) (hb : b < N) (hin : ∀ w ∈ u_ws C T N, w ∈ tG) (hty : ∀ k, k < N → parseFieldDescriptor (T k).2.2.1 = some (ty0 k)) (hnm : ∀ a, a < N → ∀ b, b < N → a ≠ b → (T a).2.1 ≠ (T b).2.1) (hfin : (T b).2.2.2 = true) (hdecl : (T b).1 = own) (hT : (T b).1 = C) (hd : parseFieldDescriptor (T b).2.2.1 = some ty) (hn : narrow ty v = v) (hfit : fits ty v = true) (ha : a < d) (he : f a = .inr (ci, fs)) (hl0 : b < fs.length) (w : Cond.fieldLink own i C (T b).2.1 (T b).2.2.1 ∈ tG) (hdg : decode cc pc = .ok (.putfield i, 3)) (kk : WE G X k n Q d (upE f a (.inr (ci, fs.set b v))) (pc + 3) lv st) : WE G X k n Q d f pc lv (v :: .ref (G.1 + a) :: st) := by
  intro H locs ls hP hS hl
  have hts := B.1.1.2.2.2.2
  have hK := B.1.2.2.2.2.2.1.1
  have hap := va_apart (own := own) hts hin ty0 hty hnm hK hc
  have h0 := hP.get ha
  rw [he] at h0
  obtain ⟨r, h1, cell, q1, q2, q3, q4⟩ := h0
  have hr : r = (C, T, N) := Option.some.inj (h1.symm.trans hc)
  subst hr
  obtain ⟨hS0, hfc, kC, hkC, hkind⟩ := hK.1 ci _ hc
  obtain ⟨cf, kf, fi, fl, hi, hsl⟩ := hS0 b hb
  have hlay := hts _ (hin _ (u_in_lay hb))
  unfold u_lay at hlay
  rw [if_pos hfin] at hlay
  have hst := (u_facts hfc hkC (u_lays hts hin hb) hi).1
  have hcf : X.2.2.2.2.2.1.cls = cf := by
    obtain ⟨_, _, c', _, _, _, -, -, hf', -, -, -, hown2, -⟩ := Cond.laysFinal_spec hlay
    have e1 : c' = cf := by have := hi.symm.trans hf'; simp at this; exact this.1.symm
    rw [hdecl] at hown2
    rw [← e1]; exact Option.some.inj (B.1.1.2.2.2.1.symm.trans hown2)
  have h6 := u_fits hfc hkC hkind (Or.inr hlay) hi hd hn hfit
  refine W.putFinK B.1.1.1 B.1.1.2.1 B.1.1.2.2.2.1 (hts _ w) (by rw [hT] at hi; exact hi) hst hcf hin2 (by rw [q2]; exact h6) q1 q3 (by rw [hsl]; exact k2_hasslot (q4 b hb)) rfl rfl hdg fun H' e1 e2 e3 => ?_
  rw [hsl] at e1 ⊢
  exact kk H' _ ls (hP.put ha ⟨_, hc, t_OB.to (V := updV (vp_V fs) b v) ⟨_, e1, q2, q3, t_set q4 hap hb v⟩ (fun j _ => vp_updV_set hl0 v j)⟩ e3 e2) (hS.put e2 e3 (Nat.le_add_right _ _)) hl
theorem e_put (B : Be l G X cc nL own rm0 ret0) {ci N i a : Nat} {C : String} {T : u_T} {v : Value} {ty : FieldType} {fs : List Value} (ty0 : Nat → FieldType) (hc : vwCl[ci]? = some (C, T, N)) (b : Nat) (hb : b < N) (hin : ∀ w ∈ u_ws C T N, w ∈ tG) (hty : ∀ k, k < N → parseFieldDescriptor (T k).2.2.1 = some (ty0 k)) (hnm : ∀ a, a < N → ∀ b, b < N → a ≠ b → (T a).2.1 ≠ (T b).2.1) (hfin : (T b).2.2.2 = false) (hT : (T b).1 = C) (hd : parseFieldDescriptor (T b).2.2.1 = some ty) (hn : narrow ty v = v) (hfit : fits ty v = true) (ha : a < d) (he : f a = .inr (ci, fs)) (hl0 : b < fs.length) (w : Cond.fieldLink own i C (T b).2.1 (T b).2.2.1 ∈ tG) (hdg : decode cc pc = .ok (.putfield i, 3)) (kk : WE G X k n Q d (upE f a (.inr (ci, fs.set b v))) (pc + 3) lv st) : WE G X k n Q d f pc lv (v :: .ref (G.1 + a) :: st) := by
  intro H locs ls hP hS hl
  have hts := B.1.1.2.2.2.2
  have hK := B.1.2.2.2.2.2.1.1
  have hap := va_apart (own := own) hts hin ty0 hty hnm hK hc
  have h0 := hP.get ha
  rw [he] at h0
  obtain ⟨r, h1, cell, q1, q2, q3, q4⟩ := h0
  have hr : r = (C, T, N) := Option.some.inj (h1.symm.trans hc)
  subst hr
  obtain ⟨hS0, hfc, kC, hkC, hkind⟩ := hK.1 ci _ hc
  obtain ⟨cf, kf, fi, fl, hi, hsl⟩ := hS0 b hb
  have hlay := hts _ (hin _ (u_in_lay hb))
  unfold u_lay at hlay
  rw [if_neg (by rw [hfin]; decide)] at hlay
  have hst := (u_facts hfc hkC (u_lays hts hin hb) hi).1
  have h6 := u_store hfc hkC hkind hlay hi hd hn hfit
  refine W.putK B.1.1.1 B.1.1.2.1 (f := fl) ⟨B.1.1.2.2.2.1, hts _ w, ⟨_, _, _, (by rw [hT] at hi; exact hi)⟩, hst⟩ (by rw [q2]; exact h6) q1 q3 (by rw [hsl]; exact k2_hasslot (q4 b hb)) rfl rfl hdg fun H' e1 e2 e3 => ?_
  rw [hsl] at e1 ⊢
  exact kk H' _ ls (hP.put ha ⟨_, hc, t_OB.to (V := updV (vp_V fs) b v) ⟨_, e1, q2, q3, t_set q4 hap hb v⟩ (fun j _ => vp_updV_set hl0 v j)⟩ e3 e2) (hS.put e2 e3 (Nat.le_add_right _ _)) hl
theorem e_get (B : Be l G X cc nL own rm0 ret0) {ci N i a : Nat} {C : String} {T : u_T} {v : Value} {fs : List Value} (hc : vwCl[ci]? = some (C, T, N)) (b : Nat) (hb : b < N) (hin : ∀ w ∈ u_ws C T N, w ∈ tG) (hT : (T b).1 = C) (ha : a < d) (he : f a = .inr (ci, fs)) (hv : fs[b]? = some v) (w : Cond.fieldLink own i C (T b).2.1 (T b).2.2.1 ∈ tG) (hdg : decode cc pc = .ok (.getfield i, 3)) (kk : WE G X k n Q d f (pc + 3) lv (v :: st)) : WE G X k n Q d f pc lv (.ref (G.1 + a) :: st) := by
  intro H locs ls hP hS hl
  exact va_get B.1.1.1 B.1.1.2.1 B.1.1.2.2.2.2 hin B.1.1.2.2.2.1 B.1.2.2.2.2.2.1.1 hP.1 a (by rw [LW_at ha, he]) hc b hb (B.1.1.2.2.2.2 _ w) (fun x h => by rw [hT] at h; exact h) hv hdg (kk H locs ls hP hS hl)
theorem e_aast (B : Be l G X cc nL own rm0 ret0) {ci t0 N' a v : Nat} {r : vw_C} {vs : List Value} {cA : ClassId} {g : Nat → Option Nat} {z : Int} (ht : (tysE G.2.2)[t0]? = some (cA, .object r.1)) (hc : vwCl[ci]? = some r) (ha : a < d) (he : f a = .inl (cA, N', .inr (.inr (.inr (.inr g))))) (hv : v < d) (hve : f v = .inr (ci, vs)) (hz : 0 ≤ z ∧ z < (N' : Int)) (hN : N' < 2147483648) (hdg : decode cc pc = .ok (.aastore, 1)) (kk : WE G X k n Q d (upE f a (.inl (cA, N', .inr (.inr (.inr (.inr (va_up g z.toNat (some (G.1 + v))))))))) (pc + 1) lv st) : WE G X k n Q d f pc lv (.ref (G.1 + v) :: .int (iI z) :: .ref (G.1 + a) :: st) := by
  intro H locs ls hP hS hl
  have hK := B.1.2.2.2.2.2.1.1
  have hin : vp_in (iI z) N' := iI_in hz.1 hz.2 hN
  have hlt : (iI z).toNatClampNeg < N' := Nat.not_le.mp fun q => hin (Or.inr q)
  have h0 : ¬ (iI z) < 0 := fun q => hin (Or.inl q)
  have hzn : (iI z).toNatClampNeg = z.toNat := by have := iI_nat (i := z) hz.1 (by omega); omega
  have hv2 := hP.get hv
  rw [hve] at hv2
  obtain ⟨r', hr', cellV, g1, g2, g3, -⟩ := hv2
  have ha2 := hP.get ha
  rw [he] at ha2
  have hcls := (hK.1 ci r hc).2
  obtain ⟨kA, comp, k1, k2, k3, -⟩ := (hK.2 t0 _ ht).2
  have hcomp : comp = G.2.1.1 ci := Option.some.inj (k3.symm.trans hcls.1)
  subst hcomp
  obtain ⟨kC, hkC, -⟩ := hcls.2
  refine W.aast B.1.1.1 B.1.1.2.1 ha2 (fun q h => by cases h) (fun h => by cases h) k1 k2 rfl hkC ⟨h0, by show _ < (arrV _ _ _).slots.size; rw [arrV_size]; exact hlt⟩ g1 (fun q h => by rw [g3] at h; cases h) (by rw [g2]; exact hkC) (by rw [g2]; exact va_assign hcls) rfl rfl hdg fun H1 e z1 oq => ?_
  refine kk H1 _ ls (hP.put ha ?_ oq z1) (hS.put z1 oq (Nat.le_add_right _ _)) hl
  show H1[G.1 + a]? = some (vp_cell _ _)
  rw [e, ← hzn]
  rw [vp_cell_q, vp_cell_q, arrV_store]
  congr 2
  funext q
  by_cases hq : q = (iI z).toNatClampNeg
  · subst hq
    simp [updV, va_up, va_rf]
  · simp [updV, va_up, hq]
theorem e_obj (B : Be l G X cc nL own rm0 ret0) {i a : Nat} (w : Cond.methodLink own i Lib.objectInit ∈ tG) (w2 : Cond.instanceMethod Lib.objectInit ∈ tG) (w3 : Cond.code Lib.objectInit ⟨#[0xb1]⟩ 1 none ∈ tG) (hst : st = []) (hR : 1 ≤ rm0.frames ∧ 12 ≤ rm0.locals) (hdg : decode cc pc = .ok (.invokespecial i, 3)) (kk : WE G X k n Q d f (pc + 3) lv []) : WE G X k n Q d f pc lv (.ref a :: st) := by
  intro H locs ls hP hS hl
  subst hst
  have hts := B.1.1.2.2.2.2
  exact W.objInit (rest := []) B.1.1.1 B.1.1.2.1 B.1.1.2.2.2.1 (hts _ w) (hts _ w2) (hts _ w3) rfl hl.1 rfl hdg (by rw [B.1.2.2.1]; exact hR.1) (by rw [B.1.2.2.1]; exact hR.2) (kk H locs ls hP hS hl)
theorem e_vret (B : Be l G X cc nL own rm0 none) {f' : Nat → va_E} (hf : ∀ j, j < d → f' j = f j) (hdg : decode cc pc = .ok (.return_, 1)) : WE G X k n (bM X (QE G d f') k n G) d f pc lv [] :=
  fun H locs ls hP hS hl => W.vret B.1.1.1 B.1.1.2.1 B.1.2.2.2.1 (fun t ht hW => ⟨⟨(), rfl, trivial, by subst ht; exact hP.congr hf⟩, hS.F ht⟩) hS.2.2 hdg B.1.2.2.2.2.1
theorem mk_PE (B : Be l G X cc nL own rm0 ret0) {H : Heap} {locs : List Loc} {av : List Value} (hP : HW G d f H) (hS : va_S (Fr G) X.2.2.2.2.1.heap H locs) : ∀ U : State, U.heap = H → X.2.2.2.2.1.WarmedH U.vm → PreE G d f av av.toArray U := fun U hU hW =>
  ⟨rfl, by rw [hU]; exact hP, ⟨va_K.moved hW.alike B.1.2.2.2.2.2.1.1, Ng.warm hW B.1.2.2.2.2.2.1.2⟩, by rw [hU]; exact Zs.moved hW.alike (Zs.kept B.1.2.2.2.2.2.2 (fun a h1 h2 => hS.2.1 a h1 h2)), Oa.moved hW.alike B.2.1⟩
theorem e_I (B : Be l G X cc nL own rm0 ret0) {y : MethodName} {bytes : ByteArray} {mL i mc ms b d' : Nat} {rm : Room} {f' : Nat → va_E} (hM : CtE l G y bytes mL rm [.ref b] d f d' f' mc ms) (hM0 : rm.cells = mc ∧ rm.slots = ms) (ok : CalOk y bytes mL none 0) (hy : y.name = "<init>") (wi : Cond.instanceMethod y ∈ tG) (w : Cond.methodLink own i y ∈ tG) (hf : Fits rm rm0 mL st) (hL : Lft k n rm0 mc ms) (hdg : decode cc pc = .ok (.invokespecial i, 3)) (kk : WE G X (k + mc) (n + ms) Q d' f' (pc + 3) lv st) : WE G X k n Q d f pc lv (.ref b :: st) := by
  intro H locs ls hP hS hl
  have hl2 := B.1.2.1
  subst hl2
  refine va_callv (va_runI (As := []) (rest := st) ⟨B.1.1.1, B.1.1.2.1, B.1.1.2.2.1, B.1.1.2.2.2.1, B.1.1.2.2.2.2⟩ hM ⟨mk_B B.1 ok w hM0.1 hM0.2 ⟨hf.1, hf.2.1⟩, hy, B.1.1.2.2.2.2 _ wi⟩ ⟨PreE.blind G d f _, mk_PE B hP hS⟩ rfl rfl (by rw [hl.1]; exact B.1.1.2.2.1) rfl (lv_room hf.2.2) hdg ⟨by rw [B.1.2.2.1]; exact hL.1, by rw [B.1.2.2.1]; exact hL.2⟩) hS (fun q _ h => h) (fun q h => h) (fun u t H1 locs1 ht hvm hp hb hz hk hS1 => ?_)
  rw [ht] at hb
  exact kk H1 locs1 ls hb hS1 hl
theorem e_IN (B : Be l G X cc nL own rm0 ret0) {y : MethodName} {bytes : ByteArray} {mL i mc ms b d' : Nat} {host : String} {rm : Room} {f' : Nat → va_E} (hM : CtE l G y bytes mL rm [.ref b] d f d' f' mc ms) (hM0 : rm.cells = mc ∧ rm.slots = ms) (ok : CalOk y bytes mL none 0) (hy : y.name = "<init>") (wi : Cond.instanceMethod y ∈ tG) (w : (own, i, y, host) ∈ nestL) (hf : Fits rm rm0 mL st) (hL : Lft k n rm0 mc ms) (hdg : decode cc pc = .ok (.invokespecial i, 3)) (kk : WE G X (k + mc) (n + ms) Q d' f' (pc + 3) lv st) : WE G X k n Q d f pc lv (.ref b :: st) := by
  intro H locs ls hP hS hl
  have hl2 := B.1.2.1
  subst hl2
  refine va_callv (va_runIN (As := []) (rest := st) ⟨B.1.1.1, B.1.1.2.1, B.1.1.2.2.1, B.1.1.2.2.2.1, B.1.1.2.2.2.2⟩ hM ⟨mk_N B.1 ok w hM0.1 hM0.2 ⟨hf.1, hf.2.1⟩, hy, B.1.1.2.2.2.2 _ wi⟩ ⟨PreE.blind G d f _, mk_PE B hP hS⟩ rfl rfl (by rw [hl.1]; exact B.1.1.2.2.1) rfl (lv_room hf.2.2) hdg ⟨by rw [B.1.2.2.1]; exact hL.1, by rw [B.1.2.2.1]; exact hL.2⟩) hS (fun q _ h => h) (fun q h => h) (fun u t H1 locs1 ht hvm hp hb hz hk hS1 => ?_)
  rw [ht] at hb
  exact kk H1 locs1 ls hb hS1 hl
end E
