/-! contracts over the laid-out cells: starts, ends, calls -/
def PreM (G : Gs) (M : Mem) (av : List Value) : Array Value → State → Prop := va_Pc av (fun U => va_P G.2.1 vwCl (WW G M) U.heap ∧ St G U ∧ Zs G U U.heap)
def PoI (G : Gs) (post : Int → Mem → Prop) : Array Value → State → Outcome → State → Prop := va_Qi (fun (r : Int32) (u : Int × Mem) => r = iI u.1 ∧ post u.1 u.2) (fun u t => va_P G.2.1 vwCl (WW G u.2) t.heap) (Fr G)
def PoL (G : Gs) (post : Int → Mem → Prop) : Array Value → State → Outcome → State → Prop := va_Ql (fun (r : Int64) (u : Int × Mem) => r = lI u.1 ∧ post u.1 u.2) (fun u t => va_P G.2.1 vwCl (WW G u.2) t.heap) (Fr G)
def PoD (G : Gs) (post : UInt64 → Mem → Prop) : Array Value → State → Outcome → State → Prop := va_Qd (fun (r : UInt64) (u : Mem) => post r u) (fun u t => va_P G.2.1 vwCl (WW G u) t.heap) (Fr G)
def PoV (G : Gs) (post : Mem → Prop) : Array Value → State → Outcome → State → Prop := va_Qv post (fun u t => va_P G.2.1 vwCl (WW G u) t.heap) (Fr G)
def PoA (G : Gs) (post : Nat → Mem → Prop) : Array Value → State → Outcome → State → Prop := va_Qq (fun (r : Option Nat) (u : Nat × Mem) => r = some u.1 ∧ post u.1 u.2) (fun u t => va_P G.2.1 vwCl (WW G u.2) t.heap) (Fr G)
/-- a contract: from any start with the cells M and these arguments, y returns, with Q; z and w: the cells and slots that it makes at most -/
def Ct (l : Launch) (G : Gs) (y : MethodName) (cc : ByteArray) (nL : Nat) (ret : Option FieldType) (rm : Room) (av : List Value) (M : Mem) (Q : Array Value → State → Outcome → State → Prop) (z w : Nat) : Prop :=
  Met l y (.code y cc nL ret :: tG) rm (PreM G M av) Q z w (Fr G)
theorem Zs.moved {G : Gs} {u U : State} {H : Heap} (hvm : u.vm.Alike U.vm) (h : Zs G u H) : Zs G U H := ⟨vx_Zq.moved hvm h.1, vx_Zq.moved hvm h.2⟩
theorem Zs.kept {G : Gs} {U : State} {H H1 : Heap} (h : Zs G U H) (hq : ∀ a : Nat, a < H.size → ¬ Fr G a → H1[a]? = H[a]?) : Zs G U H1 := ⟨vx_Zq.kept h.1 hq, vx_Zq.kept h.2 hq⟩
theorem PreM.blind (G : Gs) (M : Mem) (av : List Value) : FrameBlind (PreM G M av) := fun a U g mk q => by
  obtain ⟨q0, qP, ⟨qK, qN⟩, qZ⟩ := q
  exact ⟨q0, qP, ⟨va_K.moved (u := U) (U := U.calling g mk a) (Vm.Alike.refl U.vm) qK, Ng.same (s := U) (U := U.calling g mk a) rfl qN⟩, Zs.moved (u := U) (U := U.calling g mk a) (Vm.Alike.refl U.vm) qZ⟩
abbrev bM (X : Cx) (Q : Array Value → State → Outcome → State → Prop) (z w : Nat) (G : Gs) : State → Prop := MQ X.2.2.2.2.2.2.2.1 Q X.2.2.2.2.2.2.1 X.2.2.2.2.1 z w (Fr G)
theorem Met.ofWF {l : Launch} {y : MethodName} {ws ws' : List Cond} {rm : Room} {Pc : Array Value → State → Prop} {Qc : Array Value → State → Outcome → State → Prop} {mc ms : Nat} {free : Addr → Prop} {cc : ByteArray} {maxL : Nat} {ret : Option FieldType}
    (hy : plainFor y = true) (hw : ws = Cond.code y cc maxL ret :: ws')
    (body : ∀ p e s m args below meth c s₁, BodyLoose p l y (headSpec ws rm) cc maxL ret e s m args below meth c s₁ → c.maxLocals = maxL → Pc args s →
      W p l e (headSpec ws rm).room s m args below meth c s.heap [] 0 0 (MQ below Qc args s mc ms free) (entryFrame m args maxL)) : Met l y ws rm Pc Qc mc ms free := by
  refine MetFree.of_bodySF (code := cc) (maxLocals := maxL) (ret := ret) hy ?_ ?_
  · intro args s m h hn
    obtain ⟨meth, c, h1, h2, h3, h4, h5, h6, -, -⟩ := Cond.code_spec hn (atoms_spec (ws := ws) h _ (by rw [hw]; exact List.mem_cons_self))
    exact ⟨meth, c, h1, h2, h3, h4, h5, h6⟩
  · intro p e s m args below meth c s₁ B hml hP _
    have hh0 : s₁.heap = s.heap := by rw [B.state]; rfl
    obtain ⟨t, a1, o, b1, b2, b3⟩ := body p e s m args below meth c s₁ B hml hP s₁ hh0 (Stand.of_body B)
    exact ⟨t, o, a1, b1, b2, ⟨b3.1, b3.2⟩⟩
theorem Ct.of {l : Launch} {G : Gs} {y : MethodName} {cc : ByteArray} {nL : Nat} {ret : Option FieldType} {rm : Room} {av : List Value} {M : Mem} {Q : Array Value → State → Outcome → State → Prop} {z w : Nat} (hy : plainFor y = true) (hn : (lg_sl av).length ≤ nL) (lv : List (Nat × Value)) (hlv : lv_args 0 av = lv)
    (body : ∀ X : Cx, Bx l G X cc nL y.cls rm ret → WM G X 0 0 (bM X Q z w G) M 0 lv []) : Ct l G y cc nL ret rm av M Q z w := by
  refine Met.ofWF (cc := cc) (maxL := nL) (ret := ret) hy rfl ?_
  intro p e s m args below meth c s₁ B hml hv
  obtain ⟨rfl, hP, hSt, hZ⟩ := hv
  have hts := atoms_spec (ws := .code y cc nL ret :: tG) B.pre
  have hown : s.vm.findClass y.cls = some m.cls := findClass_of_methodNamed B.named
  have hl := lv_entry av (n := nL) hn
  rw [hlv] at hl
  rw [lg_entry_eq]
  subst hml
  exact body (p, l, e, (headSpec (.code y cc c.maxLocals ret :: tG) rm).room, s, m, av.toArray, below, meth, c) ⟨⟨B.exec, B.bytes, rfl, hown, fun w hw => hts w (List.mem_cons_of_mem _ hw)⟩, rfl, rfl, B.returns, B.notSynchronized, hSt, hZ⟩ s.heap [] _ hP va_S.rf hl
section R
variable {l : Launch} {G : Gs} {X : Cx} {cc : ByteArray} {nL : Nat} {own : String} {rm0 : Room} {ret0 : Option FieldType} {k n : Nat} {Q : State → Prop} {M : Mem} {pc : Nat} {lv : List (Nat × Value)} {st : List Value}
theorem r_iret (B : Bx l G X cc nL own rm0 (some .int)) {v : Int} {post : Int → Mem → Prop} (hdg : decode cc pc = .ok (.ireturn, 1)) (hq : post v M) : WM G X k n (bM X (PoI G post) k n G) M pc lv [.int (iI v)] :=
  fun H locs ls hP hS hl => W.iret B.1.1 B.1.2.1 B.2.2.2.1 (fun t ht hW => ⟨⟨iI v, (v, M), rfl, ⟨rfl, hq⟩, by subst ht; exact hP⟩, hS.F ht⟩) hS.2.2 hdg B.2.2.2.2.1
theorem r_lret (B : Bx l G X cc nL own rm0 (some .long)) {v : Int} {post : Int → Mem → Prop} (hdg : decode cc pc = .ok (.lreturn, 1)) (hq : post v M) : WM G X k n (bM X (PoL G post) k n G) M pc lv [.long (lI v)] :=
  fun H locs ls hP hS hl => W.lret B.1.1 B.1.2.1 B.2.2.2.1 (fun t ht hW => ⟨⟨lI v, (v, M), rfl, ⟨rfl, hq⟩, by subst ht; exact hP⟩, hS.F ht⟩) hS.2.2 hdg B.2.2.2.2.1
theorem r_dret (B : Bx l G X cc nL own rm0 (some .double)) {v : UInt64} {post : UInt64 → Mem → Prop} (hdg : decode cc pc = .ok (.dreturn, 1)) (hq : post v M) : WM G X k n (bM X (PoD G post) k n G) M pc lv [.double v] :=
  fun H locs ls hP hS hl => W.dret B.1.1 B.1.2.1 B.2.2.2.1 (fun t ht hW => ⟨⟨v, M, rfl, hq, by subst ht; exact hP⟩, hS.F ht⟩) hS.2.2 hdg B.2.2.2.2.1
theorem r_vret (B : Bx l G X cc nL own rm0 (none)) {post : Mem → Prop} (hdg : decode cc pc = .ok (.return_, 1)) (hq : post M) : WM G X k n (bM X (PoV G post) k n G) M pc lv [] :=
  fun H locs ls hP hS hl => W.vret B.1.1 B.1.2.1 B.2.2.2.1 (fun t ht hW => ⟨⟨M, rfl, hq, by subst ht; exact hP⟩, hS.F ht⟩) hS.2.2 hdg B.2.2.2.2.1
theorem r_zret (B : Bx l G X cc nL own rm0 (some .boolean)) {v : Int} {post : Int → Mem → Prop} (hdg : decode cc pc = .ok (.ireturn, 1)) (hz : v = 0 ∨ v = 1) (hq : post v M) : WM G X k n (bM X (PoI G post) k n G) M pc lv [.int (iI v)] :=
  fun H locs ls hP hS hl => W.zret B.1.1 B.1.2.1 B.2.2.2.1 (by rcases hz with rfl | rfl <;> rfl) (fun t ht hW => ⟨⟨iI v, (v, M), rfl, ⟨rfl, hq⟩, by subst ht; exact hP⟩, hS.F ht⟩) hS.2.2 hdg B.2.2.2.2.1
theorem r_aret {C : String} (B : Bx l G X cc nL own rm0 (some (.object C))) {v : Nat} {post : Nat → Mem → Prop} (hdg : decode cc pc = .ok (.areturn, 1)) (hq : post v M) : WM G X k n (bM X (PoA G post) k n G) M pc lv [.ref v] :=
  fun H locs ls hP hS hl => W.aret B.1.1 B.1.2.1 B.2.2.2.1 (Or.inl ⟨_, rfl⟩) (Or.inr ⟨_, rfl⟩) (fun t ht hW => ⟨⟨some v, (v, M), rfl, ⟨rfl, hq⟩, by subst ht; exact hP⟩, hS.F ht⟩) hS.2.2 hdg B.2.2.2.2.1
/-- what a callee's name brings: its code, its class made ready, the number of its arguments -/
def CalOk (y : MethodName) (cc : ByteArray) (nL : Nat) (ret : Option FieldType) (z : Nat) : Prop := (y.cls ≠ "java/lang/invoke/MethodHandle" ∧ y.cls ≠ "java/lang/invoke/VarHandle") ∧ (parseMethodDescriptor y.desc).map (fun d => d.parameters.length) = some z ∧ Cond.code y cc nL ret ∈ tG ∧ Cond.initialized y.cls ∈ tG
def VirOk (y : MethodName) : Prop := Cond.instanceMethod y ∈ tG ∧ Cond.selects y.cls y y ∈ tG
abbrev Fits (rm rm0 : Room) (mL : Nat) (st : List Value) : Prop := rm.frames + 1 ≤ rm0.frames ∧ 8 + (mL + 11) + rm.locals ≤ rm0.locals ∧ (st.map fun v => v.category).sum ≤ 8
theorem tG_good {w : Cond} (h : w ∈ tG) : (w.onTables && w.keeps) = true ∨ ∃ ty, w = .arrayClass ty := good_of_word (List.mem_filter.mp h).2
theorem tG_in {w : Cond} (h : w ∈ tG) : GoodIn tG (w :: tG) := fun x hx => by
  rcases List.mem_cons.mp hx with rfl | hx
  · exact ⟨h, tG_good h⟩
  · exact ⟨hx, tG_good hx⟩
theorem mk_B (B : Bx l G X cc nL own rm0 ret0) {y : MethodName} {bytes : ByteArray} {mL z i mc ms : Nat} {ret : Option FieldType} {rm : Room} (ok : CalOk y bytes mL ret z) (w : Cond.methodLink own i y ∈ tG) (hrc : rm.cells = mc) (hrs : rm.slots = ms) (hf : rm.frames + 1 ≤ rm0.frames ∧ 8 + (mL + 11) + rm.locals ≤ rm0.locals) : CallB X.2.2.2.1 X.2.2.2.2.1 X.2.2.2.2.2.2.1 own i y bytes mL ret (.code y bytes mL ret :: tG) rm mc ms z := by
  have hts := B.1.2.2.2.2
  have hR := B.2.2.1
  refine ⟨hrc, hrs, by rw [hR]; exact hf.1, by rw [hR]; exact hf.2, pay_in hts (tG_in ok.2.2.1), List.mem_cons_self, hts _ ok.2.2.1, hts _ ok.2.2.2, ok.1, fun sig h => ?_, hts _ w⟩
  have h2 := ok.2.1
  rw [h] at h2
  exact (Option.some.inj h2).symm
theorem mk_N (B : Bx l G X cc nL own rm0 ret0) {y : MethodName} {bytes : ByteArray} {mL z i mc ms : Nat} {host : String} {ret : Option FieldType} {rm : Room} (ok : CalOk y bytes mL ret z) (w : (own, i, y, host) ∈ nestL) (hrc : rm.cells = mc) (hrs : rm.slots = ms) (hf : rm.frames + 1 ≤ rm0.frames ∧ 8 + (mL + 11) + rm.locals ≤ rm0.locals) : va_CN X.2.2.2.1 X.2.2.2.2.1 X.2.2.2.2.2.2.1 own i y host bytes mL ret (.code y bytes mL ret :: tG) rm mc ms z := by
  have hts := B.1.2.2.2.2
  have hR := B.2.2.1
  have hN := B.2.2.2.2.2.1.2.1 _ w
  refine ⟨⟨hrc, hrs, by rw [hR]; exact hf.1, by rw [hR]; exact hf.2, pay_in hts (tG_in ok.2.2.1), List.mem_cons_self⟩, hts _ ok.2.2.1, hts _ ok.2.2.2, ok.1, fun sig h => ?_, va_Nw.use rfl hN⟩
  have h2 := ok.2.1
  rw [h] at h2
  exact (Option.some.inj h2).symm
theorem mk_P (B : Bx l G X cc nL own rm0 ret0) {H : Heap} {locs : List Loc} {av : List Value} (hP : va_P G.2.1 vwCl (WW G M) H) (hS : va_S (Fr G) X.2.2.2.2.1.heap H locs) : ∀ U : State, U.heap = H → X.2.2.2.2.1.WarmedH U.vm → PreM G M av av.toArray U := fun U hU hW =>
  ⟨rfl, by rw [hU]; exact hP, ⟨va_K.moved hW.alike B.2.2.2.2.2.1.1, Ng.warm hW B.2.2.2.2.2.1.2⟩, by rw [hU]; exact Zs.moved hW.alike (Zs.kept B.2.2.2.2.2.2 (fun a h1 h2 => hS.2.1 a h1 h2))⟩
theorem mk_R (B : Bx l G X cc nL own rm0 ret0) {H : Heap} {b ci N : Nat} {C : String} {T : u_T} (hP : va_P G.2.1 vwCl (WW G M) H) (hc : vwCl[ci]? = some (C, T, N)) (hb : At G b ci 0) (he : ent G.2.2 M b (ci, 0) = .inr (ci, flds ci b M)) : ∃ cell : Cell, H[b]? = some cell ∧ cell.vm.isStatics = false ∧ X.2.2.2.2.1.vm.findClass C = some cell.cls :=
  va_recv B.2.2.2.2.2.1.1 hP hc (by rw [WW_get hb, he])
abbrev Lft (k n : Nat) (rm0 : Room) (mc ms : Nat) : Prop := k + mc ≤ rm0.cells ∧ n + ms ≤ rm0.slots
theorem r_Vi0 (B : Bx l G X cc nL own rm0 ret0) {y : MethodName} {bytes : ByteArray} {mL i mc ms : Nat} {rm : Room} {b ci N : Nat} {T : u_T} {post : Int → Mem → Prop} (hM : Ct l G y bytes mL (some .int) rm [.ref b] M (PoI G post) mc ms) (hM0 : rm.cells = mc ∧ rm.slots = ms) (ok : CalOk y bytes mL (some .int) 0) (vi : VirOk y) (w : Cond.methodLink own i y ∈ tG) (hb0 : At G b ci 0) (hc : vwCl[ci]? = some (y.cls, T, N)) (he : ∀ M, ent G.2.2 M b (ci, 0) = .inr (ci, flds ci b M)) (hf : Fits rm rm0 mL st) (hL : Lft k n rm0 mc ms) (hdg : decode cc pc = .ok (.invokevirtual i, 3)) (kk : ∀ (r : Int) (M' : Mem), post r M' → WM G X (k + mc) (n + ms) Q M' (pc + 3) lv (.int (iI r) :: st)) : WM G X k n Q M pc lv (.ref b :: st) := by
  intro H locs ls hP hS hl
  have hl2 := B.2.1
  subst hl2
  refine va_calli (va_runV (As := []) (rest := st) ⟨B.1.1, B.1.2.1, B.1.2.2.1, B.1.2.2.2.1, B.1.2.2.2.2⟩ hM ⟨mk_B B ok w hM0.1 hM0.2 ⟨hf.1, hf.2.1⟩, B.1.2.2.2.2 _ vi.1, B.1.2.2.2.2 _ vi.2⟩ ⟨PreM.blind G M _, mk_R B hP hc hb0 (he M), mk_P B hP hS⟩ rfl rfl (by rw [hl.1]; exact B.1.2.2.1) rfl (lv_room hf.2.2) hdg ⟨by rw [B.2.2.1]; exact hL.1, by rw [B.2.2.1]; exact hL.2⟩) hS (fun q _ h => h) (fun q h => h) (fun r u t H1 locs1 ht hvm hp hb hz hk hS1 => ?_)
  obtain ⟨rfl, hp⟩ := hp
  rw [ht] at hb
  exact kk u.1 u.2 hp H1 locs1 ls hb hS1 hl
theorem r_Vi1 (B : Bx l G X cc nL own rm0 ret0) {y : MethodName} {bytes : ByteArray} {mL i mc ms : Nat} {rm : Room} {b ci N : Nat} {T : u_T} {a0 : Value} {post : Int → Mem → Prop} (hM : Ct l G y bytes mL (some .int) rm [.ref b, a0] M (PoI G post) mc ms) (hM0 : rm.cells = mc ∧ rm.slots = ms) (ok : CalOk y bytes mL (some .int) 1) (vi : VirOk y) (w : Cond.methodLink own i y ∈ tG) (hb0 : At G b ci 0) (hc : vwCl[ci]? = some (y.cls, T, N)) (he : ∀ M, ent G.2.2 M b (ci, 0) = .inr (ci, flds ci b M)) (hf : Fits rm rm0 mL st) (hL : Lft k n rm0 mc ms) (hdg : decode cc pc = .ok (.invokevirtual i, 3)) (kk : ∀ (r : Int) (M' : Mem), post r M' → WM G X (k + mc) (n + ms) Q M' (pc + 3) lv (.int (iI r) :: st)) : WM G X k n Q M pc lv (a0 :: .ref b :: st) := by
  intro H locs ls hP hS hl
  have hl2 := B.2.1
  subst hl2
  refine va_calli (va_runV (As := [a0]) (rest := st) ⟨B.1.1, B.1.2.1, B.1.2.2.1, B.1.2.2.2.1, B.1.2.2.2.2⟩ hM ⟨mk_B B ok w hM0.1 hM0.2 ⟨hf.1, hf.2.1⟩, B.1.2.2.2.2 _ vi.1, B.1.2.2.2.2 _ vi.2⟩ ⟨PreM.blind G M _, mk_R B hP hc hb0 (he M), mk_P B hP hS⟩ rfl rfl (by rw [hl.1]; exact B.1.2.2.1) rfl (lv_room hf.2.2) hdg ⟨by rw [B.2.2.1]; exact hL.1, by rw [B.2.2.1]; exact hL.2⟩) hS (fun q _ h => h) (fun q h => h) (fun r u t H1 locs1 ht hvm hp hb hz hk hS1 => ?_)
  obtain ⟨rfl, hp⟩ := hp
  rw [ht] at hb
  exact kk u.1 u.2 hp H1 locs1 ls hb hS1 hl
theorem r_Vi2 (B : Bx l G X cc nL own rm0 ret0) {y : MethodName} {bytes : ByteArray} {mL i mc ms : Nat} {rm : Room} {b ci N : Nat} {T : u_T} {a0 a1 : Value} {post : Int → Mem → Prop} (hM : Ct l G y bytes mL (some .int) rm [.ref b, a0, a1] M (PoI G post) mc ms) (hM0 : rm.cells = mc ∧ rm.slots = ms) (ok : CalOk y bytes mL (some .int) 2) (vi : VirOk y) (w : Cond.methodLink own i y ∈ tG) (hb0 : At G b ci 0) (hc : vwCl[ci]? = some (y.cls, T, N)) (he : ∀ M, ent G.2.2 M b (ci, 0) = .inr (ci, flds ci b M)) (hf : Fits rm rm0 mL st) (hL : Lft k n rm0 mc ms) (hdg : decode cc pc = .ok (.invokevirtual i, 3)) (kk : ∀ (r : Int) (M' : Mem), post r M' → WM G X (k + mc) (n + ms) Q M' (pc + 3) lv (.int (iI r) :: st)) : WM G X k n Q M pc lv (a1 :: a0 :: .ref b :: st) := by
  intro H locs ls hP hS hl
  have hl2 := B.2.1
  subst hl2
  refine va_calli (va_runV (As := [a0, a1]) (rest := st) ⟨B.1.1, B.1.2.1, B.1.2.2.1, B.1.2.2.2.1, B.1.2.2.2.2⟩ hM ⟨mk_B B ok w hM0.1 hM0.2 ⟨hf.1, hf.2.1⟩, B.1.2.2.2.2 _ vi.1, B.1.2.2.2.2 _ vi.2⟩ ⟨PreM.blind G M _, mk_R B hP hc hb0 (he M), mk_P B hP hS⟩ rfl rfl (by rw [hl.1]; exact B.1.2.2.1) rfl (lv_room hf.2.2) hdg ⟨by rw [B.2.2.1]; exact hL.1, by rw [B.2.2.1]; exact hL.2⟩) hS (fun q _ h => h) (fun q h => h) (fun r u t H1 locs1 ht hvm hp hb hz hk hS1 => ?_)
  obtain ⟨rfl, hp⟩ := hp
  rw [ht] at hb
  exact kk u.1 u.2 hp H1 locs1 ls hb hS1 hl
theorem r_Vi3 (B : Bx l G X cc nL own rm0 ret0) {y : MethodName} {bytes : ByteArray} {mL i mc ms : Nat} {rm : Room} {b ci N : Nat} {T : u_T} {a0 a1 a2 : Value} {post : Int → Mem → Prop} (hM : Ct l G y bytes mL (some .int) rm [.ref b, a0, a1, a2] M (PoI G post) mc ms) (hM0 : rm.cells = mc ∧ rm.slots = ms) (ok : CalOk y bytes mL (some .int) 3) (vi : VirOk y) (w : Cond.methodLink own i y ∈ tG) (hb0 : At G b ci 0) (hc : vwCl[ci]? = some (y.cls, T, N)) (he : ∀ M, ent G.2.2 M b (ci, 0) = .inr (ci, flds ci b M)) (hf : Fits rm rm0 mL st) (hL : Lft k n rm0 mc ms) (hdg : decode cc pc = .ok (.invokevirtual i, 3)) (kk : ∀ (r : Int) (M' : Mem), post r M' → WM G X (k + mc) (n + ms) Q M' (pc + 3) lv (.int (iI r) :: st)) : WM G X k n Q M pc lv (a2 :: a1 :: a0 :: .ref b :: st) := by
  intro H locs ls hP hS hl
  have hl2 := B.2.1
  subst hl2
  refine va_calli (va_runV (As := [a0, a1, a2]) (rest := st) ⟨B.1.1, B.1.2.1, B.1.2.2.1, B.1.2.2.2.1, B.1.2.2.2.2⟩ hM ⟨mk_B B ok w hM0.1 hM0.2 ⟨hf.1, hf.2.1⟩, B.1.2.2.2.2 _ vi.1, B.1.2.2.2.2 _ vi.2⟩ ⟨PreM.blind G M _, mk_R B hP hc hb0 (he M), mk_P B hP hS⟩ rfl rfl (by rw [hl.1]; exact B.1.2.2.1) rfl (lv_room hf.2.2) hdg ⟨by rw [B.2.2.1]; exact hL.1, by rw [B.2.2.1]; exact hL.2⟩) hS (fun q _ h => h) (fun q h => h) (fun r u t H1 locs1 ht hvm hp hb hz hk hS1 => ?_)
  obtain ⟨rfl, hp⟩ := hp
  rw [ht] at hb
  exact kk u.1 u.2 hp H1 locs1 ls hb hS1 hl
theorem r_Vi4 (B : Bx l G X cc nL own rm0 ret0) {y : MethodName} {bytes : ByteArray} {mL i mc ms : Nat} {rm : Room} {b ci N : Nat} {T : u_T} {a0 a1 a2 a3 : Value} {post : Int → Mem → Prop} (hM : Ct l G y bytes mL (some .int) rm [.ref b, a0, a1, a2, a3] M (PoI G post) mc ms) (hM0 : rm.cells = mc ∧ rm.slots = ms) (ok : CalOk y bytes mL (some .int) 4) (vi : VirOk y) (w : Cond.methodLink own i y ∈ tG) (hb0 : At G b ci 0) (hc : vwCl[ci]? = some (y.cls, T, N)) (he : ∀ M, ent G.2.2 M b (ci, 0) = .inr (ci, flds ci b M)) (hf : Fits rm rm0 mL st) (hL : Lft k n rm0 mc ms) (hdg : decode cc pc = .ok (.invokevirtual i, 3)) (kk : ∀ (r : Int) (M' : Mem), post r M' → WM G X (k + mc) (n + ms) Q M' (pc + 3) lv (.int (iI r) :: st)) : WM G X k n Q M pc lv (a3 :: a2 :: a1 :: a0 :: .ref b :: st) := by
  intro H locs ls hP hS hl
  have hl2 := B.2.1
  subst hl2
  refine va_calli (va_runV (As := [a0, a1, a2, a3]) (rest := st) ⟨B.1.1, B.1.2.1, B.1.2.2.1, B.1.2.2.2.1, B.1.2.2.2.2⟩ hM ⟨mk_B B ok w hM0.1 hM0.2 ⟨hf.1, hf.2.1⟩, B.1.2.2.2.2 _ vi.1, B.1.2.2.2.2 _ vi.2⟩ ⟨PreM.blind G M _, mk_R B hP hc hb0 (he M), mk_P B hP hS⟩ rfl rfl (by rw [hl.1]; exact B.1.2.2.1) rfl (lv_room hf.2.2) hdg ⟨by rw [B.2.2.1]; exact hL.1, by rw [B.2.2.1]; exact hL.2⟩) hS (fun q _ h => h) (fun q h => h) (fun r u t H1 locs1 ht hvm hp hb hz hk hS1 => ?_)
  obtain ⟨rfl, hp⟩ := hp
  rw [ht] at hb
  exact kk u.1 u.2 hp H1 locs1 ls hb hS1 hl
theorem r_Vi5 (B : Bx l G X cc nL own rm0 ret0) {y : MethodName} {bytes : ByteArray} {mL i mc ms : Nat} {rm : Room} {b ci N : Nat} {T : u_T} {a0 a1 a2 a3 a4 : Value} {post : Int → Mem → Prop} (hM : Ct l G y bytes mL (some .int) rm [.ref b, a0, a1, a2, a3, a4] M (PoI G post) mc ms) (hM0 : rm.cells = mc ∧ rm.slots = ms) (ok : CalOk y bytes mL (some .int) 5) (vi : VirOk y) (w : Cond.methodLink own i y ∈ tG) (hb0 : At G b ci 0) (hc : vwCl[ci]? = some (y.cls, T, N)) (he : ∀ M, ent G.2.2 M b (ci, 0) = .inr (ci, flds ci b M)) (hf : Fits rm rm0 mL st) (hL : Lft k n rm0 mc ms) (hdg : decode cc pc = .ok (.invokevirtual i, 3)) (kk : ∀ (r : Int) (M' : Mem), post r M' → WM G X (k + mc) (n + ms) Q M' (pc + 3) lv (.int (iI r) :: st)) : WM G X k n Q M pc lv (a4 :: a3 :: a2 :: a1 :: a0 :: .ref b :: st) := by
  intro H locs ls hP hS hl
  have hl2 := B.2.1
  subst hl2
  refine va_calli (va_runV (As := [a0, a1, a2, a3, a4]) (rest := st) ⟨B.1.1, B.1.2.1, B.1.2.2.1, B.1.2.2.2.1, B.1.2.2.2.2⟩ hM ⟨mk_B B ok w hM0.1 hM0.2 ⟨hf.1, hf.2.1⟩, B.1.2.2.2.2 _ vi.1, B.1.2.2.2.2 _ vi.2⟩ ⟨PreM.blind G M _, mk_R B hP hc hb0 (he M), mk_P B hP hS⟩ rfl rfl (by rw [hl.1]; exact B.1.2.2.1) rfl (lv_room hf.2.2) hdg ⟨by rw [B.2.2.1]; exact hL.1, by rw [B.2.2.1]; exact hL.2⟩) hS (fun q _ h => h) (fun q h => h) (fun r u t H1 locs1 ht hvm hp hb hz hk hS1 => ?_)
  obtain ⟨rfl, hp⟩ := hp
  rw [ht] at hb
  exact kk u.1 u.2 hp H1 locs1 ls hb hS1 hl
theorem r_Vz0 (B : Bx l G X cc nL own rm0 ret0) {y : MethodName} {bytes : ByteArray} {mL i mc ms : Nat} {rm : Room} {b ci N : Nat} {T : u_T} {post : Int → Mem → Prop} (hM : Ct l G y bytes mL (some .boolean) rm [.ref b] M (PoI G post) mc ms) (hM0 : rm.cells = mc ∧ rm.slots = ms) (ok : CalOk y bytes mL (some .boolean) 0) (vi : VirOk y) (w : Cond.methodLink own i y ∈ tG) (hb0 : At G b ci 0) (hc : vwCl[ci]? = some (y.cls, T, N)) (he : ∀ M, ent G.2.2 M b (ci, 0) = .inr (ci, flds ci b M)) (hf : Fits rm rm0 mL st) (hL : Lft k n rm0 mc ms) (hdg : decode cc pc = .ok (.invokevirtual i, 3)) (kk : ∀ (r : Int) (M' : Mem), post r M' → WM G X (k + mc) (n + ms) Q M' (pc + 3) lv (.int (iI r) :: st)) : WM G X k n Q M pc lv (.ref b :: st) := by
  intro H locs ls hP hS hl
  have hl2 := B.2.1
  subst hl2
  refine va_calli (va_runV (As := []) (rest := st) ⟨B.1.1, B.1.2.1, B.1.2.2.1, B.1.2.2.2.1, B.1.2.2.2.2⟩ hM ⟨mk_B B ok w hM0.1 hM0.2 ⟨hf.1, hf.2.1⟩, B.1.2.2.2.2 _ vi.1, B.1.2.2.2.2 _ vi.2⟩ ⟨PreM.blind G M _, mk_R B hP hc hb0 (he M), mk_P B hP hS⟩ rfl rfl (by rw [hl.1]; exact B.1.2.2.1) rfl (lv_room hf.2.2) hdg ⟨by rw [B.2.2.1]; exact hL.1, by rw [B.2.2.1]; exact hL.2⟩) hS (fun q _ h => h) (fun q h => h) (fun r u t H1 locs1 ht hvm hp hb hz hk hS1 => ?_)
  obtain ⟨rfl, hp⟩ := hp
  rw [ht] at hb
  exact kk u.1 u.2 hp H1 locs1 ls hb hS1 hl
theorem r_Vz1 (B : Bx l G X cc nL own rm0 ret0) {y : MethodName} {bytes : ByteArray} {mL i mc ms : Nat} {rm : Room} {b ci N : Nat} {T : u_T} {a0 : Value} {post : Int → Mem → Prop} (hM : Ct l G y bytes mL (some .boolean) rm [.ref b, a0] M (PoI G post) mc ms) (hM0 : rm.cells = mc ∧ rm.slots = ms) (ok : CalOk y bytes mL (some .boolean) 1) (vi : VirOk y) (w : Cond.methodLink own i y ∈ tG) (hb0 : At G b ci 0) (hc : vwCl[ci]? = some (y.cls, T, N)) (he : ∀ M, ent G.2.2 M b (ci, 0) = .inr (ci, flds ci b M)) (hf : Fits rm rm0 mL st) (hL : Lft k n rm0 mc ms) (hdg : decode cc pc = .ok (.invokevirtual i, 3)) (kk : ∀ (r : Int) (M' : Mem), post r M' → WM G X (k + mc) (n + ms) Q M' (pc + 3) lv (.int (iI r) :: st)) : WM G X k n Q M pc lv (a0 :: .ref b :: st) := by
  intro H locs ls hP hS hl
  have hl2 := B.2.1
  subst hl2
  refine va_calli (va_runV (As := [a0]) (rest := st) ⟨B.1.1, B.1.2.1, B.1.2.2.1, B.1.2.2.2.1, B.1.2.2.2.2⟩ hM ⟨mk_B B ok w hM0.1 hM0.2 ⟨hf.1, hf.2.1⟩, B.1.2.2.2.2 _ vi.1, B.1.2.2.2.2 _ vi.2⟩ ⟨PreM.blind G M _, mk_R B hP hc hb0 (he M), mk_P B hP hS⟩ rfl rfl (by rw [hl.1]; exact B.1.2.2.1) rfl (lv_room hf.2.2) hdg ⟨by rw [B.2.2.1]; exact hL.1, by rw [B.2.2.1]; exact hL.2⟩) hS (fun q _ h => h) (fun q h => h) (fun r u t H1 locs1 ht hvm hp hb hz hk hS1 => ?_)
  obtain ⟨rfl, hp⟩ := hp
  rw [ht] at hb
  exact kk u.1 u.2 hp H1 locs1 ls hb hS1 hl
theorem r_Vz2 (B : Bx l G X cc nL own rm0 ret0) {y : MethodName} {bytes : ByteArray} {mL i mc ms : Nat} {rm : Room} {b ci N : Nat} {T : u_T} {a0 a1 : Value} {post : Int → Mem → Prop} (hM : Ct l G y bytes mL (some .boolean) rm [.ref b, a0, a1] M (PoI G post) mc ms) (hM0 : rm.cells = mc ∧ rm.slots = ms) (ok : CalOk y bytes mL (some .boolean) 2) (vi : VirOk y) (w : Cond.methodLink own i y ∈ tG) (hb0 : At G b ci 0) (hc : vwCl[ci]? = some (y.cls, T, N)) (he : ∀ M, ent G.2.2 M b (ci, 0) = .inr (ci, flds ci b M)) (hf : Fits rm rm0 mL st) (hL : Lft k n rm0 mc ms) (hdg : decode cc pc = .ok (.invokevirtual i, 3)) (kk : ∀ (r : Int) (M' : Mem), post r M' → WM G X (k + mc) (n + ms) Q M' (pc + 3) lv (.int (iI r) :: st)) : WM G X k n Q M pc lv (a1 :: a0 :: .ref b :: st) := by
  intro H locs ls hP hS hl
  have hl2 := B.2.1
  subst hl2
  refine va_calli (va_runV (As := [a0, a1]) (rest := st) ⟨B.1.1, B.1.2.1, B.1.2.2.1, B.1.2.2.2.1, B.1.2.2.2.2⟩ hM ⟨mk_B B ok w hM0.1 hM0.2 ⟨hf.1, hf.2.1⟩, B.1.2.2.2.2 _ vi.1, B.1.2.2.2.2 _ vi.2⟩ ⟨PreM.blind G M _, mk_R B hP hc hb0 (he M), mk_P B hP hS⟩ rfl rfl (by rw [hl.1]; exact B.1.2.2.1) rfl (lv_room hf.2.2) hdg ⟨by rw [B.2.2.1]; exact hL.1, by rw [B.2.2.1]; exact hL.2⟩) hS (fun q _ h => h) (fun q h => h) (fun r u t H1 locs1 ht hvm hp hb hz hk hS1 => ?_)
  obtain ⟨rfl, hp⟩ := hp
  rw [ht] at hb
  exact kk u.1 u.2 hp H1 locs1 ls hb hS1 hl
theorem r_Vz3 (B : Bx l G X cc nL own rm0 ret0) {y : MethodName} {bytes : ByteArray} {mL i mc ms : Nat} {rm : Room} {b ci N : Nat} {T : u_T} {a0 a1 a2 : Value} {post : Int → Mem → Prop} (hM : Ct l G y bytes mL (some .boolean) rm [.ref b, a0, a1, a2] M (PoI G post) mc ms) (hM0 : rm.cells = mc ∧ rm.slots = ms) (ok : CalOk y bytes mL (some .boolean) 3) (vi : VirOk y) (w : Cond.methodLink own i y ∈ tG) (hb0 : At G b ci 0) (hc : vwCl[ci]? = some (y.cls, T, N)) (he : ∀ M, ent G.2.2 M b (ci, 0) = .inr (ci, flds ci b M)) (hf : Fits rm rm0 mL st) (hL : Lft k n rm0 mc ms) (hdg : decode cc pc = .ok (.invokevirtual i, 3)) (kk : ∀ (r : Int) (M' : Mem), post r M' → WM G X (k + mc) (n + ms) Q M' (pc + 3) lv (.int (iI r) :: st)) : WM G X k n Q M pc lv (a2 :: a1 :: a0 :: .ref b :: st) := by
  intro H locs ls hP hS hl
  have hl2 := B.2.1
  subst hl2
  refine va_calli (va_runV (As := [a0, a1, a2]) (rest := st) ⟨B.1.1, B.1.2.1, B.1.2.2.1, B.1.2.2.2.1, B.1.2.2.2.2⟩ hM ⟨mk_B B ok w hM0.1 hM0.2 ⟨hf.1, hf.2.1⟩, B.1.2.2.2.2 _ vi.1, B.1.2.2.2.2 _ vi.2⟩ ⟨PreM.blind G M _, mk_R B hP hc hb0 (he M), mk_P B hP hS⟩ rfl rfl (by rw [hl.1]; exact B.1.2.2.1) rfl (lv_room hf.2.2) hdg ⟨by rw [B.2.2.1]; exact hL.1, by rw [B.2.2.1]; exact hL.2⟩) hS (fun q _ h => h) (fun q h => h) (fun r u t H1 locs1 ht hvm hp hb hz hk hS1 => ?_)
  obtain ⟨rfl, hp⟩ := hp
  rw [ht] at hb
  exact kk u.1 u.2 hp H1 locs1 ls hb hS1 hl
theorem r_Vz4 (B : Bx l G X cc nL own rm0 ret0) {y : MethodName} {bytes : ByteArray} {mL i mc ms : Nat} {rm : Room} {b ci N : Nat} {T : u_T} {a0 a1 a2 a3 : Value} {post : Int → Mem → Prop} (hM : Ct l G y bytes mL (some .boolean) rm [.ref b, a0, a1, a2, a3] M (PoI G post) mc ms) (hM0 : rm.cells = mc ∧ rm.slots = ms) (ok : CalOk y bytes mL (some .boolean) 4) (vi : VirOk y) (w : Cond.methodLink own i y ∈ tG) (hb0 : At G b ci 0) (hc : vwCl[ci]? = some (y.cls, T, N)) (he : ∀ M, ent G.2.2 M b (ci, 0) = .inr (ci, flds ci b M)) (hf : Fits rm rm0 mL st) (hL : Lft k n rm0 mc ms) (hdg : decode cc pc = .ok (.invokevirtual i, 3)) (kk : ∀ (r : Int) (M' : Mem), post r M' → WM G X (k + mc) (n + ms) Q M' (pc + 3) lv (.int (iI r) :: st)) : WM G X k n Q M pc lv (a3 :: a2 :: a1 :: a0 :: .ref b :: st) := by
  intro H locs ls hP hS hl
  have hl2 := B.2.1
  subst hl2
  refine va_calli (va_runV (As := [a0, a1, a2, a3]) (rest := st) ⟨B.1.1, B.1.2.1, B.1.2.2.1, B.1.2.2.2.1, B.1.2.2.2.2⟩ hM ⟨mk_B B ok w hM0.1 hM0.2 ⟨hf.1, hf.2.1⟩, B.1.2.2.2.2 _ vi.1, B.1.2.2.2.2 _ vi.2⟩ ⟨PreM.blind G M _, mk_R B hP hc hb0 (he M), mk_P B hP hS⟩ rfl rfl (by rw [hl.1]; exact B.1.2.2.1) rfl (lv_room hf.2.2) hdg ⟨by rw [B.2.2.1]; exact hL.1, by rw [B.2.2.1]; exact hL.2⟩) hS (fun q _ h => h) (fun q h => h) (fun r u t H1 locs1 ht hvm hp hb hz hk hS1 => ?_)
  obtain ⟨rfl, hp⟩ := hp
  rw [ht] at hb
  exact kk u.1 u.2 hp H1 locs1 ls hb hS1 hl
theorem r_Vz5 (B : Bx l G X cc nL own rm0 ret0) {y : MethodName} {bytes : ByteArray} {mL i mc ms : Nat} {rm : Room} {b ci N : Nat} {T : u_T} {a0 a1 a2 a3 a4 : Value} {post : Int → Mem → Prop} (hM : Ct l G y bytes mL (some .boolean) rm [.ref b, a0, a1, a2, a3, a4] M (PoI G post) mc ms) (hM0 : rm.cells = mc ∧ rm.slots = ms) (ok : CalOk y bytes mL (some .boolean) 5) (vi : VirOk y) (w : Cond.methodLink own i y ∈ tG) (hb0 : At G b ci 0) (hc : vwCl[ci]? = some (y.cls, T, N)) (he : ∀ M, ent G.2.2 M b (ci, 0) = .inr (ci, flds ci b M)) (hf : Fits rm rm0 mL st) (hL : Lft k n rm0 mc ms) (hdg : decode cc pc = .ok (.invokevirtual i, 3)) (kk : ∀ (r : Int) (M' : Mem), post r M' → WM G X (k + mc) (n + ms) Q M' (pc + 3) lv (.int (iI r) :: st)) : WM G X k n Q M pc lv (a4 :: a3 :: a2 :: a1 :: a0 :: .ref b :: st) := by
  intro H locs ls hP hS hl
  have hl2 := B.2.1
  subst hl2
  refine va_calli (va_runV (As := [a0, a1, a2, a3, a4]) (rest := st) ⟨B.1.1, B.1.2.1, B.1.2.2.1, B.1.2.2.2.1, B.1.2.2.2.2⟩ hM ⟨mk_B B ok w hM0.1 hM0.2 ⟨hf.1, hf.2.1⟩, B.1.2.2.2.2 _ vi.1, B.1.2.2.2.2 _ vi.2⟩ ⟨PreM.blind G M _, mk_R B hP hc hb0 (he M), mk_P B hP hS⟩ rfl rfl (by rw [hl.1]; exact B.1.2.2.1) rfl (lv_room hf.2.2) hdg ⟨by rw [B.2.2.1]; exact hL.1, by rw [B.2.2.1]; exact hL.2⟩) hS (fun q _ h => h) (fun q h => h) (fun r u t H1 locs1 ht hvm hp hb hz hk hS1 => ?_)
  obtain ⟨rfl, hp⟩ := hp
  rw [ht] at hb
  exact kk u.1 u.2 hp H1 locs1 ls hb hS1 hl
theorem r_Vl0 (B : Bx l G X cc nL own rm0 ret0) {y : MethodName} {bytes : ByteArray} {mL i mc ms : Nat} {rm : Room} {b ci N : Nat} {T : u_T} {post : Int → Mem → Prop} (hM : Ct l G y bytes mL (some .long) rm [.ref b] M (PoL G post) mc ms) (hM0 : rm.cells = mc ∧ rm.slots = ms) (ok : CalOk y bytes mL (some .long) 0) (vi : VirOk y) (w : Cond.methodLink own i y ∈ tG) (hb0 : At G b ci 0) (hc : vwCl[ci]? = some (y.cls, T, N)) (he : ∀ M, ent G.2.2 M b (ci, 0) = .inr (ci, flds ci b M)) (hf : Fits rm rm0 mL st) (hL : Lft k n rm0 mc ms) (hdg : decode cc pc = .ok (.invokevirtual i, 3)) (kk : ∀ (r : Int) (M' : Mem), post r M' → WM G X (k + mc) (n + ms) Q M' (pc + 3) lv (.long (lI r) :: st)) : WM G X k n Q M pc lv (.ref b :: st) := by
  intro H locs ls hP hS hl
  have hl2 := B.2.1
  subst hl2
  refine va_calll (va_runV (As := []) (rest := st) ⟨B.1.1, B.1.2.1, B.1.2.2.1, B.1.2.2.2.1, B.1.2.2.2.2⟩ hM ⟨mk_B B ok w hM0.1 hM0.2 ⟨hf.1, hf.2.1⟩, B.1.2.2.2.2 _ vi.1, B.1.2.2.2.2 _ vi.2⟩ ⟨PreM.blind G M _, mk_R B hP hc hb0 (he M), mk_P B hP hS⟩ rfl rfl (by rw [hl.1]; exact B.1.2.2.1) rfl (lv_room hf.2.2) hdg ⟨by rw [B.2.2.1]; exact hL.1, by rw [B.2.2.1]; exact hL.2⟩) hS (fun q _ h => h) (fun q h => h) (fun r u t H1 locs1 ht hvm hp hb hz hk hS1 => ?_)
  obtain ⟨rfl, hp⟩ := hp
  rw [ht] at hb
  exact kk u.1 u.2 hp H1 locs1 ls hb hS1 hl
theorem r_Vl1 (B : Bx l G X cc nL own rm0 ret0) {y : MethodName} {bytes : ByteArray} {mL i mc ms : Nat} {rm : Room} {b ci N : Nat} {T : u_T} {a0 : Value} {post : Int → Mem → Prop} (hM : Ct l G y bytes mL (some .long) rm [.ref b, a0] M (PoL G post) mc ms) (hM0 : rm.cells = mc ∧ rm.slots = ms) (ok : CalOk y bytes mL (some .long) 1) (vi : VirOk y) (w : Cond.methodLink own i y ∈ tG) (hb0 : At G b ci 0) (hc : vwCl[ci]? = some (y.cls, T, N)) (he : ∀ M, ent G.2.2 M b (ci, 0) = .inr (ci, flds ci b M)) (hf : Fits rm rm0 mL st) (hL : Lft k n rm0 mc ms) (hdg : decode cc pc = .ok (.invokevirtual i, 3)) (kk : ∀ (r : Int) (M' : Mem), post r M' → WM G X (k + mc) (n + ms) Q M' (pc + 3) lv (.long (lI r) :: st)) : WM G X k n Q M pc lv (a0 :: .ref b :: st) := by
  intro H locs ls hP hS hl
  have hl2 := B.2.1
  subst hl2
  refine va_calll (va_runV (As := [a0]) (rest := st) ⟨B.1.1, B.1.2.1, B.1.2.2.1, B.1.2.2.2.1, B.1.2.2.2.2⟩ hM ⟨mk_B B ok w hM0.1 hM0.2 ⟨hf.1, hf.2.1⟩, B.1.2.2.2.2 _ vi.1, B.1.2.2.2.2 _ vi.2⟩ ⟨PreM.blind G M _, mk_R B hP hc hb0 (he M), mk_P B hP hS⟩ rfl rfl (by rw [hl.1]; exact B.1.2.2.1) rfl (lv_room hf.2.2) hdg ⟨by rw [B.2.2.1]; exact hL.1, by rw [B.2.2.1]; exact hL.2⟩) hS (fun q _ h => h) (fun q h => h) (fun r u t H1 locs1 ht hvm hp hb hz hk hS1 => ?_)
  obtain ⟨rfl, hp⟩ := hp
  rw [ht] at hb
  exact kk u.1 u.2 hp H1 locs1 ls hb hS1 hl
theorem r_Vl2 (B : Bx l G X cc nL own rm0 ret0) {y : MethodName} {bytes : ByteArray} {mL i mc ms : Nat} {rm : Room} {b ci N : Nat} {T : u_T} {a0 a1 : Value} {post : Int → Mem → Prop} (hM : Ct l G y bytes mL (some .long) rm [.ref b, a0, a1] M (PoL G post) mc ms) (hM0 : rm.cells = mc ∧ rm.slots = ms) (ok : CalOk y bytes mL (some .long) 2) (vi : VirOk y) (w : Cond.methodLink own i y ∈ tG) (hb0 : At G b ci 0) (hc : vwCl[ci]? = some (y.cls, T, N)) (he : ∀ M, ent G.2.2 M b (ci, 0) = .inr (ci, flds ci b M)) (hf : Fits rm rm0 mL st) (hL : Lft k n rm0 mc ms) (hdg : decode cc pc = .ok (.invokevirtual i, 3)) (kk : ∀ (r : Int) (M' : Mem), post r M' → WM G X (k + mc) (n + ms) Q M' (pc + 3) lv (.long (lI r) :: st)) : WM G X k n Q M pc lv (a1 :: a0 :: .ref b :: st) := by
  intro H locs ls hP hS hl
  have hl2 := B.2.1
  subst hl2
  refine va_calll (va_runV (As := [a0, a1]) (rest := st) ⟨B.1.1, B.1.2.1, B.1.2.2.1, B.1.2.2.2.1, B.1.2.2.2.2⟩ hM ⟨mk_B B ok w hM0.1 hM0.2 ⟨hf.1, hf.2.1⟩, B.1.2.2.2.2 _ vi.1, B.1.2.2.2.2 _ vi.2⟩ ⟨PreM.blind G M _, mk_R B hP hc hb0 (he M), mk_P B hP hS⟩ rfl rfl (by rw [hl.1]; exact B.1.2.2.1) rfl (lv_room hf.2.2) hdg ⟨by rw [B.2.2.1]; exact hL.1, by rw [B.2.2.1]; exact hL.2⟩) hS (fun q _ h => h) (fun q h => h) (fun r u t H1 locs1 ht hvm hp hb hz hk hS1 => ?_)
  obtain ⟨rfl, hp⟩ := hp
  rw [ht] at hb
  exact kk u.1 u.2 hp H1 locs1 ls hb hS1 hl
theorem r_Vl3 (B : Bx l G X cc nL own rm0 ret0) {y : MethodName} {bytes : ByteArray} {mL i mc ms : Nat} {rm : Room} {b ci N : Nat} {T : u_T} {a0 a1 a2 : Value} {post : Int → Mem → Prop} (hM : Ct l G y bytes mL (some .long) rm [.ref b, a0, a1, a2] M (PoL G post) mc ms) (hM0 : rm.cells = mc ∧ rm.slots = ms) (ok : CalOk y bytes mL (some .long) 3) (vi : VirOk y) (w : Cond.methodLink own i y ∈ tG) (hb0 : At G b ci 0) (hc : vwCl[ci]? = some (y.cls, T, N)) (he : ∀ M, ent G.2.2 M b (ci, 0) = .inr (ci, flds ci b M)) (hf : Fits rm rm0 mL st) (hL : Lft k n rm0 mc ms) (hdg : decode cc pc = .ok (.invokevirtual i, 3)) (kk : ∀ (r : Int) (M' : Mem), post r M' → WM G X (k + mc) (n + ms) Q M' (pc + 3) lv (.long (lI r) :: st)) : WM G X k n Q M pc lv (a2 :: a1 :: a0 :: .ref b :: st) := by
  intro H locs ls hP hS hl
  have hl2 := B.2.1
  subst hl2
  refine va_calll (va_runV (As := [a0, a1, a2]) (rest := st) ⟨B.1.1, B.1.2.1, B.1.2.2.1, B.1.2.2.2.1, B.1.2.2.2.2⟩ hM ⟨mk_B B ok w hM0.1 hM0.2 ⟨hf.1, hf.2.1⟩, B.1.2.2.2.2 _ vi.1, B.1.2.2.2.2 _ vi.2⟩ ⟨PreM.blind G M _, mk_R B hP hc hb0 (he M), mk_P B hP hS⟩ rfl rfl (by rw [hl.1]; exact B.1.2.2.1) rfl (lv_room hf.2.2) hdg ⟨by rw [B.2.2.1]; exact hL.1, by rw [B.2.2.1]; exact hL.2⟩) hS (fun q _ h => h) (fun q h => h) (fun r u t H1 locs1 ht hvm hp hb hz hk hS1 => ?_)
  obtain ⟨rfl, hp⟩ := hp
  rw [ht] at hb
  exact kk u.1 u.2 hp H1 locs1 ls hb hS1 hl
theorem r_Vl4 (B : Bx l G X cc nL own rm0 ret0) {y : MethodName} {bytes : ByteArray} {mL i mc ms : Nat} {rm : Room} {b ci N : Nat} {T : u_T} {a0 a1 a2 a3 : Value} {post : Int → Mem → Prop} (hM : Ct l G y bytes mL (some .long) rm [.ref b, a0, a1, a2, a3] M (PoL G post) mc ms) (hM0 : rm.cells = mc ∧ rm.slots = ms) (ok : CalOk y bytes mL (some .long) 4) (vi : VirOk y) (w : Cond.methodLink own i y ∈ tG) (hb0 : At G b ci 0) (hc : vwCl[ci]? = some (y.cls, T, N)) (he : ∀ M, ent G.2.2 M b (ci, 0) = .inr (ci, flds ci b M)) (hf : Fits rm rm0 mL st) (hL : Lft k n rm0 mc ms) (hdg : decode cc pc = .ok (.invokevirtual i, 3)) (kk : ∀ (r : Int) (M' : Mem), post r M' → WM G X (k + mc) (n + ms) Q M' (pc + 3) lv (.long (lI r) :: st)) : WM G X k n Q M pc lv (a3 :: a2 :: a1 :: a0 :: .ref b :: st) := by
  intro H locs ls hP hS hl
  have hl2 := B.2.1
  subst hl2
  refine va_calll (va_runV (As := [a0, a1, a2, a3]) (rest := st) ⟨B.1.1, B.1.2.1, B.1.2.2.1, B.1.2.2.2.1, B.1.2.2.2.2⟩ hM ⟨mk_B B ok w hM0.1 hM0.2 ⟨hf.1, hf.2.1⟩, B.1.2.2.2.2 _ vi.1, B.1.2.2.2.2 _ vi.2⟩ ⟨PreM.blind G M _, mk_R B hP hc hb0 (he M), mk_P B hP hS⟩ rfl rfl (by rw [hl.1]; exact B.1.2.2.1) rfl (lv_room hf.2.2) hdg ⟨by rw [B.2.2.1]; exact hL.1, by rw [B.2.2.1]; exact hL.2⟩) hS (fun q _ h => h) (fun q h => h) (fun r u t H1 locs1 ht hvm hp hb hz hk hS1 => ?_)
  obtain ⟨rfl, hp⟩ := hp
  rw [ht] at hb
  exact kk u.1 u.2 hp H1 locs1 ls hb hS1 hl
theorem r_Vl5 (B : Bx l G X cc nL own rm0 ret0) {y : MethodName} {bytes : ByteArray} {mL i mc ms : Nat} {rm : Room} {b ci N : Nat} {T : u_T} {a0 a1 a2 a3 a4 : Value} {post : Int → Mem → Prop} (hM : Ct l G y bytes mL (some .long) rm [.ref b, a0, a1, a2, a3, a4] M (PoL G post) mc ms) (hM0 : rm.cells = mc ∧ rm.slots = ms) (ok : CalOk y bytes mL (some .long) 5) (vi : VirOk y) (w : Cond.methodLink own i y ∈ tG) (hb0 : At G b ci 0) (hc : vwCl[ci]? = some (y.cls, T, N)) (he : ∀ M, ent G.2.2 M b (ci, 0) = .inr (ci, flds ci b M)) (hf : Fits rm rm0 mL st) (hL : Lft k n rm0 mc ms) (hdg : decode cc pc = .ok (.invokevirtual i, 3)) (kk : ∀ (r : Int) (M' : Mem), post r M' → WM G X (k + mc) (n + ms) Q M' (pc + 3) lv (.long (lI r) :: st)) : WM G X k n Q M pc lv (a4 :: a3 :: a2 :: a1 :: a0 :: .ref b :: st) := by
  intro H locs ls hP hS hl
  have hl2 := B.2.1
  subst hl2
  refine va_calll (va_runV (As := [a0, a1, a2, a3, a4]) (rest := st) ⟨B.1.1, B.1.2.1, B.1.2.2.1, B.1.2.2.2.1, B.1.2.2.2.2⟩ hM ⟨mk_B B ok w hM0.1 hM0.2 ⟨hf.1, hf.2.1⟩, B.1.2.2.2.2 _ vi.1, B.1.2.2.2.2 _ vi.2⟩ ⟨PreM.blind G M _, mk_R B hP hc hb0 (he M), mk_P B hP hS⟩ rfl rfl (by rw [hl.1]; exact B.1.2.2.1) rfl (lv_room hf.2.2) hdg ⟨by rw [B.2.2.1]; exact hL.1, by rw [B.2.2.1]; exact hL.2⟩) hS (fun q _ h => h) (fun q h => h) (fun r u t H1 locs1 ht hvm hp hb hz hk hS1 => ?_)
  obtain ⟨rfl, hp⟩ := hp
  rw [ht] at hb
  exact kk u.1 u.2 hp H1 locs1 ls hb hS1 hl
theorem r_Vv0 (B : Bx l G X cc nL own rm0 ret0) {y : MethodName} {bytes : ByteArray} {mL i mc ms : Nat} {rm : Room} {b ci N : Nat} {T : u_T} {post : Mem → Prop} (hM : Ct l G y bytes mL (none) rm [.ref b] M (PoV G post) mc ms) (hM0 : rm.cells = mc ∧ rm.slots = ms) (ok : CalOk y bytes mL (none) 0) (vi : VirOk y) (w : Cond.methodLink own i y ∈ tG) (hb0 : At G b ci 0) (hc : vwCl[ci]? = some (y.cls, T, N)) (he : ∀ M, ent G.2.2 M b (ci, 0) = .inr (ci, flds ci b M)) (hf : Fits rm rm0 mL st) (hL : Lft k n rm0 mc ms) (hdg : decode cc pc = .ok (.invokevirtual i, 3)) (kk : ∀ (M' : Mem), post M' → WM G X (k + mc) (n + ms) Q M' (pc + 3) lv (st)) : WM G X k n Q M pc lv (.ref b :: st) := by
  intro H locs ls hP hS hl
  have hl2 := B.2.1
  subst hl2
  refine va_callv (va_runV (As := []) (rest := st) ⟨B.1.1, B.1.2.1, B.1.2.2.1, B.1.2.2.2.1, B.1.2.2.2.2⟩ hM ⟨mk_B B ok w hM0.1 hM0.2 ⟨hf.1, hf.2.1⟩, B.1.2.2.2.2 _ vi.1, B.1.2.2.2.2 _ vi.2⟩ ⟨PreM.blind G M _, mk_R B hP hc hb0 (he M), mk_P B hP hS⟩ rfl rfl (by rw [hl.1]; exact B.1.2.2.1) rfl (lv_room hf.2.2) hdg ⟨by rw [B.2.2.1]; exact hL.1, by rw [B.2.2.1]; exact hL.2⟩) hS (fun q _ h => h) (fun q h => h) (fun u t H1 locs1 ht hvm hp hb hz hk hS1 => ?_)
  skip
  rw [ht] at hb
  exact kk u hp H1 locs1 ls hb hS1 hl
theorem r_Vv1 (B : Bx l G X cc nL own rm0 ret0) {y : MethodName} {bytes : ByteArray} {mL i mc ms : Nat} {rm : Room} {b ci N : Nat} {T : u_T} {a0 : Value} {post : Mem → Prop} (hM : Ct l G y bytes mL (none) rm [.ref b, a0] M (PoV G post) mc ms) (hM0 : rm.cells = mc ∧ rm.slots = ms) (ok : CalOk y bytes mL (none) 1) (vi : VirOk y) (w : Cond.methodLink own i y ∈ tG) (hb0 : At G b ci 0) (hc : vwCl[ci]? = some (y.cls, T, N)) (he : ∀ M, ent G.2.2 M b (ci, 0) = .inr (ci, flds ci b M)) (hf : Fits rm rm0 mL st) (hL : Lft k n rm0 mc ms) (hdg : decode cc pc = .ok (.invokevirtual i, 3)) (kk : ∀ (M' : Mem), post M' → WM G X (k + mc) (n + ms) Q M' (pc + 3) lv (st)) : WM G X k n Q M pc lv (a0 :: .ref b :: st) := by
  intro H locs ls hP hS hl
  have hl2 := B.2.1
  subst hl2
  refine va_callv (va_runV (As := [a0]) (rest := st) ⟨B.1.1, B.1.2.1, B.1.2.2.1, B.1.2.2.2.1, B.1.2.2.2.2⟩ hM ⟨mk_B B ok w hM0.1 hM0.2 ⟨hf.1, hf.2.1⟩, B.1.2.2.2.2 _ vi.1, B.1.2.2.2.2 _ vi.2⟩ ⟨PreM.blind G M _, mk_R B hP hc hb0 (he M), mk_P B hP hS⟩ rfl rfl (by rw [hl.1]; exact B.1.2.2.1) rfl (lv_room hf.2.2) hdg ⟨by rw [B.2.2.1]; exact hL.1, by rw [B.2.2.1]; exact hL.2⟩) hS (fun q _ h => h) (fun q h => h) (fun u t H1 locs1 ht hvm hp hb hz hk hS1 => ?_)
  skip
  rw [ht] at hb
  exact kk u hp H1 locs1 ls hb hS1 hl
theorem r_Vv2 (B : Bx l G X cc nL own rm0 ret0) {y : MethodName} {bytes : ByteArray} {mL i mc ms : Nat} {rm : Room} {b ci N : Nat} {T : u_T} {a0 a1 : Value} {post : Mem → Prop} (hM : Ct l G y bytes mL (none) rm [.ref b, a0, a1] M (PoV G post) mc ms) (hM0 : rm.cells = mc ∧ rm.slots = ms) (ok : CalOk y bytes mL (none) 2) (vi : VirOk y) (w : Cond.methodLink own i y ∈ tG) (hb0 : At G b ci 0) (hc : vwCl[ci]? = some (y.cls, T, N)) (he : ∀ M, ent G.2.2 M b (ci, 0) = .inr (ci, flds ci b M)) (hf : Fits rm rm0 mL st) (hL : Lft k n rm0 mc ms) (hdg : decode cc pc = .ok (.invokevirtual i, 3)) (kk : ∀ (M' : Mem), post M' → WM G X (k + mc) (n + ms) Q M' (pc + 3) lv (st)) : WM G X k n Q M pc lv (a1 :: a0 :: .ref b :: st) := by
  intro H locs ls hP hS hl
  have hl2 := B.2.1
  subst hl2
  refine va_callv (va_runV (As := [a0, a1]) (rest := st) ⟨B.1.1, B.1.2.1, B.1.2.2.1, B.1.2.2.2.1, B.1.2.2.2.2⟩ hM ⟨mk_B B ok w hM0.1 hM0.2 ⟨hf.1, hf.2.1⟩, B.1.2.2.2.2 _ vi.1, B.1.2.2.2.2 _ vi.2⟩ ⟨PreM.blind G M _, mk_R B hP hc hb0 (he M), mk_P B hP hS⟩ rfl rfl (by rw [hl.1]; exact B.1.2.2.1) rfl (lv_room hf.2.2) hdg ⟨by rw [B.2.2.1]; exact hL.1, by rw [B.2.2.1]; exact hL.2⟩) hS (fun q _ h => h) (fun q h => h) (fun u t H1 locs1 ht hvm hp hb hz hk hS1 => ?_)
  skip
  rw [ht] at hb
  exact kk u hp H1 locs1 ls hb hS1 hl
theorem r_Vv3 (B : Bx l G X cc nL own rm0 ret0) {y : MethodName} {bytes : ByteArray} {mL i mc ms : Nat} {rm : Room} {b ci N : Nat} {T : u_T} {a0 a1 a2 : Value} {post : Mem → Prop} (hM : Ct l G y bytes mL (none) rm [.ref b, a0, a1, a2] M (PoV G post) mc ms) (hM0 : rm.cells = mc ∧ rm.slots = ms) (ok : CalOk y bytes mL (none) 3) (vi : VirOk y) (w : Cond.methodLink own i y ∈ tG) (hb0 : At G b ci 0) (hc : vwCl[ci]? = some (y.cls, T, N)) (he : ∀ M, ent G.2.2 M b (ci, 0) = .inr (ci, flds ci b M)) (hf : Fits rm rm0 mL st) (hL : Lft k n rm0 mc ms) (hdg : decode cc pc = .ok (.invokevirtual i, 3)) (kk : ∀ (M' : Mem), post M' → WM G X (k + mc) (n + ms) Q M' (pc + 3) lv (st)) : WM G X k n Q M pc lv (a2 :: a1 :: a0 :: .ref b :: st) := by
  intro H locs ls hP hS hl
  have hl2 := B.2.1
  subst hl2
  refine va_callv (va_runV (As := [a0, a1, a2]) (rest := st) ⟨B.1.1, B.1.2.1, B.1.2.2.1, B.1.2.2.2.1, B.1.2.2.2.2⟩ hM ⟨mk_B B ok w hM0.1 hM0.2 ⟨hf.1, hf.2.1⟩, B.1.2.2.2.2 _ vi.1, B.1.2.2.2.2 _ vi.2⟩ ⟨PreM.blind G M _, mk_R B hP hc hb0 (he M), mk_P B hP hS⟩ rfl rfl (by rw [hl.1]; exact B.1.2.2.1) rfl (lv_room hf.2.2) hdg ⟨by rw [B.2.2.1]; exact hL.1, by rw [B.2.2.1]; exact hL.2⟩) hS (fun q _ h => h) (fun q h => h) (fun u t H1 locs1 ht hvm hp hb hz hk hS1 => ?_)
  skip
  rw [ht] at hb
  exact kk u hp H1 locs1 ls hb hS1 hl
theorem r_Vv4 (B : Bx l G X cc nL own rm0 ret0) {y : MethodName} {bytes : ByteArray} {mL i mc ms : Nat} {rm : Room} {b ci N : Nat} {T : u_T} {a0 a1 a2 a3 : Value} {post : Mem → Prop} (hM : Ct l G y bytes mL (none) rm [.ref b, a0, a1, a2, a3] M (PoV G post) mc ms) (hM0 : rm.cells = mc ∧ rm.slots = ms) (ok : CalOk y bytes mL (none) 4) (vi : VirOk y) (w : Cond.methodLink own i y ∈ tG) (hb0 : At G b ci 0) (hc : vwCl[ci]? = some (y.cls, T, N)) (he : ∀ M, ent G.2.2 M b (ci, 0) = .inr (ci, flds ci b M)) (hf : Fits rm rm0 mL st) (hL : Lft k n rm0 mc ms) (hdg : decode cc pc = .ok (.invokevirtual i, 3)) (kk : ∀ (M' : Mem), post M' → WM G X (k + mc) (n + ms) Q M' (pc + 3) lv (st)) : WM G X k n Q M pc lv (a3 :: a2 :: a1 :: a0 :: .ref b :: st) := by
  intro H locs ls hP hS hl
  have hl2 := B.2.1
  subst hl2
  refine va_callv (va_runV (As := [a0, a1, a2, a3]) (rest := st) ⟨B.1.1, B.1.2.1, B.1.2.2.1, B.1.2.2.2.1, B.1.2.2.2.2⟩ hM ⟨mk_B B ok w hM0.1 hM0.2 ⟨hf.1, hf.2.1⟩, B.1.2.2.2.2 _ vi.1, B.1.2.2.2.2 _ vi.2⟩ ⟨PreM.blind G M _, mk_R B hP hc hb0 (he M), mk_P B hP hS⟩ rfl rfl (by rw [hl.1]; exact B.1.2.2.1) rfl (lv_room hf.2.2) hdg ⟨by rw [B.2.2.1]; exact hL.1, by rw [B.2.2.1]; exact hL.2⟩) hS (fun q _ h => h) (fun q h => h) (fun u t H1 locs1 ht hvm hp hb hz hk hS1 => ?_)
  skip
  rw [ht] at hb
  exact kk u hp H1 locs1 ls hb hS1 hl
theorem r_Vv5 (B : Bx l G X cc nL own rm0 ret0) {y : MethodName} {bytes : ByteArray} {mL i mc ms : Nat} {rm : Room} {b ci N : Nat} {T : u_T} {a0 a1 a2 a3 a4 : Value} {post : Mem → Prop} (hM : Ct l G y bytes mL (none) rm [.ref b, a0, a1, a2, a3, a4] M (PoV G post) mc ms) (hM0 : rm.cells = mc ∧ rm.slots = ms) (ok : CalOk y bytes mL (none) 5) (vi : VirOk y) (w : Cond.methodLink own i y ∈ tG) (hb0 : At G b ci 0) (hc : vwCl[ci]? = some (y.cls, T, N)) (he : ∀ M, ent G.2.2 M b (ci, 0) = .inr (ci, flds ci b M)) (hf : Fits rm rm0 mL st) (hL : Lft k n rm0 mc ms) (hdg : decode cc pc = .ok (.invokevirtual i, 3)) (kk : ∀ (M' : Mem), post M' → WM G X (k + mc) (n + ms) Q M' (pc + 3) lv (st)) : WM G X k n Q M pc lv (a4 :: a3 :: a2 :: a1 :: a0 :: .ref b :: st) := by
  intro H locs ls hP hS hl
  have hl2 := B.2.1
  subst hl2
  refine va_callv (va_runV (As := [a0, a1, a2, a3, a4]) (rest := st) ⟨B.1.1, B.1.2.1, B.1.2.2.1, B.1.2.2.2.1, B.1.2.2.2.2⟩ hM ⟨mk_B B ok w hM0.1 hM0.2 ⟨hf.1, hf.2.1⟩, B.1.2.2.2.2 _ vi.1, B.1.2.2.2.2 _ vi.2⟩ ⟨PreM.blind G M _, mk_R B hP hc hb0 (he M), mk_P B hP hS⟩ rfl rfl (by rw [hl.1]; exact B.1.2.2.1) rfl (lv_room hf.2.2) hdg ⟨by rw [B.2.2.1]; exact hL.1, by rw [B.2.2.1]; exact hL.2⟩) hS (fun q _ h => h) (fun q h => h) (fun u t H1 locs1 ht hvm hp hb hz hk hS1 => ?_)
  skip
  rw [ht] at hb
  exact kk u hp H1 locs1 ls hb hS1 hl
theorem r_Va0 (B : Bx l G X cc nL own rm0 ret0) {y : MethodName} {bytes : ByteArray} {mL i mc ms : Nat} {rm : Room} {b ci N : Nat} {T : u_T} {C : String} {post : Nat → Mem → Prop} (hM : Ct l G y bytes mL (some (.object C)) rm [.ref b] M (PoA G post) mc ms) (hM0 : rm.cells = mc ∧ rm.slots = ms) (ok : CalOk y bytes mL (some (.object C)) 0) (vi : VirOk y) (w : Cond.methodLink own i y ∈ tG) (hb0 : At G b ci 0) (hc : vwCl[ci]? = some (y.cls, T, N)) (he : ∀ M, ent G.2.2 M b (ci, 0) = .inr (ci, flds ci b M)) (hf : Fits rm rm0 mL st) (hL : Lft k n rm0 mc ms) (hdg : decode cc pc = .ok (.invokevirtual i, 3)) (kk : ∀ (r : Nat) (M' : Mem), post r M' → WM G X (k + mc) (n + ms) Q M' (pc + 3) lv (.ref r :: st)) : WM G X k n Q M pc lv (.ref b :: st) := by
  intro H locs ls hP hS hl
  have hl2 := B.2.1
  subst hl2
  refine va_callq (va_runV (As := []) (rest := st) ⟨B.1.1, B.1.2.1, B.1.2.2.1, B.1.2.2.2.1, B.1.2.2.2.2⟩ hM ⟨mk_B B ok w hM0.1 hM0.2 ⟨hf.1, hf.2.1⟩, B.1.2.2.2.2 _ vi.1, B.1.2.2.2.2 _ vi.2⟩ ⟨PreM.blind G M _, mk_R B hP hc hb0 (he M), mk_P B hP hS⟩ rfl rfl (by rw [hl.1]; exact B.1.2.2.1) rfl (lv_room hf.2.2) hdg ⟨by rw [B.2.2.1]; exact hL.1, by rw [B.2.2.1]; exact hL.2⟩) hS (fun q _ h => h) (fun q h => h) (fun r u t H1 locs1 ht hvm hp hb hz hk hS1 => ?_)
  obtain ⟨rfl, hp⟩ := hp
  rw [ht] at hb
  exact kk u.1 u.2 hp H1 locs1 ls hb hS1 hl
theorem r_Va1 (B : Bx l G X cc nL own rm0 ret0) {y : MethodName} {bytes : ByteArray} {mL i mc ms : Nat} {rm : Room} {b ci N : Nat} {T : u_T} {a0 : Value} {C : String} {post : Nat → Mem → Prop} (hM : Ct l G y bytes mL (some (.object C)) rm [.ref b, a0] M (PoA G post) mc ms) (hM0 : rm.cells = mc ∧ rm.slots = ms) (ok : CalOk y bytes mL (some (.object C)) 1) (vi : VirOk y) (w : Cond.methodLink own i y ∈ tG) (hb0 : At G b ci 0) (hc : vwCl[ci]? = some (y.cls, T, N)) (he : ∀ M, ent G.2.2 M b (ci, 0) = .inr (ci, flds ci b M)) (hf : Fits rm rm0 mL st) (hL : Lft k n rm0 mc ms) (hdg : decode cc pc = .ok (.invokevirtual i, 3)) (kk : ∀ (r : Nat) (M' : Mem), post r M' → WM G X (k + mc) (n + ms) Q M' (pc + 3) lv (.ref r :: st)) : WM G X k n Q M pc lv (a0 :: .ref b :: st) := by
  intro H locs ls hP hS hl
  have hl2 := B.2.1
  subst hl2
  refine va_callq (va_runV (As := [a0]) (rest := st) ⟨B.1.1, B.1.2.1, B.1.2.2.1, B.1.2.2.2.1, B.1.2.2.2.2⟩ hM ⟨mk_B B ok w hM0.1 hM0.2 ⟨hf.1, hf.2.1⟩, B.1.2.2.2.2 _ vi.1, B.1.2.2.2.2 _ vi.2⟩ ⟨PreM.blind G M _, mk_R B hP hc hb0 (he M), mk_P B hP hS⟩ rfl rfl (by rw [hl.1]; exact B.1.2.2.1) rfl (lv_room hf.2.2) hdg ⟨by rw [B.2.2.1]; exact hL.1, by rw [B.2.2.1]; exact hL.2⟩) hS (fun q _ h => h) (fun q h => h) (fun r u t H1 locs1 ht hvm hp hb hz hk hS1 => ?_)
  obtain ⟨rfl, hp⟩ := hp
  rw [ht] at hb
  exact kk u.1 u.2 hp H1 locs1 ls hb hS1 hl
theorem r_Va2 (B : Bx l G X cc nL own rm0 ret0) {y : MethodName} {bytes : ByteArray} {mL i mc ms : Nat} {rm : Room} {b ci N : Nat} {T : u_T} {a0 a1 : Value} {C : String} {post : Nat → Mem → Prop} (hM : Ct l G y bytes mL (some (.object C)) rm [.ref b, a0, a1] M (PoA G post) mc ms) (hM0 : rm.cells = mc ∧ rm.slots = ms) (ok : CalOk y bytes mL (some (.object C)) 2) (vi : VirOk y) (w : Cond.methodLink own i y ∈ tG) (hb0 : At G b ci 0) (hc : vwCl[ci]? = some (y.cls, T, N)) (he : ∀ M, ent G.2.2 M b (ci, 0) = .inr (ci, flds ci b M)) (hf : Fits rm rm0 mL st) (hL : Lft k n rm0 mc ms) (hdg : decode cc pc = .ok (.invokevirtual i, 3)) (kk : ∀ (r : Nat) (M' : Mem), post r M' → WM G X (k + mc) (n + ms) Q M' (pc + 3) lv (.ref r :: st)) : WM G X k n Q M pc lv (a1 :: a0 :: .ref b :: st) := by
  intro H locs ls hP hS hl
  have hl2 := B.2.1
  subst hl2
  refine va_callq (va_runV (As := [a0, a1]) (rest := st) ⟨B.1.1, B.1.2.1, B.1.2.2.1, B.1.2.2.2.1, B.1.2.2.2.2⟩ hM ⟨mk_B B ok w hM0.1 hM0.2 ⟨hf.1, hf.2.1⟩, B.1.2.2.2.2 _ vi.1, B.1.2.2.2.2 _ vi.2⟩ ⟨PreM.blind G M _, mk_R B hP hc hb0 (he M), mk_P B hP hS⟩ rfl rfl (by rw [hl.1]; exact B.1.2.2.1) rfl (lv_room hf.2.2) hdg ⟨by rw [B.2.2.1]; exact hL.1, by rw [B.2.2.1]; exact hL.2⟩) hS (fun q _ h => h) (fun q h => h) (fun r u t H1 locs1 ht hvm hp hb hz hk hS1 => ?_)
  obtain ⟨rfl, hp⟩ := hp
  rw [ht] at hb
  exact kk u.1 u.2 hp H1 locs1 ls hb hS1 hl
theorem r_Va3 (B : Bx l G X cc nL own rm0 ret0) {y : MethodName} {bytes : ByteArray} {mL i mc ms : Nat} {rm : Room} {b ci N : Nat} {T : u_T} {a0 a1 a2 : Value} {C : String} {post : Nat → Mem → Prop} (hM : Ct l G y bytes mL (some (.object C)) rm [.ref b, a0, a1, a2] M (PoA G post) mc ms) (hM0 : rm.cells = mc ∧ rm.slots = ms) (ok : CalOk y bytes mL (some (.object C)) 3) (vi : VirOk y) (w : Cond.methodLink own i y ∈ tG) (hb0 : At G b ci 0) (hc : vwCl[ci]? = some (y.cls, T, N)) (he : ∀ M, ent G.2.2 M b (ci, 0) = .inr (ci, flds ci b M)) (hf : Fits rm rm0 mL st) (hL : Lft k n rm0 mc ms) (hdg : decode cc pc = .ok (.invokevirtual i, 3)) (kk : ∀ (r : Nat) (M' : Mem), post r M' → WM G X (k + mc) (n + ms) Q M' (pc + 3) lv (.ref r :: st)) : WM G X k n Q M pc lv (a2 :: a1 :: a0 :: .ref b :: st) := by
  intro H locs ls hP hS hl
  have hl2 := B.2.1
  subst hl2
  refine va_callq (va_runV (As := [a0, a1, a2]) (rest := st) ⟨B.1.1, B.1.2.1, B.1.2.2.1, B.1.2.2.2.1, B.1.2.2.2.2⟩ hM ⟨mk_B B ok w hM0.1 hM0.2 ⟨hf.1, hf.2.1⟩, B.1.2.2.2.2 _ vi.1, B.1.2.2.2.2 _ vi.2⟩ ⟨PreM.blind G M _, mk_R B hP hc hb0 (he M), mk_P B hP hS⟩ rfl rfl (by rw [hl.1]; exact B.1.2.2.1) rfl (lv_room hf.2.2) hdg ⟨by rw [B.2.2.1]; exact hL.1, by rw [B.2.2.1]; exact hL.2⟩) hS (fun q _ h => h) (fun q h => h) (fun r u t H1 locs1 ht hvm hp hb hz hk hS1 => ?_)
  obtain ⟨rfl, hp⟩ := hp
  rw [ht] at hb
  exact kk u.1 u.2 hp H1 locs1 ls hb hS1 hl
theorem r_Va4 (B : Bx l G X cc nL own rm0 ret0) {y : MethodName} {bytes : ByteArray} {mL i mc ms : Nat} {rm : Room} {b ci N : Nat} {T : u_T} {a0 a1 a2 a3 : Value} {C : String} {post : Nat → Mem → Prop} (hM : Ct l G y bytes mL (some (.object C)) rm [.ref b, a0, a1, a2, a3] M (PoA G post) mc ms) (hM0 : rm.cells = mc ∧ rm.slots = ms) (ok : CalOk y bytes mL (some (.object C)) 4) (vi : VirOk y) (w : Cond.methodLink own i y ∈ tG) (hb0 : At G b ci 0) (hc : vwCl[ci]? = some (y.cls, T, N)) (he : ∀ M, ent G.2.2 M b (ci, 0) = .inr (ci, flds ci b M)) (hf : Fits rm rm0 mL st) (hL : Lft k n rm0 mc ms) (hdg : decode cc pc = .ok (.invokevirtual i, 3)) (kk : ∀ (r : Nat) (M' : Mem), post r M' → WM G X (k + mc) (n + ms) Q M' (pc + 3) lv (.ref r :: st)) : WM G X k n Q M pc lv (a3 :: a2 :: a1 :: a0 :: .ref b :: st) := by
  intro H locs ls hP hS hl
  have hl2 := B.2.1
  subst hl2
  refine va_callq (va_runV (As := [a0, a1, a2, a3]) (rest := st) ⟨B.1.1, B.1.2.1, B.1.2.2.1, B.1.2.2.2.1, B.1.2.2.2.2⟩ hM ⟨mk_B B ok w hM0.1 hM0.2 ⟨hf.1, hf.2.1⟩, B.1.2.2.2.2 _ vi.1, B.1.2.2.2.2 _ vi.2⟩ ⟨PreM.blind G M _, mk_R B hP hc hb0 (he M), mk_P B hP hS⟩ rfl rfl (by rw [hl.1]; exact B.1.2.2.1) rfl (lv_room hf.2.2) hdg ⟨by rw [B.2.2.1]; exact hL.1, by rw [B.2.2.1]; exact hL.2⟩) hS (fun q _ h => h) (fun q h => h) (fun r u t H1 locs1 ht hvm hp hb hz hk hS1 => ?_)
  obtain ⟨rfl, hp⟩ := hp
  rw [ht] at hb
  exact kk u.1 u.2 hp H1 locs1 ls hb hS1 hl
theorem r_Va5 (B : Bx l G X cc nL own rm0 ret0) {y : MethodName} {bytes : ByteArray} {mL i mc ms : Nat} {rm : Room} {b ci N : Nat} {T : u_T} {a0 a1 a2 a3 a4 : Value} {C : String} {post : Nat → Mem → Prop} (hM : Ct l G y bytes mL (some (.object C)) rm [.ref b, a0, a1, a2, a3, a4] M (PoA G post) mc ms) (hM0 : rm.cells = mc ∧ rm.slots = ms) (ok : CalOk y bytes mL (some (.object C)) 5) (vi : VirOk y) (w : Cond.methodLink own i y ∈ tG) (hb0 : At G b ci 0) (hc : vwCl[ci]? = some (y.cls, T, N)) (he : ∀ M, ent G.2.2 M b (ci, 0) = .inr (ci, flds ci b M)) (hf : Fits rm rm0 mL st) (hL : Lft k n rm0 mc ms) (hdg : decode cc pc = .ok (.invokevirtual i, 3)) (kk : ∀ (r : Nat) (M' : Mem), post r M' → WM G X (k + mc) (n + ms) Q M' (pc + 3) lv (.ref r :: st)) : WM G X k n Q M pc lv (a4 :: a3 :: a2 :: a1 :: a0 :: .ref b :: st) := by
  intro H locs ls hP hS hl
  have hl2 := B.2.1
  subst hl2
  refine va_callq (va_runV (As := [a0, a1, a2, a3, a4]) (rest := st) ⟨B.1.1, B.1.2.1, B.1.2.2.1, B.1.2.2.2.1, B.1.2.2.2.2⟩ hM ⟨mk_B B ok w hM0.1 hM0.2 ⟨hf.1, hf.2.1⟩, B.1.2.2.2.2 _ vi.1, B.1.2.2.2.2 _ vi.2⟩ ⟨PreM.blind G M _, mk_R B hP hc hb0 (he M), mk_P B hP hS⟩ rfl rfl (by rw [hl.1]; exact B.1.2.2.1) rfl (lv_room hf.2.2) hdg ⟨by rw [B.2.2.1]; exact hL.1, by rw [B.2.2.1]; exact hL.2⟩) hS (fun q _ h => h) (fun q h => h) (fun r u t H1 locs1 ht hvm hp hb hz hk hS1 => ?_)
  obtain ⟨rfl, hp⟩ := hp
  rw [ht] at hb
  exact kk u.1 u.2 hp H1 locs1 ls hb hS1 hl
theorem r_Vd0 (B : Bx l G X cc nL own rm0 ret0) {y : MethodName} {bytes : ByteArray} {mL i mc ms : Nat} {rm : Room} {b ci N : Nat} {T : u_T} {post : UInt64 → Mem → Prop} (hM : Ct l G y bytes mL (some .double) rm [.ref b] M (PoD G post) mc ms) (hM0 : rm.cells = mc ∧ rm.slots = ms) (ok : CalOk y bytes mL (some .double) 0) (vi : VirOk y) (w : Cond.methodLink own i y ∈ tG) (hb0 : At G b ci 0) (hc : vwCl[ci]? = some (y.cls, T, N)) (he : ∀ M, ent G.2.2 M b (ci, 0) = .inr (ci, flds ci b M)) (hf : Fits rm rm0 mL st) (hL : Lft k n rm0 mc ms) (hdg : decode cc pc = .ok (.invokevirtual i, 3)) (kk : ∀ (r : UInt64) (M' : Mem), post r M' → WM G X (k + mc) (n + ms) Q M' (pc + 3) lv (.double r :: st)) : WM G X k n Q M pc lv (.ref b :: st) := by
  intro H locs ls hP hS hl
  have hl2 := B.2.1
  subst hl2
  refine va_calld (va_runV (As := []) (rest := st) ⟨B.1.1, B.1.2.1, B.1.2.2.1, B.1.2.2.2.1, B.1.2.2.2.2⟩ hM ⟨mk_B B ok w hM0.1 hM0.2 ⟨hf.1, hf.2.1⟩, B.1.2.2.2.2 _ vi.1, B.1.2.2.2.2 _ vi.2⟩ ⟨PreM.blind G M _, mk_R B hP hc hb0 (he M), mk_P B hP hS⟩ rfl rfl (by rw [hl.1]; exact B.1.2.2.1) rfl (lv_room hf.2.2) hdg ⟨by rw [B.2.2.1]; exact hL.1, by rw [B.2.2.1]; exact hL.2⟩) hS (fun q _ h => h) (fun q h => h) (fun r u t H1 locs1 ht hvm hp hb hz hk hS1 => ?_)
  skip
  rw [ht] at hb
  exact kk r u hp H1 locs1 ls hb hS1 hl
theorem r_Vd1 (B : Bx l G X cc nL own rm0 ret0) {y : MethodName} {bytes : ByteArray} {mL i mc ms : Nat} {rm : Room} {b ci N : Nat} {T : u_T} {a0 : Value} {post : UInt64 → Mem → Prop} (hM : Ct l G y bytes mL (some .double) rm [.ref b, a0] M (PoD G post) mc ms) (hM0 : rm.cells = mc ∧ rm.slots = ms) (ok : CalOk y bytes mL (some .double) 1) (vi : VirOk y) (w : Cond.methodLink own i y ∈ tG) (hb0 : At G b ci 0) (hc : vwCl[ci]? = some (y.cls, T, N)) (he : ∀ M, ent G.2.2 M b (ci, 0) = .inr (ci, flds ci b M)) (hf : Fits rm rm0 mL st) (hL : Lft k n rm0 mc ms) (hdg : decode cc pc = .ok (.invokevirtual i, 3)) (kk : ∀ (r : UInt64) (M' : Mem), post r M' → WM G X (k + mc) (n + ms) Q M' (pc + 3) lv (.double r :: st)) : WM G X k n Q M pc lv (a0 :: .ref b :: st) := by
  intro H locs ls hP hS hl
  have hl2 := B.2.1
  subst hl2
  refine va_calld (va_runV (As := [a0]) (rest := st) ⟨B.1.1, B.1.2.1, B.1.2.2.1, B.1.2.2.2.1, B.1.2.2.2.2⟩ hM ⟨mk_B B ok w hM0.1 hM0.2 ⟨hf.1, hf.2.1⟩, B.1.2.2.2.2 _ vi.1, B.1.2.2.2.2 _ vi.2⟩ ⟨PreM.blind G M _, mk_R B hP hc hb0 (he M), mk_P B hP hS⟩ rfl rfl (by rw [hl.1]; exact B.1.2.2.1) rfl (lv_room hf.2.2) hdg ⟨by rw [B.2.2.1]; exact hL.1, by rw [B.2.2.1]; exact hL.2⟩) hS (fun q _ h => h) (fun q h => h) (fun r u t H1 locs1 ht hvm hp hb hz hk hS1 => ?_)
  skip
  rw [ht] at hb
  exact kk r u hp H1 locs1 ls hb hS1 hl
theorem r_Vd2 (B : Bx l G X cc nL own rm0 ret0) {y : MethodName} {bytes : ByteArray} {mL i mc ms : Nat} {rm : Room} {b ci N : Nat} {T : u_T} {a0 a1 : Value} {post : UInt64 → Mem → Prop} (hM : Ct l G y bytes mL (some .double) rm [.ref b, a0, a1] M (PoD G post) mc ms) (hM0 : rm.cells = mc ∧ rm.slots = ms) (ok : CalOk y bytes mL (some .double) 2) (vi : VirOk y) (w : Cond.methodLink own i y ∈ tG) (hb0 : At G b ci 0) (hc : vwCl[ci]? = some (y.cls, T, N)) (he : ∀ M, ent G.2.2 M b (ci, 0) = .inr (ci, flds ci b M)) (hf : Fits rm rm0 mL st) (hL : Lft k n rm0 mc ms) (hdg : decode cc pc = .ok (.invokevirtual i, 3)) (kk : ∀ (r : UInt64) (M' : Mem), post r M' → WM G X (k + mc) (n + ms) Q M' (pc + 3) lv (.double r :: st)) : WM G X k n Q M pc lv (a1 :: a0 :: .ref b :: st) := by
  intro H locs ls hP hS hl
  have hl2 := B.2.1
  subst hl2
  refine va_calld (va_runV (As := [a0, a1]) (rest := st) ⟨B.1.1, B.1.2.1, B.1.2.2.1, B.1.2.2.2.1, B.1.2.2.2.2⟩ hM ⟨mk_B B ok w hM0.1 hM0.2 ⟨hf.1, hf.2.1⟩, B.1.2.2.2.2 _ vi.1, B.1.2.2.2.2 _ vi.2⟩ ⟨PreM.blind G M _, mk_R B hP hc hb0 (he M), mk_P B hP hS⟩ rfl rfl (by rw [hl.1]; exact B.1.2.2.1) rfl (lv_room hf.2.2) hdg ⟨by rw [B.2.2.1]; exact hL.1, by rw [B.2.2.1]; exact hL.2⟩) hS (fun q _ h => h) (fun q h => h) (fun r u t H1 locs1 ht hvm hp hb hz hk hS1 => ?_)
  skip
  rw [ht] at hb
  exact kk r u hp H1 locs1 ls hb hS1 hl
theorem r_Vd3 (B : Bx l G X cc nL own rm0 ret0) {y : MethodName} {bytes : ByteArray} {mL i mc ms : Nat} {rm : Room} {b ci N : Nat} {T : u_T} {a0 a1 a2 : Value} {post : UInt64 → Mem → Prop} (hM : Ct l G y bytes mL (some .double) rm [.ref b, a0, a1, a2] M (PoD G post) mc ms) (hM0 : rm.cells = mc ∧ rm.slots = ms) (ok : CalOk y bytes mL (some .double) 3) (vi : VirOk y) (w : Cond.methodLink own i y ∈ tG) (hb0 : At G b ci 0) (hc : vwCl[ci]? = some (y.cls, T, N)) (he : ∀ M, ent G.2.2 M b (ci, 0) = .inr (ci, flds ci b M)) (hf : Fits rm rm0 mL st) (hL : Lft k n rm0 mc ms) (hdg : decode cc pc = .ok (.invokevirtual i, 3)) (kk : ∀ (r : UInt64) (M' : Mem), post r M' → WM G X (k + mc) (n + ms) Q M' (pc + 3) lv (.double r :: st)) : WM G X k n Q M pc lv (a2 :: a1 :: a0 :: .ref b :: st) := by
  intro H locs ls hP hS hl
  have hl2 := B.2.1
  subst hl2
  refine va_calld (va_runV (As := [a0, a1, a2]) (rest := st) ⟨B.1.1, B.1.2.1, B.1.2.2.1, B.1.2.2.2.1, B.1.2.2.2.2⟩ hM ⟨mk_B B ok w hM0.1 hM0.2 ⟨hf.1, hf.2.1⟩, B.1.2.2.2.2 _ vi.1, B.1.2.2.2.2 _ vi.2⟩ ⟨PreM.blind G M _, mk_R B hP hc hb0 (he M), mk_P B hP hS⟩ rfl rfl (by rw [hl.1]; exact B.1.2.2.1) rfl (lv_room hf.2.2) hdg ⟨by rw [B.2.2.1]; exact hL.1, by rw [B.2.2.1]; exact hL.2⟩) hS (fun q _ h => h) (fun q h => h) (fun r u t H1 locs1 ht hvm hp hb hz hk hS1 => ?_)
  skip
  rw [ht] at hb
  exact kk r u hp H1 locs1 ls hb hS1 hl
theorem r_Vd4 (B : Bx l G X cc nL own rm0 ret0) {y : MethodName} {bytes : ByteArray} {mL i mc ms : Nat} {rm : Room} {b ci N : Nat} {T : u_T} {a0 a1 a2 a3 : Value} {post : UInt64 → Mem → Prop} (hM : Ct l G y bytes mL (some .double) rm [.ref b, a0, a1, a2, a3] M (PoD G post) mc ms) (hM0 : rm.cells = mc ∧ rm.slots = ms) (ok : CalOk y bytes mL (some .double) 4) (vi : VirOk y) (w : Cond.methodLink own i y ∈ tG) (hb0 : At G b ci 0) (hc : vwCl[ci]? = some (y.cls, T, N)) (he : ∀ M, ent G.2.2 M b (ci, 0) = .inr (ci, flds ci b M)) (hf : Fits rm rm0 mL st) (hL : Lft k n rm0 mc ms) (hdg : decode cc pc = .ok (.invokevirtual i, 3)) (kk : ∀ (r : UInt64) (M' : Mem), post r M' → WM G X (k + mc) (n + ms) Q M' (pc + 3) lv (.double r :: st)) : WM G X k n Q M pc lv (a3 :: a2 :: a1 :: a0 :: .ref b :: st) := by
  intro H locs ls hP hS hl
  have hl2 := B.2.1
  subst hl2
  refine va_calld (va_runV (As := [a0, a1, a2, a3]) (rest := st) ⟨B.1.1, B.1.2.1, B.1.2.2.1, B.1.2.2.2.1, B.1.2.2.2.2⟩ hM ⟨mk_B B ok w hM0.1 hM0.2 ⟨hf.1, hf.2.1⟩, B.1.2.2.2.2 _ vi.1, B.1.2.2.2.2 _ vi.2⟩ ⟨PreM.blind G M _, mk_R B hP hc hb0 (he M), mk_P B hP hS⟩ rfl rfl (by rw [hl.1]; exact B.1.2.2.1) rfl (lv_room hf.2.2) hdg ⟨by rw [B.2.2.1]; exact hL.1, by rw [B.2.2.1]; exact hL.2⟩) hS (fun q _ h => h) (fun q h => h) (fun r u t H1 locs1 ht hvm hp hb hz hk hS1 => ?_)
  skip
  rw [ht] at hb
  exact kk r u hp H1 locs1 ls hb hS1 hl
theorem r_Vd5 (B : Bx l G X cc nL own rm0 ret0) {y : MethodName} {bytes : ByteArray} {mL i mc ms : Nat} {rm : Room} {b ci N : Nat} {T : u_T} {a0 a1 a2 a3 a4 : Value} {post : UInt64 → Mem → Prop} (hM : Ct l G y bytes mL (some .double) rm [.ref b, a0, a1, a2, a3, a4] M (PoD G post) mc ms) (hM0 : rm.cells = mc ∧ rm.slots = ms) (ok : CalOk y bytes mL (some .double) 5) (vi : VirOk y) (w : Cond.methodLink own i y ∈ tG) (hb0 : At G b ci 0) (hc : vwCl[ci]? = some (y.cls, T, N)) (he : ∀ M, ent G.2.2 M b (ci, 0) = .inr (ci, flds ci b M)) (hf : Fits rm rm0 mL st) (hL : Lft k n rm0 mc ms) (hdg : decode cc pc = .ok (.invokevirtual i, 3)) (kk : ∀ (r : UInt64) (M' : Mem), post r M' → WM G X (k + mc) (n + ms) Q M' (pc + 3) lv (.double r :: st)) : WM G X k n Q M pc lv (a4 :: a3 :: a2 :: a1 :: a0 :: .ref b :: st) := by
  intro H locs ls hP hS hl
  have hl2 := B.2.1
  subst hl2
  refine va_calld (va_runV (As := [a0, a1, a2, a3, a4]) (rest := st) ⟨B.1.1, B.1.2.1, B.1.2.2.1, B.1.2.2.2.1, B.1.2.2.2.2⟩ hM ⟨mk_B B ok w hM0.1 hM0.2 ⟨hf.1, hf.2.1⟩, B.1.2.2.2.2 _ vi.1, B.1.2.2.2.2 _ vi.2⟩ ⟨PreM.blind G M _, mk_R B hP hc hb0 (he M), mk_P B hP hS⟩ rfl rfl (by rw [hl.1]; exact B.1.2.2.1) rfl (lv_room hf.2.2) hdg ⟨by rw [B.2.2.1]; exact hL.1, by rw [B.2.2.1]; exact hL.2⟩) hS (fun q _ h => h) (fun q h => h) (fun r u t H1 locs1 ht hvm hp hb hz hk hS1 => ?_)
  skip
  rw [ht] at hb
  exact kk r u hp H1 locs1 ls hb hS1 hl
theorem r_Si0 (B : Bx l G X cc nL own rm0 ret0) {y : MethodName} {bytes : ByteArray} {mL i mc ms : Nat} {rm : Room} {post : Int → Mem → Prop} (hM : Ct l G y bytes mL (some .int) rm [] M (PoI G post) mc ms) (hM0 : rm.cells = mc ∧ rm.slots = ms) (ok : CalOk y bytes mL (some .int) 0) (sk : Cond.static y ∈ tG) (w : Cond.methodLink own i y ∈ tG) (hf : Fits rm rm0 mL st) (hL : Lft k n rm0 mc ms) (hdg : decode cc pc = .ok (.invokestatic i, 3)) (kk : ∀ (r : Int) (M' : Mem), post r M' → WM G X (k + mc) (n + ms) Q M' (pc + 3) lv (.int (iI r) :: st)) : WM G X k n Q M pc lv (st) := by
  intro H locs ls hP hS hl
  have hl2 := B.2.1
  subst hl2
  refine va_calli (va_runS (As := []) (rest := st) ⟨B.1.1, B.1.2.1, B.1.2.2.1, B.1.2.2.2.1, B.1.2.2.2.2⟩ hM ⟨mk_B B ok w hM0.1 hM0.2 ⟨hf.1, hf.2.1⟩, B.1.2.2.2.2 _ sk⟩ ⟨PreM.blind G M _, mk_P B hP hS⟩ rfl rfl (by rw [hl.1]; exact B.1.2.2.1) rfl (lv_room hf.2.2) hdg ⟨by rw [B.2.2.1]; exact hL.1, by rw [B.2.2.1]; exact hL.2⟩) hS (fun q _ h => h) (fun q h => h) (fun r u t H1 locs1 ht hvm hp hb hz hk hS1 => ?_)
  obtain ⟨rfl, hp⟩ := hp
  rw [ht] at hb
  exact kk u.1 u.2 hp H1 locs1 ls hb hS1 hl
theorem r_Si1 (B : Bx l G X cc nL own rm0 ret0) {y : MethodName} {bytes : ByteArray} {mL i mc ms : Nat} {rm : Room} {a0 : Value} {post : Int → Mem → Prop} (hM : Ct l G y bytes mL (some .int) rm [a0] M (PoI G post) mc ms) (hM0 : rm.cells = mc ∧ rm.slots = ms) (ok : CalOk y bytes mL (some .int) 1) (sk : Cond.static y ∈ tG) (w : Cond.methodLink own i y ∈ tG) (hf : Fits rm rm0 mL st) (hL : Lft k n rm0 mc ms) (hdg : decode cc pc = .ok (.invokestatic i, 3)) (kk : ∀ (r : Int) (M' : Mem), post r M' → WM G X (k + mc) (n + ms) Q M' (pc + 3) lv (.int (iI r) :: st)) : WM G X k n Q M pc lv (a0 :: st) := by
  intro H locs ls hP hS hl
  have hl2 := B.2.1
  subst hl2
  refine va_calli (va_runS (As := [a0]) (rest := st) ⟨B.1.1, B.1.2.1, B.1.2.2.1, B.1.2.2.2.1, B.1.2.2.2.2⟩ hM ⟨mk_B B ok w hM0.1 hM0.2 ⟨hf.1, hf.2.1⟩, B.1.2.2.2.2 _ sk⟩ ⟨PreM.blind G M _, mk_P B hP hS⟩ rfl rfl (by rw [hl.1]; exact B.1.2.2.1) rfl (lv_room hf.2.2) hdg ⟨by rw [B.2.2.1]; exact hL.1, by rw [B.2.2.1]; exact hL.2⟩) hS (fun q _ h => h) (fun q h => h) (fun r u t H1 locs1 ht hvm hp hb hz hk hS1 => ?_)
  obtain ⟨rfl, hp⟩ := hp
  rw [ht] at hb
  exact kk u.1 u.2 hp H1 locs1 ls hb hS1 hl
theorem r_Si2 (B : Bx l G X cc nL own rm0 ret0) {y : MethodName} {bytes : ByteArray} {mL i mc ms : Nat} {rm : Room} {a0 a1 : Value} {post : Int → Mem → Prop} (hM : Ct l G y bytes mL (some .int) rm [a0, a1] M (PoI G post) mc ms) (hM0 : rm.cells = mc ∧ rm.slots = ms) (ok : CalOk y bytes mL (some .int) 2) (sk : Cond.static y ∈ tG) (w : Cond.methodLink own i y ∈ tG) (hf : Fits rm rm0 mL st) (hL : Lft k n rm0 mc ms) (hdg : decode cc pc = .ok (.invokestatic i, 3)) (kk : ∀ (r : Int) (M' : Mem), post r M' → WM G X (k + mc) (n + ms) Q M' (pc + 3) lv (.int (iI r) :: st)) : WM G X k n Q M pc lv (a1 :: a0 :: st) := by
  intro H locs ls hP hS hl
  have hl2 := B.2.1
  subst hl2
  refine va_calli (va_runS (As := [a0, a1]) (rest := st) ⟨B.1.1, B.1.2.1, B.1.2.2.1, B.1.2.2.2.1, B.1.2.2.2.2⟩ hM ⟨mk_B B ok w hM0.1 hM0.2 ⟨hf.1, hf.2.1⟩, B.1.2.2.2.2 _ sk⟩ ⟨PreM.blind G M _, mk_P B hP hS⟩ rfl rfl (by rw [hl.1]; exact B.1.2.2.1) rfl (lv_room hf.2.2) hdg ⟨by rw [B.2.2.1]; exact hL.1, by rw [B.2.2.1]; exact hL.2⟩) hS (fun q _ h => h) (fun q h => h) (fun r u t H1 locs1 ht hvm hp hb hz hk hS1 => ?_)
  obtain ⟨rfl, hp⟩ := hp
  rw [ht] at hb
  exact kk u.1 u.2 hp H1 locs1 ls hb hS1 hl
theorem r_Si3 (B : Bx l G X cc nL own rm0 ret0) {y : MethodName} {bytes : ByteArray} {mL i mc ms : Nat} {rm : Room} {a0 a1 a2 : Value} {post : Int → Mem → Prop} (hM : Ct l G y bytes mL (some .int) rm [a0, a1, a2] M (PoI G post) mc ms) (hM0 : rm.cells = mc ∧ rm.slots = ms) (ok : CalOk y bytes mL (some .int) 3) (sk : Cond.static y ∈ tG) (w : Cond.methodLink own i y ∈ tG) (hf : Fits rm rm0 mL st) (hL : Lft k n rm0 mc ms) (hdg : decode cc pc = .ok (.invokestatic i, 3)) (kk : ∀ (r : Int) (M' : Mem), post r M' → WM G X (k + mc) (n + ms) Q M' (pc + 3) lv (.int (iI r) :: st)) : WM G X k n Q M pc lv (a2 :: a1 :: a0 :: st) := by
  intro H locs ls hP hS hl
  have hl2 := B.2.1
  subst hl2
  refine va_calli (va_runS (As := [a0, a1, a2]) (rest := st) ⟨B.1.1, B.1.2.1, B.1.2.2.1, B.1.2.2.2.1, B.1.2.2.2.2⟩ hM ⟨mk_B B ok w hM0.1 hM0.2 ⟨hf.1, hf.2.1⟩, B.1.2.2.2.2 _ sk⟩ ⟨PreM.blind G M _, mk_P B hP hS⟩ rfl rfl (by rw [hl.1]; exact B.1.2.2.1) rfl (lv_room hf.2.2) hdg ⟨by rw [B.2.2.1]; exact hL.1, by rw [B.2.2.1]; exact hL.2⟩) hS (fun q _ h => h) (fun q h => h) (fun r u t H1 locs1 ht hvm hp hb hz hk hS1 => ?_)
  obtain ⟨rfl, hp⟩ := hp
  rw [ht] at hb
  exact kk u.1 u.2 hp H1 locs1 ls hb hS1 hl
theorem r_Si4 (B : Bx l G X cc nL own rm0 ret0) {y : MethodName} {bytes : ByteArray} {mL i mc ms : Nat} {rm : Room} {a0 a1 a2 a3 : Value} {post : Int → Mem → Prop} (hM : Ct l G y bytes mL (some .int) rm [a0, a1, a2, a3] M (PoI G post) mc ms) (hM0 : rm.cells = mc ∧ rm.slots = ms) (ok : CalOk y bytes mL (some .int) 4) (sk : Cond.static y ∈ tG) (w : Cond.methodLink own i y ∈ tG) (hf : Fits rm rm0 mL st) (hL : Lft k n rm0 mc ms) (hdg : decode cc pc = .ok (.invokestatic i, 3)) (kk : ∀ (r : Int) (M' : Mem), post r M' → WM G X (k + mc) (n + ms) Q M' (pc + 3) lv (.int (iI r) :: st)) : WM G X k n Q M pc lv (a3 :: a2 :: a1 :: a0 :: st) := by
  intro H locs ls hP hS hl
  have hl2 := B.2.1
  subst hl2
  refine va_calli (va_runS (As := [a0, a1, a2, a3]) (rest := st) ⟨B.1.1, B.1.2.1, B.1.2.2.1, B.1.2.2.2.1, B.1.2.2.2.2⟩ hM ⟨mk_B B ok w hM0.1 hM0.2 ⟨hf.1, hf.2.1⟩, B.1.2.2.2.2 _ sk⟩ ⟨PreM.blind G M _, mk_P B hP hS⟩ rfl rfl (by rw [hl.1]; exact B.1.2.2.1) rfl (lv_room hf.2.2) hdg ⟨by rw [B.2.2.1]; exact hL.1, by rw [B.2.2.1]; exact hL.2⟩) hS (fun q _ h => h) (fun q h => h) (fun r u t H1 locs1 ht hvm hp hb hz hk hS1 => ?_)
  obtain ⟨rfl, hp⟩ := hp
  rw [ht] at hb
  exact kk u.1 u.2 hp H1 locs1 ls hb hS1 hl
theorem r_Si5 (B : Bx l G X cc nL own rm0 ret0) {y : MethodName} {bytes : ByteArray} {mL i mc ms : Nat} {rm : Room} {a0 a1 a2 a3 a4 : Value} {post : Int → Mem → Prop} (hM : Ct l G y bytes mL (some .int) rm [a0, a1, a2, a3, a4] M (PoI G post) mc ms) (hM0 : rm.cells = mc ∧ rm.slots = ms) (ok : CalOk y bytes mL (some .int) 5) (sk : Cond.static y ∈ tG) (w : Cond.methodLink own i y ∈ tG) (hf : Fits rm rm0 mL st) (hL : Lft k n rm0 mc ms) (hdg : decode cc pc = .ok (.invokestatic i, 3)) (kk : ∀ (r : Int) (M' : Mem), post r M' → WM G X (k + mc) (n + ms) Q M' (pc + 3) lv (.int (iI r) :: st)) : WM G X k n Q M pc lv (a4 :: a3 :: a2 :: a1 :: a0 :: st) := by
  intro H locs ls hP hS hl
  have hl2 := B.2.1
  subst hl2
  refine va_calli (va_runS (As := [a0, a1, a2, a3, a4]) (rest := st) ⟨B.1.1, B.1.2.1, B.1.2.2.1, B.1.2.2.2.1, B.1.2.2.2.2⟩ hM ⟨mk_B B ok w hM0.1 hM0.2 ⟨hf.1, hf.2.1⟩, B.1.2.2.2.2 _ sk⟩ ⟨PreM.blind G M _, mk_P B hP hS⟩ rfl rfl (by rw [hl.1]; exact B.1.2.2.1) rfl (lv_room hf.2.2) hdg ⟨by rw [B.2.2.1]; exact hL.1, by rw [B.2.2.1]; exact hL.2⟩) hS (fun q _ h => h) (fun q h => h) (fun r u t H1 locs1 ht hvm hp hb hz hk hS1 => ?_)
  obtain ⟨rfl, hp⟩ := hp
  rw [ht] at hb
  exact kk u.1 u.2 hp H1 locs1 ls hb hS1 hl
theorem r_Sz0 (B : Bx l G X cc nL own rm0 ret0) {y : MethodName} {bytes : ByteArray} {mL i mc ms : Nat} {rm : Room} {post : Int → Mem → Prop} (hM : Ct l G y bytes mL (some .boolean) rm [] M (PoI G post) mc ms) (hM0 : rm.cells = mc ∧ rm.slots = ms) (ok : CalOk y bytes mL (some .boolean) 0) (sk : Cond.static y ∈ tG) (w : Cond.methodLink own i y ∈ tG) (hf : Fits rm rm0 mL st) (hL : Lft k n rm0 mc ms) (hdg : decode cc pc = .ok (.invokestatic i, 3)) (kk : ∀ (r : Int) (M' : Mem), post r M' → WM G X (k + mc) (n + ms) Q M' (pc + 3) lv (.int (iI r) :: st)) : WM G X k n Q M pc lv (st) := by
  intro H locs ls hP hS hl
  have hl2 := B.2.1
  subst hl2
  refine va_calli (va_runS (As := []) (rest := st) ⟨B.1.1, B.1.2.1, B.1.2.2.1, B.1.2.2.2.1, B.1.2.2.2.2⟩ hM ⟨mk_B B ok w hM0.1 hM0.2 ⟨hf.1, hf.2.1⟩, B.1.2.2.2.2 _ sk⟩ ⟨PreM.blind G M _, mk_P B hP hS⟩ rfl rfl (by rw [hl.1]; exact B.1.2.2.1) rfl (lv_room hf.2.2) hdg ⟨by rw [B.2.2.1]; exact hL.1, by rw [B.2.2.1]; exact hL.2⟩) hS (fun q _ h => h) (fun q h => h) (fun r u t H1 locs1 ht hvm hp hb hz hk hS1 => ?_)
  obtain ⟨rfl, hp⟩ := hp
  rw [ht] at hb
  exact kk u.1 u.2 hp H1 locs1 ls hb hS1 hl
theorem r_Sz1 (B : Bx l G X cc nL own rm0 ret0) {y : MethodName} {bytes : ByteArray} {mL i mc ms : Nat} {rm : Room} {a0 : Value} {post : Int → Mem → Prop} (hM : Ct l G y bytes mL (some .boolean) rm [a0] M (PoI G post) mc ms) (hM0 : rm.cells = mc ∧ rm.slots = ms) (ok : CalOk y bytes mL (some .boolean) 1) (sk : Cond.static y ∈ tG) (w : Cond.methodLink own i y ∈ tG) (hf : Fits rm rm0 mL st) (hL : Lft k n rm0 mc ms) (hdg : decode cc pc = .ok (.invokestatic i, 3)) (kk : ∀ (r : Int) (M' : Mem), post r M' → WM G X (k + mc) (n + ms) Q M' (pc + 3) lv (.int (iI r) :: st)) : WM G X k n Q M pc lv (a0 :: st) := by
  intro H locs ls hP hS hl
  have hl2 := B.2.1
  subst hl2
  refine va_calli (va_runS (As := [a0]) (rest := st) ⟨B.1.1, B.1.2.1, B.1.2.2.1, B.1.2.2.2.1, B.1.2.2.2.2⟩ hM ⟨mk_B B ok w hM0.1 hM0.2 ⟨hf.1, hf.2.1⟩, B.1.2.2.2.2 _ sk⟩ ⟨PreM.blind G M _, mk_P B hP hS⟩ rfl rfl (by rw [hl.1]; exact B.1.2.2.1) rfl (lv_room hf.2.2) hdg ⟨by rw [B.2.2.1]; exact hL.1, by rw [B.2.2.1]; exact hL.2⟩) hS (fun q _ h => h) (fun q h => h) (fun r u t H1 locs1 ht hvm hp hb hz hk hS1 => ?_)
  obtain ⟨rfl, hp⟩ := hp
  rw [ht] at hb
  exact kk u.1 u.2 hp H1 locs1 ls hb hS1 hl
theorem r_Sz2 (B : Bx l G X cc nL own rm0 ret0) {y : MethodName} {bytes : ByteArray} {mL i mc ms : Nat} {rm : Room} {a0 a1 : Value} {post : Int → Mem → Prop} (hM : Ct l G y bytes mL (some .boolean) rm [a0, a1] M (PoI G post) mc ms) (hM0 : rm.cells = mc ∧ rm.slots = ms) (ok : CalOk y bytes mL (some .boolean) 2) (sk : Cond.static y ∈ tG) (w : Cond.methodLink own i y ∈ tG) (hf : Fits rm rm0 mL st) (hL : Lft k n rm0 mc ms) (hdg : decode cc pc = .ok (.invokestatic i, 3)) (kk : ∀ (r : Int) (M' : Mem), post r M' → WM G X (k + mc) (n + ms) Q M' (pc + 3) lv (.int (iI r) :: st)) : WM G X k n Q M pc lv (a1 :: a0 :: st) := by
  intro H locs ls hP hS hl
  have hl2 := B.2.1
  subst hl2
  refine va_calli (va_runS (As := [a0, a1]) (rest := st) ⟨B.1.1, B.1.2.1, B.1.2.2.1, B.1.2.2.2.1, B.1.2.2.2.2⟩ hM ⟨mk_B B ok w hM0.1 hM0.2 ⟨hf.1, hf.2.1⟩, B.1.2.2.2.2 _ sk⟩ ⟨PreM.blind G M _, mk_P B hP hS⟩ rfl rfl (by rw [hl.1]; exact B.1.2.2.1) rfl (lv_room hf.2.2) hdg ⟨by rw [B.2.2.1]; exact hL.1, by rw [B.2.2.1]; exact hL.2⟩) hS (fun q _ h => h) (fun q h => h) (fun r u t H1 locs1 ht hvm hp hb hz hk hS1 => ?_)
  obtain ⟨rfl, hp⟩ := hp
  rw [ht] at hb
  exact kk u.1 u.2 hp H1 locs1 ls hb hS1 hl
theorem r_Sz3 (B : Bx l G X cc nL own rm0 ret0) {y : MethodName} {bytes : ByteArray} {mL i mc ms : Nat} {rm : Room} {a0 a1 a2 : Value} {post : Int → Mem → Prop} (hM : Ct l G y bytes mL (some .boolean) rm [a0, a1, a2] M (PoI G post) mc ms) (hM0 : rm.cells = mc ∧ rm.slots = ms) (ok : CalOk y bytes mL (some .boolean) 3) (sk : Cond.static y ∈ tG) (w : Cond.methodLink own i y ∈ tG) (hf : Fits rm rm0 mL st) (hL : Lft k n rm0 mc ms) (hdg : decode cc pc = .ok (.invokestatic i, 3)) (kk : ∀ (r : Int) (M' : Mem), post r M' → WM G X (k + mc) (n + ms) Q M' (pc + 3) lv (.int (iI r) :: st)) : WM G X k n Q M pc lv (a2 :: a1 :: a0 :: st) := by
  intro H locs ls hP hS hl
  have hl2 := B.2.1
  subst hl2
  refine va_calli (va_runS (As := [a0, a1, a2]) (rest := st) ⟨B.1.1, B.1.2.1, B.1.2.2.1, B.1.2.2.2.1, B.1.2.2.2.2⟩ hM ⟨mk_B B ok w hM0.1 hM0.2 ⟨hf.1, hf.2.1⟩, B.1.2.2.2.2 _ sk⟩ ⟨PreM.blind G M _, mk_P B hP hS⟩ rfl rfl (by rw [hl.1]; exact B.1.2.2.1) rfl (lv_room hf.2.2) hdg ⟨by rw [B.2.2.1]; exact hL.1, by rw [B.2.2.1]; exact hL.2⟩) hS (fun q _ h => h) (fun q h => h) (fun r u t H1 locs1 ht hvm hp hb hz hk hS1 => ?_)
  obtain ⟨rfl, hp⟩ := hp
  rw [ht] at hb
  exact kk u.1 u.2 hp H1 locs1 ls hb hS1 hl
theorem r_Sz4 (B : Bx l G X cc nL own rm0 ret0) {y : MethodName} {bytes : ByteArray} {mL i mc ms : Nat} {rm : Room} {a0 a1 a2 a3 : Value} {post : Int → Mem → Prop} (hM : Ct l G y bytes mL (some .boolean) rm [a0, a1, a2, a3] M (PoI G post) mc ms) (hM0 : rm.cells = mc ∧ rm.slots = ms) (ok : CalOk y bytes mL (some .boolean) 4) (sk : Cond.static y ∈ tG) (w : Cond.methodLink own i y ∈ tG) (hf : Fits rm rm0 mL st) (hL : Lft k n rm0 mc ms) (hdg : decode cc pc = .ok (.invokestatic i, 3)) (kk : ∀ (r : Int) (M' : Mem), post r M' → WM G X (k + mc) (n + ms) Q M' (pc + 3) lv (.int (iI r) :: st)) : WM G X k n Q M pc lv (a3 :: a2 :: a1 :: a0 :: st) := by
  intro H locs ls hP hS hl
  have hl2 := B.2.1
  subst hl2
  refine va_calli (va_runS (As := [a0, a1, a2, a3]) (rest := st) ⟨B.1.1, B.1.2.1, B.1.2.2.1, B.1.2.2.2.1, B.1.2.2.2.2⟩ hM ⟨mk_B B ok w hM0.1 hM0.2 ⟨hf.1, hf.2.1⟩, B.1.2.2.2.2 _ sk⟩ ⟨PreM.blind G M _, mk_P B hP hS⟩ rfl rfl (by rw [hl.1]; exact B.1.2.2.1) rfl (lv_room hf.2.2) hdg ⟨by rw [B.2.2.1]; exact hL.1, by rw [B.2.2.1]; exact hL.2⟩) hS (fun q _ h => h) (fun q h => h) (fun r u t H1 locs1 ht hvm hp hb hz hk hS1 => ?_)
  obtain ⟨rfl, hp⟩ := hp
  rw [ht] at hb
  exact kk u.1 u.2 hp H1 locs1 ls hb hS1 hl
theorem r_Sz5 (B : Bx l G X cc nL own rm0 ret0) {y : MethodName} {bytes : ByteArray} {mL i mc ms : Nat} {rm : Room} {a0 a1 a2 a3 a4 : Value} {post : Int → Mem → Prop} (hM : Ct l G y bytes mL (some .boolean) rm [a0, a1, a2, a3, a4] M (PoI G post) mc ms) (hM0 : rm.cells = mc ∧ rm.slots = ms) (ok : CalOk y bytes mL (some .boolean) 5) (sk : Cond.static y ∈ tG) (w : Cond.methodLink own i y ∈ tG) (hf : Fits rm rm0 mL st) (hL : Lft k n rm0 mc ms) (hdg : decode cc pc = .ok (.invokestatic i, 3)) (kk : ∀ (r : Int) (M' : Mem), post r M' → WM G X (k + mc) (n + ms) Q M' (pc + 3) lv (.int (iI r) :: st)) : WM G X k n Q M pc lv (a4 :: a3 :: a2 :: a1 :: a0 :: st) := by
  intro H locs ls hP hS hl
  have hl2 := B.2.1
  subst hl2
  refine va_calli (va_runS (As := [a0, a1, a2, a3, a4]) (rest := st) ⟨B.1.1, B.1.2.1, B.1.2.2.1, B.1.2.2.2.1, B.1.2.2.2.2⟩ hM ⟨mk_B B ok w hM0.1 hM0.2 ⟨hf.1, hf.2.1⟩, B.1.2.2.2.2 _ sk⟩ ⟨PreM.blind G M _, mk_P B hP hS⟩ rfl rfl (by rw [hl.1]; exact B.1.2.2.1) rfl (lv_room hf.2.2) hdg ⟨by rw [B.2.2.1]; exact hL.1, by rw [B.2.2.1]; exact hL.2⟩) hS (fun q _ h => h) (fun q h => h) (fun r u t H1 locs1 ht hvm hp hb hz hk hS1 => ?_)
  obtain ⟨rfl, hp⟩ := hp
  rw [ht] at hb
  exact kk u.1 u.2 hp H1 locs1 ls hb hS1 hl
theorem r_Sl0 (B : Bx l G X cc nL own rm0 ret0) {y : MethodName} {bytes : ByteArray} {mL i mc ms : Nat} {rm : Room} {post : Int → Mem → Prop} (hM : Ct l G y bytes mL (some .long) rm [] M (PoL G post) mc ms) (hM0 : rm.cells = mc ∧ rm.slots = ms) (ok : CalOk y bytes mL (some .long) 0) (sk : Cond.static y ∈ tG) (w : Cond.methodLink own i y ∈ tG) (hf : Fits rm rm0 mL st) (hL : Lft k n rm0 mc ms) (hdg : decode cc pc = .ok (.invokestatic i, 3)) (kk : ∀ (r : Int) (M' : Mem), post r M' → WM G X (k + mc) (n + ms) Q M' (pc + 3) lv (.long (lI r) :: st)) : WM G X k n Q M pc lv (st) := by
  intro H locs ls hP hS hl
  have hl2 := B.2.1
  subst hl2
  refine va_calll (va_runS (As := []) (rest := st) ⟨B.1.1, B.1.2.1, B.1.2.2.1, B.1.2.2.2.1, B.1.2.2.2.2⟩ hM ⟨mk_B B ok w hM0.1 hM0.2 ⟨hf.1, hf.2.1⟩, B.1.2.2.2.2 _ sk⟩ ⟨PreM.blind G M _, mk_P B hP hS⟩ rfl rfl (by rw [hl.1]; exact B.1.2.2.1) rfl (lv_room hf.2.2) hdg ⟨by rw [B.2.2.1]; exact hL.1, by rw [B.2.2.1]; exact hL.2⟩) hS (fun q _ h => h) (fun q h => h) (fun r u t H1 locs1 ht hvm hp hb hz hk hS1 => ?_)
  obtain ⟨rfl, hp⟩ := hp
  rw [ht] at hb
  exact kk u.1 u.2 hp H1 locs1 ls hb hS1 hl
theorem r_Sl1 (B : Bx l G X cc nL own rm0 ret0) {y : MethodName} {bytes : ByteArray} {mL i mc ms : Nat} {rm : Room} {a0 : Value} {post : Int → Mem → Prop} (hM : Ct l G y bytes mL (some .long) rm [a0] M (PoL G post) mc ms) (hM0 : rm.cells = mc ∧ rm.slots = ms) (ok : CalOk y bytes mL (some .long) 1) (sk : Cond.static y ∈ tG) (w : Cond.methodLink own i y ∈ tG) (hf : Fits rm rm0 mL st) (hL : Lft k n rm0 mc ms) (hdg : decode cc pc = .ok (.invokestatic i, 3)) (kk : ∀ (r : Int) (M' : Mem), post r M' → WM G X (k + mc) (n + ms) Q M' (pc + 3) lv (.long (lI r) :: st)) : WM G X k n Q M pc lv (a0 :: st) := by
  intro H locs ls hP hS hl
  have hl2 := B.2.1
  subst hl2
  refine va_calll (va_runS (As := [a0]) (rest := st) ⟨B.1.1, B.1.2.1, B.1.2.2.1, B.1.2.2.2.1, B.1.2.2.2.2⟩ hM ⟨mk_B B ok w hM0.1 hM0.2 ⟨hf.1, hf.2.1⟩, B.1.2.2.2.2 _ sk⟩ ⟨PreM.blind G M _, mk_P B hP hS⟩ rfl rfl (by rw [hl.1]; exact B.1.2.2.1) rfl (lv_room hf.2.2) hdg ⟨by rw [B.2.2.1]; exact hL.1, by rw [B.2.2.1]; exact hL.2⟩) hS (fun q _ h => h) (fun q h => h) (fun r u t H1 locs1 ht hvm hp hb hz hk hS1 => ?_)
  obtain ⟨rfl, hp⟩ := hp
  rw [ht] at hb
  exact kk u.1 u.2 hp H1 locs1 ls hb hS1 hl
theorem r_Sl2 (B : Bx l G X cc nL own rm0 ret0) {y : MethodName} {bytes : ByteArray} {mL i mc ms : Nat} {rm : Room} {a0 a1 : Value} {post : Int → Mem → Prop} (hM : Ct l G y bytes mL (some .long) rm [a0, a1] M (PoL G post) mc ms) (hM0 : rm.cells = mc ∧ rm.slots = ms) (ok : CalOk y bytes mL (some .long) 2) (sk : Cond.static y ∈ tG) (w : Cond.methodLink own i y ∈ tG) (hf : Fits rm rm0 mL st) (hL : Lft k n rm0 mc ms) (hdg : decode cc pc = .ok (.invokestatic i, 3)) (kk : ∀ (r : Int) (M' : Mem), post r M' → WM G X (k + mc) (n + ms) Q M' (pc + 3) lv (.long (lI r) :: st)) : WM G X k n Q M pc lv (a1 :: a0 :: st) := by
  intro H locs ls hP hS hl
  have hl2 := B.2.1
  subst hl2
  refine va_calll (va_runS (As := [a0, a1]) (rest := st) ⟨B.1.1, B.1.2.1, B.1.2.2.1, B.1.2.2.2.1, B.1.2.2.2.2⟩ hM ⟨mk_B B ok w hM0.1 hM0.2 ⟨hf.1, hf.2.1⟩, B.1.2.2.2.2 _ sk⟩ ⟨PreM.blind G M _, mk_P B hP hS⟩ rfl rfl (by rw [hl.1]; exact B.1.2.2.1) rfl (lv_room hf.2.2) hdg ⟨by rw [B.2.2.1]; exact hL.1, by rw [B.2.2.1]; exact hL.2⟩) hS (fun q _ h => h) (fun q h => h) (fun r u t H1 locs1 ht hvm hp hb hz hk hS1 => ?_)
  obtain ⟨rfl, hp⟩ := hp
  rw [ht] at hb
  exact kk u.1 u.2 hp H1 locs1 ls hb hS1 hl
theorem r_Sl3 (B : Bx l G X cc nL own rm0 ret0) {y : MethodName} {bytes : ByteArray} {mL i mc ms : Nat} {rm : Room} {a0 a1 a2 : Value} {post : Int → Mem → Prop} (hM : Ct l G y bytes mL (some .long) rm [a0, a1, a2] M (PoL G post) mc ms) (hM0 : rm.cells = mc ∧ rm.slots = ms) (ok : CalOk y bytes mL (some .long) 3) (sk : Cond.static y ∈ tG) (w : Cond.methodLink own i y ∈ tG) (hf : Fits rm rm0 mL st) (hL : Lft k n rm0 mc ms) (hdg : decode cc pc = .ok (.invokestatic i, 3)) (kk : ∀ (r : Int) (M' : Mem), post r M' → WM G X (k + mc) (n + ms) Q M' (pc + 3) lv (.long (lI r) :: st)) : WM G X k n Q M pc lv (a2 :: a1 :: a0 :: st) := by
  intro H locs ls hP hS hl
  have hl2 := B.2.1
  subst hl2
  refine va_calll (va_runS (As := [a0, a1, a2]) (rest := st) ⟨B.1.1, B.1.2.1, B.1.2.2.1, B.1.2.2.2.1, B.1.2.2.2.2⟩ hM ⟨mk_B B ok w hM0.1 hM0.2 ⟨hf.1, hf.2.1⟩, B.1.2.2.2.2 _ sk⟩ ⟨PreM.blind G M _, mk_P B hP hS⟩ rfl rfl (by rw [hl.1]; exact B.1.2.2.1) rfl (lv_room hf.2.2) hdg ⟨by rw [B.2.2.1]; exact hL.1, by rw [B.2.2.1]; exact hL.2⟩) hS (fun q _ h => h) (fun q h => h) (fun r u t H1 locs1 ht hvm hp hb hz hk hS1 => ?_)
  obtain ⟨rfl, hp⟩ := hp
  rw [ht] at hb
  exact kk u.1 u.2 hp H1 locs1 ls hb hS1 hl
theorem r_Sl4 (B : Bx l G X cc nL own rm0 ret0) {y : MethodName} {bytes : ByteArray} {mL i mc ms : Nat} {rm : Room} {a0 a1 a2 a3 : Value} {post : Int → Mem → Prop} (hM : Ct l G y bytes mL (some .long) rm [a0, a1, a2, a3] M (PoL G post) mc ms) (hM0 : rm.cells = mc ∧ rm.slots = ms) (ok : CalOk y bytes mL (some .long) 4) (sk : Cond.static y ∈ tG) (w : Cond.methodLink own i y ∈ tG) (hf : Fits rm rm0 mL st) (hL : Lft k n rm0 mc ms) (hdg : decode cc pc = .ok (.invokestatic i, 3)) (kk : ∀ (r : Int) (M' : Mem), post r M' → WM G X (k + mc) (n + ms) Q M' (pc + 3) lv (.long (lI r) :: st)) : WM G X k n Q M pc lv (a3 :: a2 :: a1 :: a0 :: st) := by
  intro H locs ls hP hS hl
  have hl2 := B.2.1
  subst hl2
  refine va_calll (va_runS (As := [a0, a1, a2, a3]) (rest := st) ⟨B.1.1, B.1.2.1, B.1.2.2.1, B.1.2.2.2.1, B.1.2.2.2.2⟩ hM ⟨mk_B B ok w hM0.1 hM0.2 ⟨hf.1, hf.2.1⟩, B.1.2.2.2.2 _ sk⟩ ⟨PreM.blind G M _, mk_P B hP hS⟩ rfl rfl (by rw [hl.1]; exact B.1.2.2.1) rfl (lv_room hf.2.2) hdg ⟨by rw [B.2.2.1]; exact hL.1, by rw [B.2.2.1]; exact hL.2⟩) hS (fun q _ h => h) (fun q h => h) (fun r u t H1 locs1 ht hvm hp hb hz hk hS1 => ?_)
  obtain ⟨rfl, hp⟩ := hp
  rw [ht] at hb
  exact kk u.1 u.2 hp H1 locs1 ls hb hS1 hl
theorem r_Sl5 (B : Bx l G X cc nL own rm0 ret0) {y : MethodName} {bytes : ByteArray} {mL i mc ms : Nat} {rm : Room} {a0 a1 a2 a3 a4 : Value} {post : Int → Mem → Prop} (hM : Ct l G y bytes mL (some .long) rm [a0, a1, a2, a3, a4] M (PoL G post) mc ms) (hM0 : rm.cells = mc ∧ rm.slots = ms) (ok : CalOk y bytes mL (some .long) 5) (sk : Cond.static y ∈ tG) (w : Cond.methodLink own i y ∈ tG) (hf : Fits rm rm0 mL st) (hL : Lft k n rm0 mc ms) (hdg : decode cc pc = .ok (.invokestatic i, 3)) (kk : ∀ (r : Int) (M' : Mem), post r M' → WM G X (k + mc) (n + ms) Q M' (pc + 3) lv (.long (lI r) :: st)) : WM G X k n Q M pc lv (a4 :: a3 :: a2 :: a1 :: a0 :: st) := by
  intro H locs ls hP hS hl
  have hl2 := B.2.1
  subst hl2
  refine va_calll (va_runS (As := [a0, a1, a2, a3, a4]) (rest := st) ⟨B.1.1, B.1.2.1, B.1.2.2.1, B.1.2.2.2.1, B.1.2.2.2.2⟩ hM ⟨mk_B B ok w hM0.1 hM0.2 ⟨hf.1, hf.2.1⟩, B.1.2.2.2.2 _ sk⟩ ⟨PreM.blind G M _, mk_P B hP hS⟩ rfl rfl (by rw [hl.1]; exact B.1.2.2.1) rfl (lv_room hf.2.2) hdg ⟨by rw [B.2.2.1]; exact hL.1, by rw [B.2.2.1]; exact hL.2⟩) hS (fun q _ h => h) (fun q h => h) (fun r u t H1 locs1 ht hvm hp hb hz hk hS1 => ?_)
  obtain ⟨rfl, hp⟩ := hp
  rw [ht] at hb
  exact kk u.1 u.2 hp H1 locs1 ls hb hS1 hl
theorem r_Sv0 (B : Bx l G X cc nL own rm0 ret0) {y : MethodName} {bytes : ByteArray} {mL i mc ms : Nat} {rm : Room} {post : Mem → Prop} (hM : Ct l G y bytes mL (none) rm [] M (PoV G post) mc ms) (hM0 : rm.cells = mc ∧ rm.slots = ms) (ok : CalOk y bytes mL (none) 0) (sk : Cond.static y ∈ tG) (w : Cond.methodLink own i y ∈ tG) (hf : Fits rm rm0 mL st) (hL : Lft k n rm0 mc ms) (hdg : decode cc pc = .ok (.invokestatic i, 3)) (kk : ∀ (M' : Mem), post M' → WM G X (k + mc) (n + ms) Q M' (pc + 3) lv (st)) : WM G X k n Q M pc lv (st) := by
  intro H locs ls hP hS hl
  have hl2 := B.2.1
  subst hl2
  refine va_callv (va_runS (As := []) (rest := st) ⟨B.1.1, B.1.2.1, B.1.2.2.1, B.1.2.2.2.1, B.1.2.2.2.2⟩ hM ⟨mk_B B ok w hM0.1 hM0.2 ⟨hf.1, hf.2.1⟩, B.1.2.2.2.2 _ sk⟩ ⟨PreM.blind G M _, mk_P B hP hS⟩ rfl rfl (by rw [hl.1]; exact B.1.2.2.1) rfl (lv_room hf.2.2) hdg ⟨by rw [B.2.2.1]; exact hL.1, by rw [B.2.2.1]; exact hL.2⟩) hS (fun q _ h => h) (fun q h => h) (fun u t H1 locs1 ht hvm hp hb hz hk hS1 => ?_)
  skip
  rw [ht] at hb
  exact kk u hp H1 locs1 ls hb hS1 hl
theorem r_Sv1 (B : Bx l G X cc nL own rm0 ret0) {y : MethodName} {bytes : ByteArray} {mL i mc ms : Nat} {rm : Room} {a0 : Value} {post : Mem → Prop} (hM : Ct l G y bytes mL (none) rm [a0] M (PoV G post) mc ms) (hM0 : rm.cells = mc ∧ rm.slots = ms) (ok : CalOk y bytes mL (none) 1) (sk : Cond.static y ∈ tG) (w : Cond.methodLink own i y ∈ tG) (hf : Fits rm rm0 mL st) (hL : Lft k n rm0 mc ms) (hdg : decode cc pc = .ok (.invokestatic i, 3)) (kk : ∀ (M' : Mem), post M' → WM G X (k + mc) (n + ms) Q M' (pc + 3) lv (st)) : WM G X k n Q M pc lv (a0 :: st) := by
  intro H locs ls hP hS hl
  have hl2 := B.2.1
  subst hl2
  refine va_callv (va_runS (As := [a0]) (rest := st) ⟨B.1.1, B.1.2.1, B.1.2.2.1, B.1.2.2.2.1, B.1.2.2.2.2⟩ hM ⟨mk_B B ok w hM0.1 hM0.2 ⟨hf.1, hf.2.1⟩, B.1.2.2.2.2 _ sk⟩ ⟨PreM.blind G M _, mk_P B hP hS⟩ rfl rfl (by rw [hl.1]; exact B.1.2.2.1) rfl (lv_room hf.2.2) hdg ⟨by rw [B.2.2.1]; exact hL.1, by rw [B.2.2.1]; exact hL.2⟩) hS (fun q _ h => h) (fun q h => h) (fun u t H1 locs1 ht hvm hp hb hz hk hS1 => ?_)
  skip
  rw [ht] at hb
  exact kk u hp H1 locs1 ls hb hS1 hl
theorem r_Sv2 (B : Bx l G X cc nL own rm0 ret0) {y : MethodName} {bytes : ByteArray} {mL i mc ms : Nat} {rm : Room} {a0 a1 : Value} {post : Mem → Prop} (hM : Ct l G y bytes mL (none) rm [a0, a1] M (PoV G post) mc ms) (hM0 : rm.cells = mc ∧ rm.slots = ms) (ok : CalOk y bytes mL (none) 2) (sk : Cond.static y ∈ tG) (w : Cond.methodLink own i y ∈ tG) (hf : Fits rm rm0 mL st) (hL : Lft k n rm0 mc ms) (hdg : decode cc pc = .ok (.invokestatic i, 3)) (kk : ∀ (M' : Mem), post M' → WM G X (k + mc) (n + ms) Q M' (pc + 3) lv (st)) : WM G X k n Q M pc lv (a1 :: a0 :: st) := by
  intro H locs ls hP hS hl
  have hl2 := B.2.1
  subst hl2
  refine va_callv (va_runS (As := [a0, a1]) (rest := st) ⟨B.1.1, B.1.2.1, B.1.2.2.1, B.1.2.2.2.1, B.1.2.2.2.2⟩ hM ⟨mk_B B ok w hM0.1 hM0.2 ⟨hf.1, hf.2.1⟩, B.1.2.2.2.2 _ sk⟩ ⟨PreM.blind G M _, mk_P B hP hS⟩ rfl rfl (by rw [hl.1]; exact B.1.2.2.1) rfl (lv_room hf.2.2) hdg ⟨by rw [B.2.2.1]; exact hL.1, by rw [B.2.2.1]; exact hL.2⟩) hS (fun q _ h => h) (fun q h => h) (fun u t H1 locs1 ht hvm hp hb hz hk hS1 => ?_)
  skip
  rw [ht] at hb
  exact kk u hp H1 locs1 ls hb hS1 hl
theorem r_Sv3 (B : Bx l G X cc nL own rm0 ret0) {y : MethodName} {bytes : ByteArray} {mL i mc ms : Nat} {rm : Room} {a0 a1 a2 : Value} {post : Mem → Prop} (hM : Ct l G y bytes mL (none) rm [a0, a1, a2] M (PoV G post) mc ms) (hM0 : rm.cells = mc ∧ rm.slots = ms) (ok : CalOk y bytes mL (none) 3) (sk : Cond.static y ∈ tG) (w : Cond.methodLink own i y ∈ tG) (hf : Fits rm rm0 mL st) (hL : Lft k n rm0 mc ms) (hdg : decode cc pc = .ok (.invokestatic i, 3)) (kk : ∀ (M' : Mem), post M' → WM G X (k + mc) (n + ms) Q M' (pc + 3) lv (st)) : WM G X k n Q M pc lv (a2 :: a1 :: a0 :: st) := by
  intro H locs ls hP hS hl
  have hl2 := B.2.1
  subst hl2
  refine va_callv (va_runS (As := [a0, a1, a2]) (rest := st) ⟨B.1.1, B.1.2.1, B.1.2.2.1, B.1.2.2.2.1, B.1.2.2.2.2⟩ hM ⟨mk_B B ok w hM0.1 hM0.2 ⟨hf.1, hf.2.1⟩, B.1.2.2.2.2 _ sk⟩ ⟨PreM.blind G M _, mk_P B hP hS⟩ rfl rfl (by rw [hl.1]; exact B.1.2.2.1) rfl (lv_room hf.2.2) hdg ⟨by rw [B.2.2.1]; exact hL.1, by rw [B.2.2.1]; exact hL.2⟩) hS (fun q _ h => h) (fun q h => h) (fun u t H1 locs1 ht hvm hp hb hz hk hS1 => ?_)
  skip
  rw [ht] at hb
  exact kk u hp H1 locs1 ls hb hS1 hl
theorem r_Sv4 (B : Bx l G X cc nL own rm0 ret0) {y : MethodName} {bytes : ByteArray} {mL i mc ms : Nat} {rm : Room} {a0 a1 a2 a3 : Value} {post : Mem → Prop} (hM : Ct l G y bytes mL (none) rm [a0, a1, a2, a3] M (PoV G post) mc ms) (hM0 : rm.cells = mc ∧ rm.slots = ms) (ok : CalOk y bytes mL (none) 4) (sk : Cond.static y ∈ tG) (w : Cond.methodLink own i y ∈ tG) (hf : Fits rm rm0 mL st) (hL : Lft k n rm0 mc ms) (hdg : decode cc pc = .ok (.invokestatic i, 3)) (kk : ∀ (M' : Mem), post M' → WM G X (k + mc) (n + ms) Q M' (pc + 3) lv (st)) : WM G X k n Q M pc lv (a3 :: a2 :: a1 :: a0 :: st) := by
  intro H locs ls hP hS hl
  have hl2 := B.2.1
  subst hl2
  refine va_callv (va_runS (As := [a0, a1, a2, a3]) (rest := st) ⟨B.1.1, B.1.2.1, B.1.2.2.1, B.1.2.2.2.1, B.1.2.2.2.2⟩ hM ⟨mk_B B ok w hM0.1 hM0.2 ⟨hf.1, hf.2.1⟩, B.1.2.2.2.2 _ sk⟩ ⟨PreM.blind G M _, mk_P B hP hS⟩ rfl rfl (by rw [hl.1]; exact B.1.2.2.1) rfl (lv_room hf.2.2) hdg ⟨by rw [B.2.2.1]; exact hL.1, by rw [B.2.2.1]; exact hL.2⟩) hS (fun q _ h => h) (fun q h => h) (fun u t H1 locs1 ht hvm hp hb hz hk hS1 => ?_)
  skip
  rw [ht] at hb
  exact kk u hp H1 locs1 ls hb hS1 hl
theorem r_Sv5 (B : Bx l G X cc nL own rm0 ret0) {y : MethodName} {bytes : ByteArray} {mL i mc ms : Nat} {rm : Room} {a0 a1 a2 a3 a4 : Value} {post : Mem → Prop} (hM : Ct l G y bytes mL (none) rm [a0, a1, a2, a3, a4] M (PoV G post) mc ms) (hM0 : rm.cells = mc ∧ rm.slots = ms) (ok : CalOk y bytes mL (none) 5) (sk : Cond.static y ∈ tG) (w : Cond.methodLink own i y ∈ tG) (hf : Fits rm rm0 mL st) (hL : Lft k n rm0 mc ms) (hdg : decode cc pc = .ok (.invokestatic i, 3)) (kk : ∀ (M' : Mem), post M' → WM G X (k + mc) (n + ms) Q M' (pc + 3) lv (st)) : WM G X k n Q M pc lv (a4 :: a3 :: a2 :: a1 :: a0 :: st) := by
  intro H locs ls hP hS hl
  have hl2 := B.2.1
  subst hl2
  refine va_callv (va_runS (As := [a0, a1, a2, a3, a4]) (rest := st) ⟨B.1.1, B.1.2.1, B.1.2.2.1, B.1.2.2.2.1, B.1.2.2.2.2⟩ hM ⟨mk_B B ok w hM0.1 hM0.2 ⟨hf.1, hf.2.1⟩, B.1.2.2.2.2 _ sk⟩ ⟨PreM.blind G M _, mk_P B hP hS⟩ rfl rfl (by rw [hl.1]; exact B.1.2.2.1) rfl (lv_room hf.2.2) hdg ⟨by rw [B.2.2.1]; exact hL.1, by rw [B.2.2.1]; exact hL.2⟩) hS (fun q _ h => h) (fun q h => h) (fun u t H1 locs1 ht hvm hp hb hz hk hS1 => ?_)
  skip
  rw [ht] at hb
  exact kk u hp H1 locs1 ls hb hS1 hl
theorem r_Sa0 (B : Bx l G X cc nL own rm0 ret0) {y : MethodName} {bytes : ByteArray} {mL i mc ms : Nat} {rm : Room} {C : String} {post : Nat → Mem → Prop} (hM : Ct l G y bytes mL (some (.object C)) rm [] M (PoA G post) mc ms) (hM0 : rm.cells = mc ∧ rm.slots = ms) (ok : CalOk y bytes mL (some (.object C)) 0) (sk : Cond.static y ∈ tG) (w : Cond.methodLink own i y ∈ tG) (hf : Fits rm rm0 mL st) (hL : Lft k n rm0 mc ms) (hdg : decode cc pc = .ok (.invokestatic i, 3)) (kk : ∀ (r : Nat) (M' : Mem), post r M' → WM G X (k + mc) (n + ms) Q M' (pc + 3) lv (.ref r :: st)) : WM G X k n Q M pc lv (st) := by
  intro H locs ls hP hS hl
  have hl2 := B.2.1
  subst hl2
  refine va_callq (va_runS (As := []) (rest := st) ⟨B.1.1, B.1.2.1, B.1.2.2.1, B.1.2.2.2.1, B.1.2.2.2.2⟩ hM ⟨mk_B B ok w hM0.1 hM0.2 ⟨hf.1, hf.2.1⟩, B.1.2.2.2.2 _ sk⟩ ⟨PreM.blind G M _, mk_P B hP hS⟩ rfl rfl (by rw [hl.1]; exact B.1.2.2.1) rfl (lv_room hf.2.2) hdg ⟨by rw [B.2.2.1]; exact hL.1, by rw [B.2.2.1]; exact hL.2⟩) hS (fun q _ h => h) (fun q h => h) (fun r u t H1 locs1 ht hvm hp hb hz hk hS1 => ?_)
  obtain ⟨rfl, hp⟩ := hp
  rw [ht] at hb
  exact kk u.1 u.2 hp H1 locs1 ls hb hS1 hl
theorem r_Sa1 (B : Bx l G X cc nL own rm0 ret0) {y : MethodName} {bytes : ByteArray} {mL i mc ms : Nat} {rm : Room} {a0 : Value} {C : String} {post : Nat → Mem → Prop} (hM : Ct l G y bytes mL (some (.object C)) rm [a0] M (PoA G post) mc ms) (hM0 : rm.cells = mc ∧ rm.slots = ms) (ok : CalOk y bytes mL (some (.object C)) 1) (sk : Cond.static y ∈ tG) (w : Cond.methodLink own i y ∈ tG) (hf : Fits rm rm0 mL st) (hL : Lft k n rm0 mc ms) (hdg : decode cc pc = .ok (.invokestatic i, 3)) (kk : ∀ (r : Nat) (M' : Mem), post r M' → WM G X (k + mc) (n + ms) Q M' (pc + 3) lv (.ref r :: st)) : WM G X k n Q M pc lv (a0 :: st) := by
  intro H locs ls hP hS hl
  have hl2 := B.2.1
  subst hl2
  refine va_callq (va_runS (As := [a0]) (rest := st) ⟨B.1.1, B.1.2.1, B.1.2.2.1, B.1.2.2.2.1, B.1.2.2.2.2⟩ hM ⟨mk_B B ok w hM0.1 hM0.2 ⟨hf.1, hf.2.1⟩, B.1.2.2.2.2 _ sk⟩ ⟨PreM.blind G M _, mk_P B hP hS⟩ rfl rfl (by rw [hl.1]; exact B.1.2.2.1) rfl (lv_room hf.2.2) hdg ⟨by rw [B.2.2.1]; exact hL.1, by rw [B.2.2.1]; exact hL.2⟩) hS (fun q _ h => h) (fun q h => h) (fun r u t H1 locs1 ht hvm hp hb hz hk hS1 => ?_)
  obtain ⟨rfl, hp⟩ := hp
  rw [ht] at hb
  exact kk u.1 u.2 hp H1 locs1 ls hb hS1 hl
theorem r_Sa2 (B : Bx l G X cc nL own rm0 ret0) {y : MethodName} {bytes : ByteArray} {mL i mc ms : Nat} {rm : Room} {a0 a1 : Value} {C : String} {post : Nat → Mem → Prop} (hM : Ct l G y bytes mL (some (.object C)) rm [a0, a1] M (PoA G post) mc ms) (hM0 : rm.cells = mc ∧ rm.slots = ms) (ok : CalOk y bytes mL (some (.object C)) 2) (sk : Cond.static y ∈ tG) (w : Cond.methodLink own i y ∈ tG) (hf : Fits rm rm0 mL st) (hL : Lft k n rm0 mc ms) (hdg : decode cc pc = .ok (.invokestatic i, 3)) (kk : ∀ (r : Nat) (M' : Mem), post r M' → WM G X (k + mc) (n + ms) Q M' (pc + 3) lv (.ref r :: st)) : WM G X k n Q M pc lv (a1 :: a0 :: st) := by
  intro H locs ls hP hS hl
  have hl2 := B.2.1
  subst hl2
  refine va_callq (va_runS (As := [a0, a1]) (rest := st) ⟨B.1.1, B.1.2.1, B.1.2.2.1, B.1.2.2.2.1, B.1.2.2.2.2⟩ hM ⟨mk_B B ok w hM0.1 hM0.2 ⟨hf.1, hf.2.1⟩, B.1.2.2.2.2 _ sk⟩ ⟨PreM.blind G M _, mk_P B hP hS⟩ rfl rfl (by rw [hl.1]; exact B.1.2.2.1) rfl (lv_room hf.2.2) hdg ⟨by rw [B.2.2.1]; exact hL.1, by rw [B.2.2.1]; exact hL.2⟩) hS (fun q _ h => h) (fun q h => h) (fun r u t H1 locs1 ht hvm hp hb hz hk hS1 => ?_)
  obtain ⟨rfl, hp⟩ := hp
  rw [ht] at hb
  exact kk u.1 u.2 hp H1 locs1 ls hb hS1 hl
theorem r_Sa3 (B : Bx l G X cc nL own rm0 ret0) {y : MethodName} {bytes : ByteArray} {mL i mc ms : Nat} {rm : Room} {a0 a1 a2 : Value} {C : String} {post : Nat → Mem → Prop} (hM : Ct l G y bytes mL (some (.object C)) rm [a0, a1, a2] M (PoA G post) mc ms) (hM0 : rm.cells = mc ∧ rm.slots = ms) (ok : CalOk y bytes mL (some (.object C)) 3) (sk : Cond.static y ∈ tG) (w : Cond.methodLink own i y ∈ tG) (hf : Fits rm rm0 mL st) (hL : Lft k n rm0 mc ms) (hdg : decode cc pc = .ok (.invokestatic i, 3)) (kk : ∀ (r : Nat) (M' : Mem), post r M' → WM G X (k + mc) (n + ms) Q M' (pc + 3) lv (.ref r :: st)) : WM G X k n Q M pc lv (a2 :: a1 :: a0 :: st) := by
  intro H locs ls hP hS hl
  have hl2 := B.2.1
  subst hl2
  refine va_callq (va_runS (As := [a0, a1, a2]) (rest := st) ⟨B.1.1, B.1.2.1, B.1.2.2.1, B.1.2.2.2.1, B.1.2.2.2.2⟩ hM ⟨mk_B B ok w hM0.1 hM0.2 ⟨hf.1, hf.2.1⟩, B.1.2.2.2.2 _ sk⟩ ⟨PreM.blind G M _, mk_P B hP hS⟩ rfl rfl (by rw [hl.1]; exact B.1.2.2.1) rfl (lv_room hf.2.2) hdg ⟨by rw [B.2.2.1]; exact hL.1, by rw [B.2.2.1]; exact hL.2⟩) hS (fun q _ h => h) (fun q h => h) (fun r u t H1 locs1 ht hvm hp hb hz hk hS1 => ?_)
  obtain ⟨rfl, hp⟩ := hp
  rw [ht] at hb
  exact kk u.1 u.2 hp H1 locs1 ls hb hS1 hl
theorem r_Sa4 (B : Bx l G X cc nL own rm0 ret0) {y : MethodName} {bytes : ByteArray} {mL i mc ms : Nat} {rm : Room} {a0 a1 a2 a3 : Value} {C : String} {post : Nat → Mem → Prop} (hM : Ct l G y bytes mL (some (.object C)) rm [a0, a1, a2, a3] M (PoA G post) mc ms) (hM0 : rm.cells = mc ∧ rm.slots = ms) (ok : CalOk y bytes mL (some (.object C)) 4) (sk : Cond.static y ∈ tG) (w : Cond.methodLink own i y ∈ tG) (hf : Fits rm rm0 mL st) (hL : Lft k n rm0 mc ms) (hdg : decode cc pc = .ok (.invokestatic i, 3)) (kk : ∀ (r : Nat) (M' : Mem), post r M' → WM G X (k + mc) (n + ms) Q M' (pc + 3) lv (.ref r :: st)) : WM G X k n Q M pc lv (a3 :: a2 :: a1 :: a0 :: st) := by
  intro H locs ls hP hS hl
  have hl2 := B.2.1
  subst hl2
  refine va_callq (va_runS (As := [a0, a1, a2, a3]) (rest := st) ⟨B.1.1, B.1.2.1, B.1.2.2.1, B.1.2.2.2.1, B.1.2.2.2.2⟩ hM ⟨mk_B B ok w hM0.1 hM0.2 ⟨hf.1, hf.2.1⟩, B.1.2.2.2.2 _ sk⟩ ⟨PreM.blind G M _, mk_P B hP hS⟩ rfl rfl (by rw [hl.1]; exact B.1.2.2.1) rfl (lv_room hf.2.2) hdg ⟨by rw [B.2.2.1]; exact hL.1, by rw [B.2.2.1]; exact hL.2⟩) hS (fun q _ h => h) (fun q h => h) (fun r u t H1 locs1 ht hvm hp hb hz hk hS1 => ?_)
  obtain ⟨rfl, hp⟩ := hp
  rw [ht] at hb
  exact kk u.1 u.2 hp H1 locs1 ls hb hS1 hl
theorem r_Sa5 (B : Bx l G X cc nL own rm0 ret0) {y : MethodName} {bytes : ByteArray} {mL i mc ms : Nat} {rm : Room} {a0 a1 a2 a3 a4 : Value} {C : String} {post : Nat → Mem → Prop} (hM : Ct l G y bytes mL (some (.object C)) rm [a0, a1, a2, a3, a4] M (PoA G post) mc ms) (hM0 : rm.cells = mc ∧ rm.slots = ms) (ok : CalOk y bytes mL (some (.object C)) 5) (sk : Cond.static y ∈ tG) (w : Cond.methodLink own i y ∈ tG) (hf : Fits rm rm0 mL st) (hL : Lft k n rm0 mc ms) (hdg : decode cc pc = .ok (.invokestatic i, 3)) (kk : ∀ (r : Nat) (M' : Mem), post r M' → WM G X (k + mc) (n + ms) Q M' (pc + 3) lv (.ref r :: st)) : WM G X k n Q M pc lv (a4 :: a3 :: a2 :: a1 :: a0 :: st) := by
  intro H locs ls hP hS hl
  have hl2 := B.2.1
  subst hl2
  refine va_callq (va_runS (As := [a0, a1, a2, a3, a4]) (rest := st) ⟨B.1.1, B.1.2.1, B.1.2.2.1, B.1.2.2.2.1, B.1.2.2.2.2⟩ hM ⟨mk_B B ok w hM0.1 hM0.2 ⟨hf.1, hf.2.1⟩, B.1.2.2.2.2 _ sk⟩ ⟨PreM.blind G M _, mk_P B hP hS⟩ rfl rfl (by rw [hl.1]; exact B.1.2.2.1) rfl (lv_room hf.2.2) hdg ⟨by rw [B.2.2.1]; exact hL.1, by rw [B.2.2.1]; exact hL.2⟩) hS (fun q _ h => h) (fun q h => h) (fun r u t H1 locs1 ht hvm hp hb hz hk hS1 => ?_)
  obtain ⟨rfl, hp⟩ := hp
  rw [ht] at hb
  exact kk u.1 u.2 hp H1 locs1 ls hb hS1 hl
theorem r_Sd0 (B : Bx l G X cc nL own rm0 ret0) {y : MethodName} {bytes : ByteArray} {mL i mc ms : Nat} {rm : Room} {post : UInt64 → Mem → Prop} (hM : Ct l G y bytes mL (some .double) rm [] M (PoD G post) mc ms) (hM0 : rm.cells = mc ∧ rm.slots = ms) (ok : CalOk y bytes mL (some .double) 0) (sk : Cond.static y ∈ tG) (w : Cond.methodLink own i y ∈ tG) (hf : Fits rm rm0 mL st) (hL : Lft k n rm0 mc ms) (hdg : decode cc pc = .ok (.invokestatic i, 3)) (kk : ∀ (r : UInt64) (M' : Mem), post r M' → WM G X (k + mc) (n + ms) Q M' (pc + 3) lv (.double r :: st)) : WM G X k n Q M pc lv (st) := by
  intro H locs ls hP hS hl
  have hl2 := B.2.1
  subst hl2
  refine va_calld (va_runS (As := []) (rest := st) ⟨B.1.1, B.1.2.1, B.1.2.2.1, B.1.2.2.2.1, B.1.2.2.2.2⟩ hM ⟨mk_B B ok w hM0.1 hM0.2 ⟨hf.1, hf.2.1⟩, B.1.2.2.2.2 _ sk⟩ ⟨PreM.blind G M _, mk_P B hP hS⟩ rfl rfl (by rw [hl.1]; exact B.1.2.2.1) rfl (lv_room hf.2.2) hdg ⟨by rw [B.2.2.1]; exact hL.1, by rw [B.2.2.1]; exact hL.2⟩) hS (fun q _ h => h) (fun q h => h) (fun r u t H1 locs1 ht hvm hp hb hz hk hS1 => ?_)
  skip
  rw [ht] at hb
  exact kk r u hp H1 locs1 ls hb hS1 hl
theorem r_Sd1 (B : Bx l G X cc nL own rm0 ret0) {y : MethodName} {bytes : ByteArray} {mL i mc ms : Nat} {rm : Room} {a0 : Value} {post : UInt64 → Mem → Prop} (hM : Ct l G y bytes mL (some .double) rm [a0] M (PoD G post) mc ms) (hM0 : rm.cells = mc ∧ rm.slots = ms) (ok : CalOk y bytes mL (some .double) 1) (sk : Cond.static y ∈ tG) (w : Cond.methodLink own i y ∈ tG) (hf : Fits rm rm0 mL st) (hL : Lft k n rm0 mc ms) (hdg : decode cc pc = .ok (.invokestatic i, 3)) (kk : ∀ (r : UInt64) (M' : Mem), post r M' → WM G X (k + mc) (n + ms) Q M' (pc + 3) lv (.double r :: st)) : WM G X k n Q M pc lv (a0 :: st) := by
  intro H locs ls hP hS hl
  have hl2 := B.2.1
  subst hl2
  refine va_calld (va_runS (As := [a0]) (rest := st) ⟨B.1.1, B.1.2.1, B.1.2.2.1, B.1.2.2.2.1, B.1.2.2.2.2⟩ hM ⟨mk_B B ok w hM0.1 hM0.2 ⟨hf.1, hf.2.1⟩, B.1.2.2.2.2 _ sk⟩ ⟨PreM.blind G M _, mk_P B hP hS⟩ rfl rfl (by rw [hl.1]; exact B.1.2.2.1) rfl (lv_room hf.2.2) hdg ⟨by rw [B.2.2.1]; exact hL.1, by rw [B.2.2.1]; exact hL.2⟩) hS (fun q _ h => h) (fun q h => h) (fun r u t H1 locs1 ht hvm hp hb hz hk hS1 => ?_)
  skip
  rw [ht] at hb
  exact kk r u hp H1 locs1 ls hb hS1 hl
theorem r_Sd2 (B : Bx l G X cc nL own rm0 ret0) {y : MethodName} {bytes : ByteArray} {mL i mc ms : Nat} {rm : Room} {a0 a1 : Value} {post : UInt64 → Mem → Prop} (hM : Ct l G y bytes mL (some .double) rm [a0, a1] M (PoD G post) mc ms) (hM0 : rm.cells = mc ∧ rm.slots = ms) (ok : CalOk y bytes mL (some .double) 2) (sk : Cond.static y ∈ tG) (w : Cond.methodLink own i y ∈ tG) (hf : Fits rm rm0 mL st) (hL : Lft k n rm0 mc ms) (hdg : decode cc pc = .ok (.invokestatic i, 3)) (kk : ∀ (r : UInt64) (M' : Mem), post r M' → WM G X (k + mc) (n + ms) Q M' (pc + 3) lv (.double r :: st)) : WM G X k n Q M pc lv (a1 :: a0 :: st) := by
  intro H locs ls hP hS hl
  have hl2 := B.2.1
  subst hl2
  refine va_calld (va_runS (As := [a0, a1]) (rest := st) ⟨B.1.1, B.1.2.1, B.1.2.2.1, B.1.2.2.2.1, B.1.2.2.2.2⟩ hM ⟨mk_B B ok w hM0.1 hM0.2 ⟨hf.1, hf.2.1⟩, B.1.2.2.2.2 _ sk⟩ ⟨PreM.blind G M _, mk_P B hP hS⟩ rfl rfl (by rw [hl.1]; exact B.1.2.2.1) rfl (lv_room hf.2.2) hdg ⟨by rw [B.2.2.1]; exact hL.1, by rw [B.2.2.1]; exact hL.2⟩) hS (fun q _ h => h) (fun q h => h) (fun r u t H1 locs1 ht hvm hp hb hz hk hS1 => ?_)
  skip
  rw [ht] at hb
  exact kk r u hp H1 locs1 ls hb hS1 hl
theorem r_Sd3 (B : Bx l G X cc nL own rm0 ret0) {y : MethodName} {bytes : ByteArray} {mL i mc ms : Nat} {rm : Room} {a0 a1 a2 : Value} {post : UInt64 → Mem → Prop} (hM : Ct l G y bytes mL (some .double) rm [a0, a1, a2] M (PoD G post) mc ms) (hM0 : rm.cells = mc ∧ rm.slots = ms) (ok : CalOk y bytes mL (some .double) 3) (sk : Cond.static y ∈ tG) (w : Cond.methodLink own i y ∈ tG) (hf : Fits rm rm0 mL st) (hL : Lft k n rm0 mc ms) (hdg : decode cc pc = .ok (.invokestatic i, 3)) (kk : ∀ (r : UInt64) (M' : Mem), post r M' → WM G X (k + mc) (n + ms) Q M' (pc + 3) lv (.double r :: st)) : WM G X k n Q M pc lv (a2 :: a1 :: a0 :: st) := by
  intro H locs ls hP hS hl
  have hl2 := B.2.1
  subst hl2
  refine va_calld (va_runS (As := [a0, a1, a2]) (rest := st) ⟨B.1.1, B.1.2.1, B.1.2.2.1, B.1.2.2.2.1, B.1.2.2.2.2⟩ hM ⟨mk_B B ok w hM0.1 hM0.2 ⟨hf.1, hf.2.1⟩, B.1.2.2.2.2 _ sk⟩ ⟨PreM.blind G M _, mk_P B hP hS⟩ rfl rfl (by rw [hl.1]; exact B.1.2.2.1) rfl (lv_room hf.2.2) hdg ⟨by rw [B.2.2.1]; exact hL.1, by rw [B.2.2.1]; exact hL.2⟩) hS (fun q _ h => h) (fun q h => h) (fun r u t H1 locs1 ht hvm hp hb hz hk hS1 => ?_)
  skip
  rw [ht] at hb
  exact kk r u hp H1 locs1 ls hb hS1 hl
theorem r_Sd4 (B : Bx l G X cc nL own rm0 ret0) {y : MethodName} {bytes : ByteArray} {mL i mc ms : Nat} {rm : Room} {a0 a1 a2 a3 : Value} {post : UInt64 → Mem → Prop} (hM : Ct l G y bytes mL (some .double) rm [a0, a1, a2, a3] M (PoD G post) mc ms) (hM0 : rm.cells = mc ∧ rm.slots = ms) (ok : CalOk y bytes mL (some .double) 4) (sk : Cond.static y ∈ tG) (w : Cond.methodLink own i y ∈ tG) (hf : Fits rm rm0 mL st) (hL : Lft k n rm0 mc ms) (hdg : decode cc pc = .ok (.invokestatic i, 3)) (kk : ∀ (r : UInt64) (M' : Mem), post r M' → WM G X (k + mc) (n + ms) Q M' (pc + 3) lv (.double r :: st)) : WM G X k n Q M pc lv (a3 :: a2 :: a1 :: a0 :: st) := by
  intro H locs ls hP hS hl
  have hl2 := B.2.1
  subst hl2
  refine va_calld (va_runS (As := [a0, a1, a2, a3]) (rest := st) ⟨B.1.1, B.1.2.1, B.1.2.2.1, B.1.2.2.2.1, B.1.2.2.2.2⟩ hM ⟨mk_B B ok w hM0.1 hM0.2 ⟨hf.1, hf.2.1⟩, B.1.2.2.2.2 _ sk⟩ ⟨PreM.blind G M _, mk_P B hP hS⟩ rfl rfl (by rw [hl.1]; exact B.1.2.2.1) rfl (lv_room hf.2.2) hdg ⟨by rw [B.2.2.1]; exact hL.1, by rw [B.2.2.1]; exact hL.2⟩) hS (fun q _ h => h) (fun q h => h) (fun r u t H1 locs1 ht hvm hp hb hz hk hS1 => ?_)
  skip
  rw [ht] at hb
  exact kk r u hp H1 locs1 ls hb hS1 hl
theorem r_Sd5 (B : Bx l G X cc nL own rm0 ret0) {y : MethodName} {bytes : ByteArray} {mL i mc ms : Nat} {rm : Room} {a0 a1 a2 a3 a4 : Value} {post : UInt64 → Mem → Prop} (hM : Ct l G y bytes mL (some .double) rm [a0, a1, a2, a3, a4] M (PoD G post) mc ms) (hM0 : rm.cells = mc ∧ rm.slots = ms) (ok : CalOk y bytes mL (some .double) 5) (sk : Cond.static y ∈ tG) (w : Cond.methodLink own i y ∈ tG) (hf : Fits rm rm0 mL st) (hL : Lft k n rm0 mc ms) (hdg : decode cc pc = .ok (.invokestatic i, 3)) (kk : ∀ (r : UInt64) (M' : Mem), post r M' → WM G X (k + mc) (n + ms) Q M' (pc + 3) lv (.double r :: st)) : WM G X k n Q M pc lv (a4 :: a3 :: a2 :: a1 :: a0 :: st) := by
  intro H locs ls hP hS hl
  have hl2 := B.2.1
  subst hl2
  refine va_calld (va_runS (As := [a0, a1, a2, a3, a4]) (rest := st) ⟨B.1.1, B.1.2.1, B.1.2.2.1, B.1.2.2.2.1, B.1.2.2.2.2⟩ hM ⟨mk_B B ok w hM0.1 hM0.2 ⟨hf.1, hf.2.1⟩, B.1.2.2.2.2 _ sk⟩ ⟨PreM.blind G M _, mk_P B hP hS⟩ rfl rfl (by rw [hl.1]; exact B.1.2.2.1) rfl (lv_room hf.2.2) hdg ⟨by rw [B.2.2.1]; exact hL.1, by rw [B.2.2.1]; exact hL.2⟩) hS (fun q _ h => h) (fun q h => h) (fun r u t H1 locs1 ht hvm hp hb hz hk hS1 => ?_)
  skip
  rw [ht] at hb
  exact kk r u hp H1 locs1 ls hb hS1 hl
theorem r_Ni0 (B : Bx l G X cc nL own rm0 ret0) {y : MethodName} {bytes : ByteArray} {mL i mc ms : Nat} {rm : Room} {host : String} {post : Int → Mem → Prop} (hM : Ct l G y bytes mL (some .int) rm [] M (PoI G post) mc ms) (hM0 : rm.cells = mc ∧ rm.slots = ms) (ok : CalOk y bytes mL (some .int) 0) (sk : Cond.static y ∈ tG) (w : (own, i, y, host) ∈ nestL) (hf : Fits rm rm0 mL st) (hL : Lft k n rm0 mc ms) (hdg : decode cc pc = .ok (.invokestatic i, 3)) (kk : ∀ (r : Int) (M' : Mem), post r M' → WM G X (k + mc) (n + ms) Q M' (pc + 3) lv (.int (iI r) :: st)) : WM G X k n Q M pc lv (st) := by
  intro H locs ls hP hS hl
  have hl2 := B.2.1
  subst hl2
  refine va_calli (va_runSN (As := []) (rest := st) ⟨B.1.1, B.1.2.1, B.1.2.2.1, B.1.2.2.2.1, B.1.2.2.2.2⟩ hM ⟨mk_N B ok w hM0.1 hM0.2 ⟨hf.1, hf.2.1⟩, B.1.2.2.2.2 _ sk, trivial⟩ ⟨PreM.blind G M _, mk_P B hP hS⟩ rfl rfl (by rw [hl.1]; exact B.1.2.2.1) rfl (lv_room hf.2.2) hdg ⟨by rw [B.2.2.1]; exact hL.1, by rw [B.2.2.1]; exact hL.2⟩) hS (fun q _ h => h) (fun q h => h) (fun r u t H1 locs1 ht hvm hp hb hz hk hS1 => ?_)
  obtain ⟨rfl, hp⟩ := hp
  rw [ht] at hb
  exact kk u.1 u.2 hp H1 locs1 ls hb hS1 hl
theorem r_Ni1 (B : Bx l G X cc nL own rm0 ret0) {y : MethodName} {bytes : ByteArray} {mL i mc ms : Nat} {rm : Room} {host : String} {a0 : Value} {post : Int → Mem → Prop} (hM : Ct l G y bytes mL (some .int) rm [a0] M (PoI G post) mc ms) (hM0 : rm.cells = mc ∧ rm.slots = ms) (ok : CalOk y bytes mL (some .int) 1) (sk : Cond.static y ∈ tG) (w : (own, i, y, host) ∈ nestL) (hf : Fits rm rm0 mL st) (hL : Lft k n rm0 mc ms) (hdg : decode cc pc = .ok (.invokestatic i, 3)) (kk : ∀ (r : Int) (M' : Mem), post r M' → WM G X (k + mc) (n + ms) Q M' (pc + 3) lv (.int (iI r) :: st)) : WM G X k n Q M pc lv (a0 :: st) := by
  intro H locs ls hP hS hl
  have hl2 := B.2.1
  subst hl2
  refine va_calli (va_runSN (As := [a0]) (rest := st) ⟨B.1.1, B.1.2.1, B.1.2.2.1, B.1.2.2.2.1, B.1.2.2.2.2⟩ hM ⟨mk_N B ok w hM0.1 hM0.2 ⟨hf.1, hf.2.1⟩, B.1.2.2.2.2 _ sk, trivial⟩ ⟨PreM.blind G M _, mk_P B hP hS⟩ rfl rfl (by rw [hl.1]; exact B.1.2.2.1) rfl (lv_room hf.2.2) hdg ⟨by rw [B.2.2.1]; exact hL.1, by rw [B.2.2.1]; exact hL.2⟩) hS (fun q _ h => h) (fun q h => h) (fun r u t H1 locs1 ht hvm hp hb hz hk hS1 => ?_)
  obtain ⟨rfl, hp⟩ := hp
  rw [ht] at hb
  exact kk u.1 u.2 hp H1 locs1 ls hb hS1 hl
theorem r_Ni2 (B : Bx l G X cc nL own rm0 ret0) {y : MethodName} {bytes : ByteArray} {mL i mc ms : Nat} {rm : Room} {host : String} {a0 a1 : Value} {post : Int → Mem → Prop} (hM : Ct l G y bytes mL (some .int) rm [a0, a1] M (PoI G post) mc ms) (hM0 : rm.cells = mc ∧ rm.slots = ms) (ok : CalOk y bytes mL (some .int) 2) (sk : Cond.static y ∈ tG) (w : (own, i, y, host) ∈ nestL) (hf : Fits rm rm0 mL st) (hL : Lft k n rm0 mc ms) (hdg : decode cc pc = .ok (.invokestatic i, 3)) (kk : ∀ (r : Int) (M' : Mem), post r M' → WM G X (k + mc) (n + ms) Q M' (pc + 3) lv (.int (iI r) :: st)) : WM G X k n Q M pc lv (a1 :: a0 :: st) := by
  intro H locs ls hP hS hl
  have hl2 := B.2.1
  subst hl2
  refine va_calli (va_runSN (As := [a0, a1]) (rest := st) ⟨B.1.1, B.1.2.1, B.1.2.2.1, B.1.2.2.2.1, B.1.2.2.2.2⟩ hM ⟨mk_N B ok w hM0.1 hM0.2 ⟨hf.1, hf.2.1⟩, B.1.2.2.2.2 _ sk, trivial⟩ ⟨PreM.blind G M _, mk_P B hP hS⟩ rfl rfl (by rw [hl.1]; exact B.1.2.2.1) rfl (lv_room hf.2.2) hdg ⟨by rw [B.2.2.1]; exact hL.1, by rw [B.2.2.1]; exact hL.2⟩) hS (fun q _ h => h) (fun q h => h) (fun r u t H1 locs1 ht hvm hp hb hz hk hS1 => ?_)
  obtain ⟨rfl, hp⟩ := hp
  rw [ht] at hb
  exact kk u.1 u.2 hp H1 locs1 ls hb hS1 hl
theorem r_Ni3 (B : Bx l G X cc nL own rm0 ret0) {y : MethodName} {bytes : ByteArray} {mL i mc ms : Nat} {rm : Room} {host : String} {a0 a1 a2 : Value} {post : Int → Mem → Prop} (hM : Ct l G y bytes mL (some .int) rm [a0, a1, a2] M (PoI G post) mc ms) (hM0 : rm.cells = mc ∧ rm.slots = ms) (ok : CalOk y bytes mL (some .int) 3) (sk : Cond.static y ∈ tG) (w : (own, i, y, host) ∈ nestL) (hf : Fits rm rm0 mL st) (hL : Lft k n rm0 mc ms) (hdg : decode cc pc = .ok (.invokestatic i, 3)) (kk : ∀ (r : Int) (M' : Mem), post r M' → WM G X (k + mc) (n + ms) Q M' (pc + 3) lv (.int (iI r) :: st)) : WM G X k n Q M pc lv (a2 :: a1 :: a0 :: st) := by
  intro H locs ls hP hS hl
  have hl2 := B.2.1
  subst hl2
  refine va_calli (va_runSN (As := [a0, a1, a2]) (rest := st) ⟨B.1.1, B.1.2.1, B.1.2.2.1, B.1.2.2.2.1, B.1.2.2.2.2⟩ hM ⟨mk_N B ok w hM0.1 hM0.2 ⟨hf.1, hf.2.1⟩, B.1.2.2.2.2 _ sk, trivial⟩ ⟨PreM.blind G M _, mk_P B hP hS⟩ rfl rfl (by rw [hl.1]; exact B.1.2.2.1) rfl (lv_room hf.2.2) hdg ⟨by rw [B.2.2.1]; exact hL.1, by rw [B.2.2.1]; exact hL.2⟩) hS (fun q _ h => h) (fun q h => h) (fun r u t H1 locs1 ht hvm hp hb hz hk hS1 => ?_)
  obtain ⟨rfl, hp⟩ := hp
  rw [ht] at hb
  exact kk u.1 u.2 hp H1 locs1 ls hb hS1 hl
theorem r_Ni4 (B : Bx l G X cc nL own rm0 ret0) {y : MethodName} {bytes : ByteArray} {mL i mc ms : Nat} {rm : Room} {host : String} {a0 a1 a2 a3 : Value} {post : Int → Mem → Prop} (hM : Ct l G y bytes mL (some .int) rm [a0, a1, a2, a3] M (PoI G post) mc ms) (hM0 : rm.cells = mc ∧ rm.slots = ms) (ok : CalOk y bytes mL (some .int) 4) (sk : Cond.static y ∈ tG) (w : (own, i, y, host) ∈ nestL) (hf : Fits rm rm0 mL st) (hL : Lft k n rm0 mc ms) (hdg : decode cc pc = .ok (.invokestatic i, 3)) (kk : ∀ (r : Int) (M' : Mem), post r M' → WM G X (k + mc) (n + ms) Q M' (pc + 3) lv (.int (iI r) :: st)) : WM G X k n Q M pc lv (a3 :: a2 :: a1 :: a0 :: st) := by
  intro H locs ls hP hS hl
  have hl2 := B.2.1
  subst hl2
  refine va_calli (va_runSN (As := [a0, a1, a2, a3]) (rest := st) ⟨B.1.1, B.1.2.1, B.1.2.2.1, B.1.2.2.2.1, B.1.2.2.2.2⟩ hM ⟨mk_N B ok w hM0.1 hM0.2 ⟨hf.1, hf.2.1⟩, B.1.2.2.2.2 _ sk, trivial⟩ ⟨PreM.blind G M _, mk_P B hP hS⟩ rfl rfl (by rw [hl.1]; exact B.1.2.2.1) rfl (lv_room hf.2.2) hdg ⟨by rw [B.2.2.1]; exact hL.1, by rw [B.2.2.1]; exact hL.2⟩) hS (fun q _ h => h) (fun q h => h) (fun r u t H1 locs1 ht hvm hp hb hz hk hS1 => ?_)
  obtain ⟨rfl, hp⟩ := hp
  rw [ht] at hb
  exact kk u.1 u.2 hp H1 locs1 ls hb hS1 hl
theorem r_Ni5 (B : Bx l G X cc nL own rm0 ret0) {y : MethodName} {bytes : ByteArray} {mL i mc ms : Nat} {rm : Room} {host : String} {a0 a1 a2 a3 a4 : Value} {post : Int → Mem → Prop} (hM : Ct l G y bytes mL (some .int) rm [a0, a1, a2, a3, a4] M (PoI G post) mc ms) (hM0 : rm.cells = mc ∧ rm.slots = ms) (ok : CalOk y bytes mL (some .int) 5) (sk : Cond.static y ∈ tG) (w : (own, i, y, host) ∈ nestL) (hf : Fits rm rm0 mL st) (hL : Lft k n rm0 mc ms) (hdg : decode cc pc = .ok (.invokestatic i, 3)) (kk : ∀ (r : Int) (M' : Mem), post r M' → WM G X (k + mc) (n + ms) Q M' (pc + 3) lv (.int (iI r) :: st)) : WM G X k n Q M pc lv (a4 :: a3 :: a2 :: a1 :: a0 :: st) := by
  intro H locs ls hP hS hl
  have hl2 := B.2.1
  subst hl2
  refine va_calli (va_runSN (As := [a0, a1, a2, a3, a4]) (rest := st) ⟨B.1.1, B.1.2.1, B.1.2.2.1, B.1.2.2.2.1, B.1.2.2.2.2⟩ hM ⟨mk_N B ok w hM0.1 hM0.2 ⟨hf.1, hf.2.1⟩, B.1.2.2.2.2 _ sk, trivial⟩ ⟨PreM.blind G M _, mk_P B hP hS⟩ rfl rfl (by rw [hl.1]; exact B.1.2.2.1) rfl (lv_room hf.2.2) hdg ⟨by rw [B.2.2.1]; exact hL.1, by rw [B.2.2.1]; exact hL.2⟩) hS (fun q _ h => h) (fun q h => h) (fun r u t H1 locs1 ht hvm hp hb hz hk hS1 => ?_)
  obtain ⟨rfl, hp⟩ := hp
  rw [ht] at hb
  exact kk u.1 u.2 hp H1 locs1 ls hb hS1 hl
theorem r_Nz0 (B : Bx l G X cc nL own rm0 ret0) {y : MethodName} {bytes : ByteArray} {mL i mc ms : Nat} {rm : Room} {host : String} {post : Int → Mem → Prop} (hM : Ct l G y bytes mL (some .boolean) rm [] M (PoI G post) mc ms) (hM0 : rm.cells = mc ∧ rm.slots = ms) (ok : CalOk y bytes mL (some .boolean) 0) (sk : Cond.static y ∈ tG) (w : (own, i, y, host) ∈ nestL) (hf : Fits rm rm0 mL st) (hL : Lft k n rm0 mc ms) (hdg : decode cc pc = .ok (.invokestatic i, 3)) (kk : ∀ (r : Int) (M' : Mem), post r M' → WM G X (k + mc) (n + ms) Q M' (pc + 3) lv (.int (iI r) :: st)) : WM G X k n Q M pc lv (st) := by
  intro H locs ls hP hS hl
  have hl2 := B.2.1
  subst hl2
  refine va_calli (va_runSN (As := []) (rest := st) ⟨B.1.1, B.1.2.1, B.1.2.2.1, B.1.2.2.2.1, B.1.2.2.2.2⟩ hM ⟨mk_N B ok w hM0.1 hM0.2 ⟨hf.1, hf.2.1⟩, B.1.2.2.2.2 _ sk, trivial⟩ ⟨PreM.blind G M _, mk_P B hP hS⟩ rfl rfl (by rw [hl.1]; exact B.1.2.2.1) rfl (lv_room hf.2.2) hdg ⟨by rw [B.2.2.1]; exact hL.1, by rw [B.2.2.1]; exact hL.2⟩) hS (fun q _ h => h) (fun q h => h) (fun r u t H1 locs1 ht hvm hp hb hz hk hS1 => ?_)
  obtain ⟨rfl, hp⟩ := hp
  rw [ht] at hb
  exact kk u.1 u.2 hp H1 locs1 ls hb hS1 hl
theorem r_Nz1 (B : Bx l G X cc nL own rm0 ret0) {y : MethodName} {bytes : ByteArray} {mL i mc ms : Nat} {rm : Room} {host : String} {a0 : Value} {post : Int → Mem → Prop} (hM : Ct l G y bytes mL (some .boolean) rm [a0] M (PoI G post) mc ms) (hM0 : rm.cells = mc ∧ rm.slots = ms) (ok : CalOk y bytes mL (some .boolean) 1) (sk : Cond.static y ∈ tG) (w : (own, i, y, host) ∈ nestL) (hf : Fits rm rm0 mL st) (hL : Lft k n rm0 mc ms) (hdg : decode cc pc = .ok (.invokestatic i, 3)) (kk : ∀ (r : Int) (M' : Mem), post r M' → WM G X (k + mc) (n + ms) Q M' (pc + 3) lv (.int (iI r) :: st)) : WM G X k n Q M pc lv (a0 :: st) := by
  intro H locs ls hP hS hl
  have hl2 := B.2.1
  subst hl2
  refine va_calli (va_runSN (As := [a0]) (rest := st) ⟨B.1.1, B.1.2.1, B.1.2.2.1, B.1.2.2.2.1, B.1.2.2.2.2⟩ hM ⟨mk_N B ok w hM0.1 hM0.2 ⟨hf.1, hf.2.1⟩, B.1.2.2.2.2 _ sk, trivial⟩ ⟨PreM.blind G M _, mk_P B hP hS⟩ rfl rfl (by rw [hl.1]; exact B.1.2.2.1) rfl (lv_room hf.2.2) hdg ⟨by rw [B.2.2.1]; exact hL.1, by rw [B.2.2.1]; exact hL.2⟩) hS (fun q _ h => h) (fun q h => h) (fun r u t H1 locs1 ht hvm hp hb hz hk hS1 => ?_)
  obtain ⟨rfl, hp⟩ := hp
  rw [ht] at hb
  exact kk u.1 u.2 hp H1 locs1 ls hb hS1 hl
theorem r_Nz2 (B : Bx l G X cc nL own rm0 ret0) {y : MethodName} {bytes : ByteArray} {mL i mc ms : Nat} {rm : Room} {host : String} {a0 a1 : Value} {post : Int → Mem → Prop} (hM : Ct l G y bytes mL (some .boolean) rm [a0, a1] M (PoI G post) mc ms) (hM0 : rm.cells = mc ∧ rm.slots = ms) (ok : CalOk y bytes mL (some .boolean) 2) (sk : Cond.static y ∈ tG) (w : (own, i, y, host) ∈ nestL) (hf : Fits rm rm0 mL st) (hL : Lft k n rm0 mc ms) (hdg : decode cc pc = .ok (.invokestatic i, 3)) (kk : ∀ (r : Int) (M' : Mem), post r M' → WM G X (k + mc) (n + ms) Q M' (pc + 3) lv (.int (iI r) :: st)) : WM G X k n Q M pc lv (a1 :: a0 :: st) := by
  intro H locs ls hP hS hl
  have hl2 := B.2.1
  subst hl2
  refine va_calli (va_runSN (As := [a0, a1]) (rest := st) ⟨B.1.1, B.1.2.1, B.1.2.2.1, B.1.2.2.2.1, B.1.2.2.2.2⟩ hM ⟨mk_N B ok w hM0.1 hM0.2 ⟨hf.1, hf.2.1⟩, B.1.2.2.2.2 _ sk, trivial⟩ ⟨PreM.blind G M _, mk_P B hP hS⟩ rfl rfl (by rw [hl.1]; exact B.1.2.2.1) rfl (lv_room hf.2.2) hdg ⟨by rw [B.2.2.1]; exact hL.1, by rw [B.2.2.1]; exact hL.2⟩) hS (fun q _ h => h) (fun q h => h) (fun r u t H1 locs1 ht hvm hp hb hz hk hS1 => ?_)
  obtain ⟨rfl, hp⟩ := hp
  rw [ht] at hb
  exact kk u.1 u.2 hp H1 locs1 ls hb hS1 hl
theorem r_Nz3 (B : Bx l G X cc nL own rm0 ret0) {y : MethodName} {bytes : ByteArray} {mL i mc ms : Nat} {rm : Room} {host : String} {a0 a1 a2 : Value} {post : Int → Mem → Prop} (hM : Ct l G y bytes mL (some .boolean) rm [a0, a1, a2] M (PoI G post) mc ms) (hM0 : rm.cells = mc ∧ rm.slots = ms) (ok : CalOk y bytes mL (some .boolean) 3) (sk : Cond.static y ∈ tG) (w : (own, i, y, host) ∈ nestL) (hf : Fits rm rm0 mL st) (hL : Lft k n rm0 mc ms) (hdg : decode cc pc = .ok (.invokestatic i, 3)) (kk : ∀ (r : Int) (M' : Mem), post r M' → WM G X (k + mc) (n + ms) Q M' (pc + 3) lv (.int (iI r) :: st)) : WM G X k n Q M pc lv (a2 :: a1 :: a0 :: st) := by
  intro H locs ls hP hS hl
  have hl2 := B.2.1
  subst hl2
  refine va_calli (va_runSN (As := [a0, a1, a2]) (rest := st) ⟨B.1.1, B.1.2.1, B.1.2.2.1, B.1.2.2.2.1, B.1.2.2.2.2⟩ hM ⟨mk_N B ok w hM0.1 hM0.2 ⟨hf.1, hf.2.1⟩, B.1.2.2.2.2 _ sk, trivial⟩ ⟨PreM.blind G M _, mk_P B hP hS⟩ rfl rfl (by rw [hl.1]; exact B.1.2.2.1) rfl (lv_room hf.2.2) hdg ⟨by rw [B.2.2.1]; exact hL.1, by rw [B.2.2.1]; exact hL.2⟩) hS (fun q _ h => h) (fun q h => h) (fun r u t H1 locs1 ht hvm hp hb hz hk hS1 => ?_)
  obtain ⟨rfl, hp⟩ := hp
  rw [ht] at hb
  exact kk u.1 u.2 hp H1 locs1 ls hb hS1 hl
theorem r_Nz4 (B : Bx l G X cc nL own rm0 ret0) {y : MethodName} {bytes : ByteArray} {mL i mc ms : Nat} {rm : Room} {host : String} {a0 a1 a2 a3 : Value} {post : Int → Mem → Prop} (hM : Ct l G y bytes mL (some .boolean) rm [a0, a1, a2, a3] M (PoI G post) mc ms) (hM0 : rm.cells = mc ∧ rm.slots = ms) (ok : CalOk y bytes mL (some .boolean) 4) (sk : Cond.static y ∈ tG) (w : (own, i, y, host) ∈ nestL) (hf : Fits rm rm0 mL st) (hL : Lft k n rm0 mc ms) (hdg : decode cc pc = .ok (.invokestatic i, 3)) (kk : ∀ (r : Int) (M' : Mem), post r M' → WM G X (k + mc) (n + ms) Q M' (pc + 3) lv (.int (iI r) :: st)) : WM G X k n Q M pc lv (a3 :: a2 :: a1 :: a0 :: st) := by
  intro H locs ls hP hS hl
  have hl2 := B.2.1
  subst hl2
  refine va_calli (va_runSN (As := [a0, a1, a2, a3]) (rest := st) ⟨B.1.1, B.1.2.1, B.1.2.2.1, B.1.2.2.2.1, B.1.2.2.2.2⟩ hM ⟨mk_N B ok w hM0.1 hM0.2 ⟨hf.1, hf.2.1⟩, B.1.2.2.2.2 _ sk, trivial⟩ ⟨PreM.blind G M _, mk_P B hP hS⟩ rfl rfl (by rw [hl.1]; exact B.1.2.2.1) rfl (lv_room hf.2.2) hdg ⟨by rw [B.2.2.1]; exact hL.1, by rw [B.2.2.1]; exact hL.2⟩) hS (fun q _ h => h) (fun q h => h) (fun r u t H1 locs1 ht hvm hp hb hz hk hS1 => ?_)
  obtain ⟨rfl, hp⟩ := hp
  rw [ht] at hb
  exact kk u.1 u.2 hp H1 locs1 ls hb hS1 hl
theorem r_Nz5 (B : Bx l G X cc nL own rm0 ret0) {y : MethodName} {bytes : ByteArray} {mL i mc ms : Nat} {rm : Room} {host : String} {a0 a1 a2 a3 a4 : Value} {post : Int → Mem → Prop} (hM : Ct l G y bytes mL (some .boolean) rm [a0, a1, a2, a3, a4] M (PoI G post) mc ms) (hM0 : rm.cells = mc ∧ rm.slots = ms) (ok : CalOk y bytes mL (some .boolean) 5) (sk : Cond.static y ∈ tG) (w : (own, i, y, host) ∈ nestL) (hf : Fits rm rm0 mL st) (hL : Lft k n rm0 mc ms) (hdg : decode cc pc = .ok (.invokestatic i, 3)) (kk : ∀ (r : Int) (M' : Mem), post r M' → WM G X (k + mc) (n + ms) Q M' (pc + 3) lv (.int (iI r) :: st)) : WM G X k n Q M pc lv (a4 :: a3 :: a2 :: a1 :: a0 :: st) := by
  intro H locs ls hP hS hl
  have hl2 := B.2.1
  subst hl2
  refine va_calli (va_runSN (As := [a0, a1, a2, a3, a4]) (rest := st) ⟨B.1.1, B.1.2.1, B.1.2.2.1, B.1.2.2.2.1, B.1.2.2.2.2⟩ hM ⟨mk_N B ok w hM0.1 hM0.2 ⟨hf.1, hf.2.1⟩, B.1.2.2.2.2 _ sk, trivial⟩ ⟨PreM.blind G M _, mk_P B hP hS⟩ rfl rfl (by rw [hl.1]; exact B.1.2.2.1) rfl (lv_room hf.2.2) hdg ⟨by rw [B.2.2.1]; exact hL.1, by rw [B.2.2.1]; exact hL.2⟩) hS (fun q _ h => h) (fun q h => h) (fun r u t H1 locs1 ht hvm hp hb hz hk hS1 => ?_)
  obtain ⟨rfl, hp⟩ := hp
  rw [ht] at hb
  exact kk u.1 u.2 hp H1 locs1 ls hb hS1 hl
theorem r_Nl0 (B : Bx l G X cc nL own rm0 ret0) {y : MethodName} {bytes : ByteArray} {mL i mc ms : Nat} {rm : Room} {host : String} {post : Int → Mem → Prop} (hM : Ct l G y bytes mL (some .long) rm [] M (PoL G post) mc ms) (hM0 : rm.cells = mc ∧ rm.slots = ms) (ok : CalOk y bytes mL (some .long) 0) (sk : Cond.static y ∈ tG) (w : (own, i, y, host) ∈ nestL) (hf : Fits rm rm0 mL st) (hL : Lft k n rm0 mc ms) (hdg : decode cc pc = .ok (.invokestatic i, 3)) (kk : ∀ (r : Int) (M' : Mem), post r M' → WM G X (k + mc) (n + ms) Q M' (pc + 3) lv (.long (lI r) :: st)) : WM G X k n Q M pc lv (st) := by
  intro H locs ls hP hS hl
  have hl2 := B.2.1
  subst hl2
  refine va_calll (va_runSN (As := []) (rest := st) ⟨B.1.1, B.1.2.1, B.1.2.2.1, B.1.2.2.2.1, B.1.2.2.2.2⟩ hM ⟨mk_N B ok w hM0.1 hM0.2 ⟨hf.1, hf.2.1⟩, B.1.2.2.2.2 _ sk, trivial⟩ ⟨PreM.blind G M _, mk_P B hP hS⟩ rfl rfl (by rw [hl.1]; exact B.1.2.2.1) rfl (lv_room hf.2.2) hdg ⟨by rw [B.2.2.1]; exact hL.1, by rw [B.2.2.1]; exact hL.2⟩) hS (fun q _ h => h) (fun q h => h) (fun r u t H1 locs1 ht hvm hp hb hz hk hS1 => ?_)
  obtain ⟨rfl, hp⟩ := hp
  rw [ht] at hb
  exact kk u.1 u.2 hp H1 locs1 ls hb hS1 hl
theorem r_Nl1 (B : Bx l G X cc nL own rm0 ret0) {y : MethodName} {bytes : ByteArray} {mL i mc ms : Nat} {rm : Room} {host : String} {a0 : Value} {post : Int → Mem → Prop} (hM : Ct l G y bytes mL (some .long) rm [a0] M (PoL G post) mc ms) (hM0 : rm.cells = mc ∧ rm.slots = ms) (ok : CalOk y bytes mL (some .long) 1) (sk : Cond.static y ∈ tG) (w : (own, i, y, host) ∈ nestL) (hf : Fits rm rm0 mL st) (hL : Lft k n rm0 mc ms) (hdg : decode cc pc = .ok (.invokestatic i, 3)) (kk : ∀ (r : Int) (M' : Mem), post r M' → WM G X (k + mc) (n + ms) Q M' (pc + 3) lv (.long (lI r) :: st)) : WM G X k n Q M pc lv (a0 :: st) := by
  intro H locs ls hP hS hl
  have hl2 := B.2.1
  subst hl2
  refine va_calll (va_runSN (As := [a0]) (rest := st) ⟨B.1.1, B.1.2.1, B.1.2.2.1, B.1.2.2.2.1, B.1.2.2.2.2⟩ hM ⟨mk_N B ok w hM0.1 hM0.2 ⟨hf.1, hf.2.1⟩, B.1.2.2.2.2 _ sk, trivial⟩ ⟨PreM.blind G M _, mk_P B hP hS⟩ rfl rfl (by rw [hl.1]; exact B.1.2.2.1) rfl (lv_room hf.2.2) hdg ⟨by rw [B.2.2.1]; exact hL.1, by rw [B.2.2.1]; exact hL.2⟩) hS (fun q _ h => h) (fun q h => h) (fun r u t H1 locs1 ht hvm hp hb hz hk hS1 => ?_)
  obtain ⟨rfl, hp⟩ := hp
  rw [ht] at hb
  exact kk u.1 u.2 hp H1 locs1 ls hb hS1 hl
theorem r_Nl2 (B : Bx l G X cc nL own rm0 ret0) {y : MethodName} {bytes : ByteArray} {mL i mc ms : Nat} {rm : Room} {host : String} {a0 a1 : Value} {post : Int → Mem → Prop} (hM : Ct l G y bytes mL (some .long) rm [a0, a1] M (PoL G post) mc ms) (hM0 : rm.cells = mc ∧ rm.slots = ms) (ok : CalOk y bytes mL (some .long) 2) (sk : Cond.static y ∈ tG) (w : (own, i, y, host) ∈ nestL) (hf : Fits rm rm0 mL st) (hL : Lft k n rm0 mc ms) (hdg : decode cc pc = .ok (.invokestatic i, 3)) (kk : ∀ (r : Int) (M' : Mem), post r M' → WM G X (k + mc) (n + ms) Q M' (pc + 3) lv (.long (lI r) :: st)) : WM G X k n Q M pc lv (a1 :: a0 :: st) := by
  intro H locs ls hP hS hl
  have hl2 := B.2.1
  subst hl2
  refine va_calll (va_runSN (As := [a0, a1]) (rest := st) ⟨B.1.1, B.1.2.1, B.1.2.2.1, B.1.2.2.2.1, B.1.2.2.2.2⟩ hM ⟨mk_N B ok w hM0.1 hM0.2 ⟨hf.1, hf.2.1⟩, B.1.2.2.2.2 _ sk, trivial⟩ ⟨PreM.blind G M _, mk_P B hP hS⟩ rfl rfl (by rw [hl.1]; exact B.1.2.2.1) rfl (lv_room hf.2.2) hdg ⟨by rw [B.2.2.1]; exact hL.1, by rw [B.2.2.1]; exact hL.2⟩) hS (fun q _ h => h) (fun q h => h) (fun r u t H1 locs1 ht hvm hp hb hz hk hS1 => ?_)
  obtain ⟨rfl, hp⟩ := hp
  rw [ht] at hb
  exact kk u.1 u.2 hp H1 locs1 ls hb hS1 hl
theorem r_Nl3 (B : Bx l G X cc nL own rm0 ret0) {y : MethodName} {bytes : ByteArray} {mL i mc ms : Nat} {rm : Room} {host : String} {a0 a1 a2 : Value} {post : Int → Mem → Prop} (hM : Ct l G y bytes mL (some .long) rm [a0, a1, a2] M (PoL G post) mc ms) (hM0 : rm.cells = mc ∧ rm.slots = ms) (ok : CalOk y bytes mL (some .long) 3) (sk : Cond.static y ∈ tG) (w : (own, i, y, host) ∈ nestL) (hf : Fits rm rm0 mL st) (hL : Lft k n rm0 mc ms) (hdg : decode cc pc = .ok (.invokestatic i, 3)) (kk : ∀ (r : Int) (M' : Mem), post r M' → WM G X (k + mc) (n + ms) Q M' (pc + 3) lv (.long (lI r) :: st)) : WM G X k n Q M pc lv (a2 :: a1 :: a0 :: st) := by
  intro H locs ls hP hS hl
  have hl2 := B.2.1
  subst hl2
  refine va_calll (va_runSN (As := [a0, a1, a2]) (rest := st) ⟨B.1.1, B.1.2.1, B.1.2.2.1, B.1.2.2.2.1, B.1.2.2.2.2⟩ hM ⟨mk_N B ok w hM0.1 hM0.2 ⟨hf.1, hf.2.1⟩, B.1.2.2.2.2 _ sk, trivial⟩ ⟨PreM.blind G M _, mk_P B hP hS⟩ rfl rfl (by rw [hl.1]; exact B.1.2.2.1) rfl (lv_room hf.2.2) hdg ⟨by rw [B.2.2.1]; exact hL.1, by rw [B.2.2.1]; exact hL.2⟩) hS (fun q _ h => h) (fun q h => h) (fun r u t H1 locs1 ht hvm hp hb hz hk hS1 => ?_)
  obtain ⟨rfl, hp⟩ := hp
  rw [ht] at hb
  exact kk u.1 u.2 hp H1 locs1 ls hb hS1 hl
theorem r_Nl4 (B : Bx l G X cc nL own rm0 ret0) {y : MethodName} {bytes : ByteArray} {mL i mc ms : Nat} {rm : Room} {host : String} {a0 a1 a2 a3 : Value} {post : Int → Mem → Prop} (hM : Ct l G y bytes mL (some .long) rm [a0, a1, a2, a3] M (PoL G post) mc ms) (hM0 : rm.cells = mc ∧ rm.slots = ms) (ok : CalOk y bytes mL (some .long) 4) (sk : Cond.static y ∈ tG) (w : (own, i, y, host) ∈ nestL) (hf : Fits rm rm0 mL st) (hL : Lft k n rm0 mc ms) (hdg : decode cc pc = .ok (.invokestatic i, 3)) (kk : ∀ (r : Int) (M' : Mem), post r M' → WM G X (k + mc) (n + ms) Q M' (pc + 3) lv (.long (lI r) :: st)) : WM G X k n Q M pc lv (a3 :: a2 :: a1 :: a0 :: st) := by
  intro H locs ls hP hS hl
  have hl2 := B.2.1
  subst hl2
  refine va_calll (va_runSN (As := [a0, a1, a2, a3]) (rest := st) ⟨B.1.1, B.1.2.1, B.1.2.2.1, B.1.2.2.2.1, B.1.2.2.2.2⟩ hM ⟨mk_N B ok w hM0.1 hM0.2 ⟨hf.1, hf.2.1⟩, B.1.2.2.2.2 _ sk, trivial⟩ ⟨PreM.blind G M _, mk_P B hP hS⟩ rfl rfl (by rw [hl.1]; exact B.1.2.2.1) rfl (lv_room hf.2.2) hdg ⟨by rw [B.2.2.1]; exact hL.1, by rw [B.2.2.1]; exact hL.2⟩) hS (fun q _ h => h) (fun q h => h) (fun r u t H1 locs1 ht hvm hp hb hz hk hS1 => ?_)
  obtain ⟨rfl, hp⟩ := hp
  rw [ht] at hb
  exact kk u.1 u.2 hp H1 locs1 ls hb hS1 hl
theorem r_Nl5 (B : Bx l G X cc nL own rm0 ret0) {y : MethodName} {bytes : ByteArray} {mL i mc ms : Nat} {rm : Room} {host : String} {a0 a1 a2 a3 a4 : Value} {post : Int → Mem → Prop} (hM : Ct l G y bytes mL (some .long) rm [a0, a1, a2, a3, a4] M (PoL G post) mc ms) (hM0 : rm.cells = mc ∧ rm.slots = ms) (ok : CalOk y bytes mL (some .long) 5) (sk : Cond.static y ∈ tG) (w : (own, i, y, host) ∈ nestL) (hf : Fits rm rm0 mL st) (hL : Lft k n rm0 mc ms) (hdg : decode cc pc = .ok (.invokestatic i, 3)) (kk : ∀ (r : Int) (M' : Mem), post r M' → WM G X (k + mc) (n + ms) Q M' (pc + 3) lv (.long (lI r) :: st)) : WM G X k n Q M pc lv (a4 :: a3 :: a2 :: a1 :: a0 :: st) := by
  intro H locs ls hP hS hl
  have hl2 := B.2.1
  subst hl2
  refine va_calll (va_runSN (As := [a0, a1, a2, a3, a4]) (rest := st) ⟨B.1.1, B.1.2.1, B.1.2.2.1, B.1.2.2.2.1, B.1.2.2.2.2⟩ hM ⟨mk_N B ok w hM0.1 hM0.2 ⟨hf.1, hf.2.1⟩, B.1.2.2.2.2 _ sk, trivial⟩ ⟨PreM.blind G M _, mk_P B hP hS⟩ rfl rfl (by rw [hl.1]; exact B.1.2.2.1) rfl (lv_room hf.2.2) hdg ⟨by rw [B.2.2.1]; exact hL.1, by rw [B.2.2.1]; exact hL.2⟩) hS (fun q _ h => h) (fun q h => h) (fun r u t H1 locs1 ht hvm hp hb hz hk hS1 => ?_)
  obtain ⟨rfl, hp⟩ := hp
  rw [ht] at hb
  exact kk u.1 u.2 hp H1 locs1 ls hb hS1 hl
end R
