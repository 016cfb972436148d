/-! ===== BEGIN .. of methods that hand back an object of the pool ===== -/
section
variable {p : Program} {l : Launch} {e : Env} {R : Room} {s : State} {m : MethodId} {args : Array Value} {below : List Frame} {meth : Method} {c : Code} {H : Heap} {locs : List Loc} {cells slots : Nat} {Q : State → Prop}
variable {mc ms : Nat} {free : Addr → Prop} {A0 A1 : Nat → Prop} {H0 : Heap} {a : Array Value} {pc : Nat} {ls : Array Slot} {st0 rest : List Value}
theorem vx_callq {S SX : Type} {post : Option Nat → S → Prop} {px : SX → Prop} {B : S → State → Prop} {BX : String → SX → State → Prop} {AX : Nat → Prop} (hr : vx_Run p l e R s m args below meth c H locs cells slots mc ms (F0 m pc ls st0) rest (va_Qq post B A1 a) (vx_X px BX AX) free) (hS : va_S A0 H0 H locs) (hA : ∀ q, q < H.size → A1 q → A0 q) (hf : ∀ q, free q → A0 q) (hAX : ∀ q, q < H.size → AX q → A0 q)
    (kx : ∀ (E : String) (ce : Cell) (q9 : Addr) (u : SX) (t : State) (H1 : Heap) (locs1 : List Loc), t.heap = H1 → s.vm.Alike t.vm → px u → BX E u t → H.size ≤ H1.size → (∀ q : Nat, q < H.size → ¬ AX q → H1[q]? = H[q]?) → va_S A0 H0 H1 locs1 → H1[q9]? = some ce → ce.vm = .none → s.vm.findClass E = some ce.cls → vx_W p l e R s m args below meth c H1 locs1 (cells + mc) (slots + ms) Q (F0 m pc ls rest) q9)
    (kk : ∀ (r : Option Nat) (u : S) (t : State) (H1 : Heap) (locs1 : List Loc), t.heap = H1 → s.vm.Alike t.vm → post r u → B u t → H.size ≤ H1.size → (∀ q : Nat, q < H.size → ¬ A1 q → H1[q]? = H[q]?) → va_S A0 H0 H1 locs1 → W p l e R s m args below meth c H1 locs1 (cells + mc) (slots + ms) Q (F0 m (pc + 3) ls (va_rf r :: rest))) : W p l e R s m args below meth c H locs cells slots Q (F0 m pc ls st0) := by
  intro T hT X
  rcases hr T hT X with ⟨v, st₀, t, T', L, h0, X', hL, e1, e2, ⟨⟨r, u, hv, hp, hb⟩, hF⟩, st⟩ | ⟨q, st₀, t, T', L, E, ce, h0, X', hL, e1, e2, ⟨u, hp, hb, hF⟩, hce, hcv, hcl, st⟩
  · cases hv
    obtain ⟨k1, k2, k3⟩ := vx_keep h0 e1 hS hA hf hL hF
    obtain ⟨t2, a1, b1⟩ := kk r u t T'.heap (locs ++ L) e1.symm (by rw [← e2]; exact X'.warmed.alike) hp hb k1 k2 k3 T' rfl X'
    exact ⟨t2, st t2 a1, b1⟩
  · obtain ⟨k1, k2, k3⟩ := vx_keep h0 e1 hS hAX hf hL hF
    obtain ⟨t2, a1, b1⟩ := kx E ce q u t T'.heap (locs ++ L) e1.symm (by rw [← e2]; exact X'.warmed.alike) hp hb k1 k2 k3 (by rw [e1]; exact hce) hcv hcl T' rfl X'
    exact ⟨t2, st.trans a1, b1⟩
end
/-! ===== END ===== -/
/-! what throws: contracts, throws, calls of what throws -/
abbrev nmsT : List String := ["java/lang/RuntimeException", "java/lang/Exception"]
theorem tG_of (ws : List Cond) (ps : List Nat) (h : ws = ps.filterMap (fun i => tables_1[i]?)) (hg : ws.all goodWord = true) : ∀ w ∈ ws, w ∈ tG := fun w hw => by
  have h2 := hw
  rw [h] at h2
  obtain ⟨i, hi, e⟩ := List.mem_filterMap.mp h2
  exact tG_at i e (List.all_eq_true.mp hg w hw)
theorem wT_A : ∀ w ∈ (vx_atS RX5 59 eIAE nmsT).filter goodWord, w ∈ tG := tG_of _ [8, 464, 473, 477, 480, 482, 465, 466, 22, 23, 467, 472, 478, 498, 454, 499, 456, 500, 458, 468, 470, 460, 494, 495, 497, 460, 485, 486, 487, 488, 488, 489, 490, 491, 491, 492, 493, 494, 484, 443, 451, 452, 453, 455, 457, 459, 463, 462, 461] (by decide +kernel) (by decide +kernel)
theorem wT_S : ∀ w ∈ (vx_atS RX5 70 eISE nmsT).filter goodWord, w ∈ tG := tG_of _ [8, 464, 473, 477, 480, 482, 465, 466, 22, 23, 467, 472, 478, 498, 454, 499, 456, 500, 458, 468, 470, 460, 494, 495, 497, 460, 521, 522, 523, 488, 488, 489, 490, 491, 491, 492, 493, 494, 520, 511, 513, 475, 514, 515, 516, 517, 463, 462, 518] (by decide +kernel) (by decide +kernel)
theorem wT_O : ∀ w ∈ (vx_atS RX5 117 eIOB nmsT).filter goodWord, w ∈ tG := tG_of _ [8, 464, 473, 477, 480, 482, 465, 466, 22, 23, 467, 472, 478, 498, 454, 499, 456, 500, 458, 468, 470, 460, 494, 495, 497, 460, 550, 551, 552, 488, 488, 489, 490, 491, 491, 492, 493, 494, 549, 540, 542, 476, 543, 544, 545, 546, 463, 462, 547] (by decide +kernel) (by decide +kernel)
def XcM (G : Gs) (xp : String → Mem → Prop) : String → State → State → Prop := vx_X (fun u : String × Mem => xp u.1 u.2) (fun E u t => E = u.1 ∧ va_P G.2.1 vwCl (WW G u.2) t.heap) (Fr G)
def CtX (l : Launch) (G : Gs) (y : MethodName) (cc : ByteArray) (nL : Nat) (ret : Option FieldType) (rm : Room) (av : List Value) (M : Mem) (Q : Array Value → State → Outcome → State → Prop) (xp : String → Mem → Prop) (z w : Nat) : Prop :=
  vx_Met l y (.code y cc nL ret :: tG) rm (PreM G M av) Q (XcM G xp) z w (Fr G)
abbrev bX (X : Cx) (Q : Array Value → State → Outcome → State → Prop) (xp : String → Mem → Prop) (z w : Nat) (G : Gs) : State → Prop := vx_MQ X.2.2.2.2.2.2.2.1 Q (XcM G xp) X.2.2.2.2.2.2.1 X.2.2.2.2.1 z w (Fr G)
theorem CtX.of {l : Launch} {G : Gs} {y : MethodName} {cc : ByteArray} {nL : Nat} {ret : Option FieldType} {rm : Room} {av : List Value} {M : Mem} {Q : Array Value → State → Outcome → State → Prop} {xp : String → Mem → Prop} {z w : Nat} (hy : plainName y.cls = true) (hn : (lg_sl av).length ≤ nL) (lv : List (Nat × Value)) (hlv : lv_args 0 av = lv)
    (body : ∀ X : Cx, Bx l G X cc nL y.cls rm ret → (∀ x ∈ X.2.2.2.2.2.2.2.2.2.exceptionTable.toList, False) → WM G X 0 0 (bX X Q xp z w G) M 0 lv []) : CtX l G y cc nL ret rm av M Q xp z w := by
  refine vx_ofW (cc := cc) (maxL := nL) (ret := ret) hy rfl ?_
  intro p e s m args below meth c s₁ B hml hT hv
  obtain ⟨rfl, hP, hSt, hZ⟩ := hv
  have hts := atoms_spec (ws := .code y cc nL ret :: tG) B.pre
  have hown : s.vm.findClass y.cls = some m.cls := findClass_of_methodNamed B.named
  have hl := lv_entry av (n := nL) hn
  rw [hlv] at hl
  rw [lg_entry_eq]
  subst hml
  exact body (p, l, e, (headSpec (.code y cc c.maxLocals ret :: tG) rm).room, s, m, av.toArray, below, meth, c) ⟨⟨B.exec, B.bytes, rfl, hown, fun w hw => hts w (List.mem_cons_of_mem _ hw)⟩, rfl, rfl, B.returns, B.notSynchronized, hSt, hZ⟩ hT s.heap [] _ hP va_S.rf hl
theorem va_P.old {D : va_G} {ws : va_W} {H H1 : Heap} (h : va_P D vwCl ws H) (hq : ∀ q : Nat, q < H.size → H1[q]? = H[q]?) : va_P D vwCl ws H1 := va_P.kept h (fun k q e => hq _ (vx_lt h e))
section R
variable {l : Launch} {G : Gs} {X : Cx} {cc : ByteArray} {nL : Nat} {own : String} {rm0 : Room} {ret0 : Option FieldType} {k n z w : Nat} {Q : Array Value → State → Outcome → State → Prop} {xp : String → Mem → Prop} {M : Mem} {pc : Nat} {lv : List (Nat × Value)} {st : List Value}
theorem WM.xret (h1 : k ≤ z) (h2 : n ≤ w) (kk : WM G X z w (bM X Q z w G) M pc lv st) : WM G X k n (bX X Q xp z w G) M pc lv st :=
  fun H locs ls hP hS hl => vx_ret (mc := z) (ms := w) (W.widen h1 h2 (kk H locs ls hP hS hl))
abbrev NoT (X : Cx) : Prop := ∀ x ∈ X.2.2.2.2.2.2.2.2.2.exceptionTable.toList, False
theorem gT_A : ∀ w ∈ Cond.classLink RX5 55 eIAE :: Cond.initialized eIAE :: vx_atS RX5 59 eIAE nmsT, vx_ot w = true := by decide +kernel
theorem bT_A : ∀ w ∈ (vx_atS RX5 59 eIAE nmsT).filter (fun w => !goodWord w), w ∈ ([.declares ⟨"java/lang/RuntimeException", "<init>", "(Ljava/lang/String;)V"⟩, .declares ⟨"java/lang/Exception", "<init>", "(Ljava/lang/String;)V"⟩, .declares ⟨"java/lang/Throwable", "<init>", "(Ljava/lang/String;)V"⟩, .castable eIAE eIAE] : List Cond) := by decide +kernel
theorem aT_A (B : Bx l G X cc nL own rm0 ret0) : ∀ w ∈ vx_atS RX5 59 eIAE nmsT, w.before X.2.2.2.2.2.2.1 X.2.2.2.2.1 = true :=
  vx_hat (fun w hw => B.1.2.2.2.2 _ (wT_A w hw)) bT_A (vx_c (va_Nw.use rfl (B.2.2.2.2.2.1.2.2.1 _ (by decide))) (vx_c (va_Nw.use rfl (B.2.2.2.2.2.1.2.2.1 _ (by decide))) (vx_c (va_Nw.use rfl (B.2.2.2.2.2.1.2.2.1 _ (by decide))) (vx_c (va_Nw.use rfl (B.2.2.2.2.2.1.2.2.2.1 _ (by decide))) vx_n))))
theorem r_thrA (B : Bx l G X cc nL RX5 rm0 ret0) (Tx : NoT X) (hst : l.stackTraces = false) {is : Nat} {text : String} (hstr : (is, text) ∈ strL) (d0 : decode cc pc = .ok (.new 55, 3)) (d3 : decode cc (pc + 3) = .ok (.dup, 1)) (d4 : decode cc (pc + 4) = .ok (.ldc is, 2)) (d6 : decode cc (pc + 6) = .ok (.invokespecial 59, 3)) (d9 : decode cc (pc + 9) = .ok (.athrow, 1))
    (hR : 6 ≤ rm0.frames ∧ 82 ≤ rm0.locals ∧ k + 1 ≤ rm0.cells ∧ n + 6 ≤ rm0.slots) (hz : k + 1 ≤ z ∧ n + 6 ≤ w) (hx : xp eIAE M) : WM G X k n (bX X Q xp z w G) M pc lv [] := by
  intro H locs ls hP hS hl
  have hl2 := B.2.1
  subst hl2
  obtain ⟨sa, hsa⟩ := B.2.2.2.2.2.1.2.2.2.2.2 _ hstr
  have hr := B.2.2.1
  refine vx_throwS (names := nmsT) (cls := eIAE) (ik := 55) (ic := 59) (sa := sa) (A := Fr G) B.1.1 B.1.2.1 hst B.1.2.2.2.1 (by decide +kernel) (by decide +kernel) (B.1.2.2.2.2 _ q_442) (B.1.2.2.2.2 _ q_11) hsa (aT_A B) gT_A B.2.2.2.2.2.2.1 B.2.2.2.2.2.2.2 hS hl.1 d0 d3 d4 d6 d9 (fun x h => (Tx x h).elim) (by rw [hr]; exact hR.1) (by rw [hr]; exact hR.2.1) (by rw [hr]; exact hR.2.2.1) (by rw [hr]; exact hR.2.2.2) B.2.2.2.2.1 (fun t hvm hsz hk => ?_) hS.2.2 hz.1 hz.2
  refine ⟨(eIAE, M), hx, ⟨rfl, hP.old hk⟩, Nat.le_trans hS.1 hsz, fun q h1 h2 => ?_⟩
  rw [hk q (Nat.lt_of_lt_of_le h1 hS.1)]
  exact hS.2.1 q h1 h2
theorem r_thrAW (B : Bx l G X cc nL RX5 rm0 ret0) (Tx : NoT X) (hst : l.stackTraces = false) {is : Nat} {text : String} (hstr : (is, text) ∈ strL) (d0 : decode cc pc = .ok (.new 55, 3)) (d3 : decode cc (pc + 3) = .ok (.dup, 1)) (d4 : decode cc (pc + 4) = .ok (.ldc_w is, 3)) (d6 : decode cc (pc + 7) = .ok (.invokespecial 59, 3)) (d9 : decode cc (pc + 10) = .ok (.athrow, 1))
    (hR : 6 ≤ rm0.frames ∧ 82 ≤ rm0.locals ∧ k + 1 ≤ rm0.cells ∧ n + 6 ≤ rm0.slots) (hz : k + 1 ≤ z ∧ n + 6 ≤ w) (hx : xp eIAE M) : WM G X k n (bX X Q xp z w G) M pc lv [] := by
  intro H locs ls hP hS hl
  have hl2 := B.2.1
  subst hl2
  obtain ⟨sa, hsa⟩ := B.2.2.2.2.2.1.2.2.2.2.2 _ hstr
  have hr := B.2.2.1
  refine vx_throwSW (names := nmsT) (cls := eIAE) (ik := 55) (ic := 59) (sa := sa) (A := Fr G) B.1.1 B.1.2.1 hst B.1.2.2.2.1 (by decide +kernel) (by decide +kernel) (B.1.2.2.2.2 _ q_442) (B.1.2.2.2.2 _ q_11) hsa (aT_A B) gT_A B.2.2.2.2.2.2.1 B.2.2.2.2.2.2.2 hS hl.1 d0 d3 d4 d6 d9 (fun x h => (Tx x h).elim) (by rw [hr]; exact hR.1) (by rw [hr]; exact hR.2.1) (by rw [hr]; exact hR.2.2.1) (by rw [hr]; exact hR.2.2.2) B.2.2.2.2.1 (fun t hvm hsz hk => ?_) hS.2.2 hz.1 hz.2
  refine ⟨(eIAE, M), hx, ⟨rfl, hP.old hk⟩, Nat.le_trans hS.1 hsz, fun q h1 h2 => ?_⟩
  rw [hk q (Nat.lt_of_lt_of_le h1 hS.1)]
  exact hS.2.1 q h1 h2
theorem gT_S : ∀ w ∈ Cond.classLink RX5 66 eISE :: Cond.initialized eISE :: vx_atS RX5 70 eISE nmsT, vx_ot w = true := by decide +kernel
theorem bT_S : ∀ w ∈ (vx_atS RX5 70 eISE nmsT).filter (fun w => !goodWord w), w ∈ ([.declares ⟨"java/lang/RuntimeException", "<init>", "(Ljava/lang/String;)V"⟩, .declares ⟨"java/lang/Exception", "<init>", "(Ljava/lang/String;)V"⟩, .declares ⟨"java/lang/Throwable", "<init>", "(Ljava/lang/String;)V"⟩, .castable eISE eISE] : List Cond) := by decide +kernel
theorem aT_S (B : Bx l G X cc nL own rm0 ret0) : ∀ w ∈ vx_atS RX5 70 eISE nmsT, w.before X.2.2.2.2.2.2.1 X.2.2.2.2.1 = true :=
  vx_hat (fun w hw => B.1.2.2.2.2 _ (wT_S w hw)) bT_S (vx_c (va_Nw.use rfl (B.2.2.2.2.2.1.2.2.1 _ (by decide))) (vx_c (va_Nw.use rfl (B.2.2.2.2.2.1.2.2.1 _ (by decide))) (vx_c (va_Nw.use rfl (B.2.2.2.2.2.1.2.2.1 _ (by decide))) (vx_c (va_Nw.use rfl (B.2.2.2.2.2.1.2.2.2.1 _ (by decide))) vx_n))))
theorem r_thrS (B : Bx l G X cc nL RX5 rm0 ret0) (Tx : NoT X) (hst : l.stackTraces = false) {is : Nat} {text : String} (hstr : (is, text) ∈ strL) (d0 : decode cc pc = .ok (.new 66, 3)) (d3 : decode cc (pc + 3) = .ok (.dup, 1)) (d4 : decode cc (pc + 4) = .ok (.ldc is, 2)) (d6 : decode cc (pc + 6) = .ok (.invokespecial 70, 3)) (d9 : decode cc (pc + 9) = .ok (.athrow, 1))
    (hR : 6 ≤ rm0.frames ∧ 82 ≤ rm0.locals ∧ k + 1 ≤ rm0.cells ∧ n + 6 ≤ rm0.slots) (hz : k + 1 ≤ z ∧ n + 6 ≤ w) (hx : xp eISE M) : WM G X k n (bX X Q xp z w G) M pc lv [] := by
  intro H locs ls hP hS hl
  have hl2 := B.2.1
  subst hl2
  obtain ⟨sa, hsa⟩ := B.2.2.2.2.2.1.2.2.2.2.2 _ hstr
  have hr := B.2.2.1
  refine vx_throwS (names := nmsT) (cls := eISE) (ik := 66) (ic := 70) (sa := sa) (A := Fr G) B.1.1 B.1.2.1 hst B.1.2.2.2.1 (by decide +kernel) (by decide +kernel) (B.1.2.2.2.2 _ q_510) (B.1.2.2.2.2 _ q_12) hsa (aT_S B) gT_S B.2.2.2.2.2.2.1 B.2.2.2.2.2.2.2 hS hl.1 d0 d3 d4 d6 d9 (fun x h => (Tx x h).elim) (by rw [hr]; exact hR.1) (by rw [hr]; exact hR.2.1) (by rw [hr]; exact hR.2.2.1) (by rw [hr]; exact hR.2.2.2) B.2.2.2.2.1 (fun t hvm hsz hk => ?_) hS.2.2 hz.1 hz.2
  refine ⟨(eISE, M), hx, ⟨rfl, hP.old hk⟩, Nat.le_trans hS.1 hsz, fun q h1 h2 => ?_⟩
  rw [hk q (Nat.lt_of_lt_of_le h1 hS.1)]
  exact hS.2.1 q h1 h2
theorem r_thrSW (B : Bx l G X cc nL RX5 rm0 ret0) (Tx : NoT X) (hst : l.stackTraces = false) {is : Nat} {text : String} (hstr : (is, text) ∈ strL) (d0 : decode cc pc = .ok (.new 66, 3)) (d3 : decode cc (pc + 3) = .ok (.dup, 1)) (d4 : decode cc (pc + 4) = .ok (.ldc_w is, 3)) (d6 : decode cc (pc + 7) = .ok (.invokespecial 70, 3)) (d9 : decode cc (pc + 10) = .ok (.athrow, 1))
    (hR : 6 ≤ rm0.frames ∧ 82 ≤ rm0.locals ∧ k + 1 ≤ rm0.cells ∧ n + 6 ≤ rm0.slots) (hz : k + 1 ≤ z ∧ n + 6 ≤ w) (hx : xp eISE M) : WM G X k n (bX X Q xp z w G) M pc lv [] := by
  intro H locs ls hP hS hl
  have hl2 := B.2.1
  subst hl2
  obtain ⟨sa, hsa⟩ := B.2.2.2.2.2.1.2.2.2.2.2 _ hstr
  have hr := B.2.2.1
  refine vx_throwSW (names := nmsT) (cls := eISE) (ik := 66) (ic := 70) (sa := sa) (A := Fr G) B.1.1 B.1.2.1 hst B.1.2.2.2.1 (by decide +kernel) (by decide +kernel) (B.1.2.2.2.2 _ q_510) (B.1.2.2.2.2 _ q_12) hsa (aT_S B) gT_S B.2.2.2.2.2.2.1 B.2.2.2.2.2.2.2 hS hl.1 d0 d3 d4 d6 d9 (fun x h => (Tx x h).elim) (by rw [hr]; exact hR.1) (by rw [hr]; exact hR.2.1) (by rw [hr]; exact hR.2.2.1) (by rw [hr]; exact hR.2.2.2) B.2.2.2.2.1 (fun t hvm hsz hk => ?_) hS.2.2 hz.1 hz.2
  refine ⟨(eISE, M), hx, ⟨rfl, hP.old hk⟩, Nat.le_trans hS.1 hsz, fun q h1 h2 => ?_⟩
  rw [hk q (Nat.lt_of_lt_of_le h1 hS.1)]
  exact hS.2.1 q h1 h2
theorem gT_O : ∀ w ∈ Cond.classLink RX5 113 eIOB :: Cond.initialized eIOB :: vx_atS RX5 117 eIOB nmsT, vx_ot w = true := by decide +kernel
theorem bT_O : ∀ w ∈ (vx_atS RX5 117 eIOB nmsT).filter (fun w => !goodWord w), w ∈ ([.declares ⟨"java/lang/RuntimeException", "<init>", "(Ljava/lang/String;)V"⟩, .declares ⟨"java/lang/Exception", "<init>", "(Ljava/lang/String;)V"⟩, .declares ⟨"java/lang/Throwable", "<init>", "(Ljava/lang/String;)V"⟩, .castable eIOB eIOB] : List Cond) := by decide +kernel
theorem aT_O (B : Bx l G X cc nL own rm0 ret0) : ∀ w ∈ vx_atS RX5 117 eIOB nmsT, w.before X.2.2.2.2.2.2.1 X.2.2.2.2.1 = true :=
  vx_hat (fun w hw => B.1.2.2.2.2 _ (wT_O w hw)) bT_O (vx_c (va_Nw.use rfl (B.2.2.2.2.2.1.2.2.1 _ (by decide))) (vx_c (va_Nw.use rfl (B.2.2.2.2.2.1.2.2.1 _ (by decide))) (vx_c (va_Nw.use rfl (B.2.2.2.2.2.1.2.2.1 _ (by decide))) (vx_c (va_Nw.use rfl (B.2.2.2.2.2.1.2.2.2.1 _ (by decide))) vx_n))))
theorem r_thrO (B : Bx l G X cc nL RX5 rm0 ret0) (Tx : NoT X) (hst : l.stackTraces = false) {is : Nat} {text : String} (hstr : (is, text) ∈ strL) (d0 : decode cc pc = .ok (.new 113, 3)) (d3 : decode cc (pc + 3) = .ok (.dup, 1)) (d4 : decode cc (pc + 4) = .ok (.ldc is, 2)) (d6 : decode cc (pc + 6) = .ok (.invokespecial 117, 3)) (d9 : decode cc (pc + 9) = .ok (.athrow, 1))
    (hR : 6 ≤ rm0.frames ∧ 82 ≤ rm0.locals ∧ k + 1 ≤ rm0.cells ∧ n + 6 ≤ rm0.slots) (hz : k + 1 ≤ z ∧ n + 6 ≤ w) (hx : xp eIOB M) : WM G X k n (bX X Q xp z w G) M pc lv [] := by
  intro H locs ls hP hS hl
  have hl2 := B.2.1
  subst hl2
  obtain ⟨sa, hsa⟩ := B.2.2.2.2.2.1.2.2.2.2.2 _ hstr
  have hr := B.2.2.1
  refine vx_throwS (names := nmsT) (cls := eIOB) (ik := 113) (ic := 117) (sa := sa) (A := Fr G) B.1.1 B.1.2.1 hst B.1.2.2.2.1 (by decide +kernel) (by decide +kernel) (B.1.2.2.2.2 _ q_539) (B.1.2.2.2.2 _ q_14) hsa (aT_O B) gT_O B.2.2.2.2.2.2.1 B.2.2.2.2.2.2.2 hS hl.1 d0 d3 d4 d6 d9 (fun x h => (Tx x h).elim) (by rw [hr]; exact hR.1) (by rw [hr]; exact hR.2.1) (by rw [hr]; exact hR.2.2.1) (by rw [hr]; exact hR.2.2.2) B.2.2.2.2.1 (fun t hvm hsz hk => ?_) hS.2.2 hz.1 hz.2
  refine ⟨(eIOB, M), hx, ⟨rfl, hP.old hk⟩, Nat.le_trans hS.1 hsz, fun q h1 h2 => ?_⟩
  rw [hk q (Nat.lt_of_lt_of_le h1 hS.1)]
  exact hS.2.1 q h1 h2
theorem r_thrOW (B : Bx l G X cc nL RX5 rm0 ret0) (Tx : NoT X) (hst : l.stackTraces = false) {is : Nat} {text : String} (hstr : (is, text) ∈ strL) (d0 : decode cc pc = .ok (.new 113, 3)) (d3 : decode cc (pc + 3) = .ok (.dup, 1)) (d4 : decode cc (pc + 4) = .ok (.ldc_w is, 3)) (d6 : decode cc (pc + 7) = .ok (.invokespecial 117, 3)) (d9 : decode cc (pc + 10) = .ok (.athrow, 1))
    (hR : 6 ≤ rm0.frames ∧ 82 ≤ rm0.locals ∧ k + 1 ≤ rm0.cells ∧ n + 6 ≤ rm0.slots) (hz : k + 1 ≤ z ∧ n + 6 ≤ w) (hx : xp eIOB M) : WM G X k n (bX X Q xp z w G) M pc lv [] := by
  intro H locs ls hP hS hl
  have hl2 := B.2.1
  subst hl2
  obtain ⟨sa, hsa⟩ := B.2.2.2.2.2.1.2.2.2.2.2 _ hstr
  have hr := B.2.2.1
  refine vx_throwSW (names := nmsT) (cls := eIOB) (ik := 113) (ic := 117) (sa := sa) (A := Fr G) B.1.1 B.1.2.1 hst B.1.2.2.2.1 (by decide +kernel) (by decide +kernel) (B.1.2.2.2.2 _ q_539) (B.1.2.2.2.2 _ q_14) hsa (aT_O B) gT_O B.2.2.2.2.2.2.1 B.2.2.2.2.2.2.2 hS hl.1 d0 d3 d4 d6 d9 (fun x h => (Tx x h).elim) (by rw [hr]; exact hR.1) (by rw [hr]; exact hR.2.1) (by rw [hr]; exact hR.2.2.1) (by rw [hr]; exact hR.2.2.2) B.2.2.2.2.1 (fun t hvm hsz hk => ?_) hS.2.2 hz.1 hz.2
  refine ⟨(eIOB, M), hx, ⟨rfl, hP.old hk⟩, Nat.le_trans hS.1 hsz, fun q h1 h2 => ?_⟩
  rw [hk q (Nat.lt_of_lt_of_le h1 hS.1)]
  exact hS.2.1 q h1 h2
theorem r_xVa1 (B : Bx l G X cc nL own rm0 ret0) (Tx : NoT X) {y : MethodName} {bytes : ByteArray} {mL i mc ms : Nat} {rm : Room} {b ci N : Nat} {T : u_T} {a0 : Value} {C : String} {post : Nat → Mem → Prop} {xp' : String → Mem → Prop} (hM : CtX l G y bytes mL (some (.object C)) rm [.ref b, a0] M (PoA G post) xp' mc ms) (hM0 : rm.cells = mc ∧ rm.slots = ms) (ok : CalOk y bytes mL (some (.object C)) 1) (vi : VirOk y) (wl : Cond.methodLink own i y ∈ tG) (hb0 : At G b ci 0) (hc : vwCl[ci]? = some (y.cls, T, N)) (he : ∀ M, ent G.2.2 M b (ci, 0) = .inr (ci, flds ci b M)) (hf : Fits rm rm0 mL st) (hL : Lft k n rm0 mc ms) (hdg : decode cc pc = .ok (.invokevirtual i, 3)) (hzw : k + mc ≤ z ∧ n + ms ≤ w) (hx : ∀ (E : String) (M' : Mem), xp' E M' → xp E M') (kk : ∀ (r : Nat) (M' : Mem), post r M' → WM G X (k + mc) (n + ms) (bX X Q xp z w G) M' (pc + 3) lv (.ref r :: st)) : WM G X k n (bX X Q xp z w G) M pc lv (a0 :: .ref b :: st) := by
  intro H locs ls hP hS hl
  have hl2 := B.2.1
  subst hl2
  refine vx_callq (vx_runV (As := [a0]) (rest := st) ⟨B.1.1, B.1.2.1, B.1.2.2.1, B.1.2.2.2.1, B.1.2.2.2.2⟩ hM ⟨mk_B B ok wl hM0.1 hM0.2 ⟨hf.1, hf.2.1⟩, B.1.2.2.2.2 _ vi.1, B.1.2.2.2.2 _ vi.2⟩ ⟨PreM.blind G M _, mk_R B hP hc hb0 (he M), mk_P B hP hS⟩ rfl rfl (by rw [hl.1]; exact B.1.2.2.1) rfl (lv_room hf.2.2) hdg ⟨by rw [B.2.2.1]; exact hL.1, by rw [B.2.2.1]; exact hL.2⟩) hS (fun q _ h => h) (fun q h => h) (fun q _ h => h) (fun E ce q9 u t H1 locs1 ht hvm hp hb hz hk hS1 hce hcv hcl => vx_out (fun x h => (Tx x h).elim) B.2.2.2.2.1 hce hcv hcl (fun t2 ht2 hvm2 => ⟨u, hx _ _ hp, ⟨hb.1, by rw [ht2, ← ht]; exact hb.2⟩, hS1.F ht2⟩) hS1.2.2 hzw.1 hzw.2) (fun r u t H1 locs1 ht hvm hp hb hz hk hS1 => ?_)
  obtain ⟨rfl, hp⟩ := hp
  rw [ht] at hb
  exact kk u.1 u.2 hp H1 locs1 ls hb hS1 hl
theorem r_xSv1 (B : Bx l G X cc nL own rm0 ret0) (Tx : NoT X) {y : MethodName} {bytes : ByteArray} {mL i mc ms : Nat} {rm : Room} {a0 : Value} {post : Mem → Prop} {xp' : String → Mem → Prop} (hM : CtX l G y bytes mL (none) rm [a0] M (PoV G post) xp' mc ms) (hM0 : rm.cells = mc ∧ rm.slots = ms) (ok : CalOk y bytes mL (none) 1) (sk : Cond.static y ∈ tG) (wl : Cond.methodLink own i y ∈ tG) (hf : Fits rm rm0 mL st) (hL : Lft k n rm0 mc ms) (hdg : decode cc pc = .ok (.invokestatic i, 3)) (hzw : k + mc ≤ z ∧ n + ms ≤ w) (hx : ∀ (E : String) (M' : Mem), xp' E M' → xp E M') (kk : ∀ (M' : Mem), post M' → WM G X (k + mc) (n + ms) (bX X Q xp z w G) M' (pc + 3) lv (st)) : WM G X k n (bX X Q xp z w G) M pc lv (a0 :: st) := by
  intro H locs ls hP hS hl
  have hl2 := B.2.1
  subst hl2
  refine vx_callv (vx_runS (As := [a0]) (rest := st) ⟨B.1.1, B.1.2.1, B.1.2.2.1, B.1.2.2.2.1, B.1.2.2.2.2⟩ hM ⟨mk_B B ok wl hM0.1 hM0.2 ⟨hf.1, hf.2.1⟩, B.1.2.2.2.2 _ sk⟩ ⟨PreM.blind G M _, mk_P B hP hS⟩ rfl rfl (by rw [hl.1]; exact B.1.2.2.1) rfl (lv_room hf.2.2) hdg ⟨by rw [B.2.2.1]; exact hL.1, by rw [B.2.2.1]; exact hL.2⟩) hS (fun q _ h => h) (fun q h => h) (fun q _ h => h) (fun E ce q9 u t H1 locs1 ht hvm hp hb hz hk hS1 hce hcv hcl => vx_out (fun x h => (Tx x h).elim) B.2.2.2.2.1 hce hcv hcl (fun t2 ht2 hvm2 => ⟨u, hx _ _ hp, ⟨hb.1, by rw [ht2, ← ht]; exact hb.2⟩, hS1.F ht2⟩) hS1.2.2 hzw.1 hzw.2) (fun u t H1 locs1 ht hvm hp hb hz hk hS1 => ?_)
  skip
  rw [ht] at hb
  exact kk u hp H1 locs1 ls hb hS1 hl
theorem r_xSv3 (B : Bx l G X cc nL own rm0 ret0) (Tx : NoT X) {y : MethodName} {bytes : ByteArray} {mL i mc ms : Nat} {rm : Room} {a0 a1 a2 : Value} {post : Mem → Prop} {xp' : String → Mem → Prop} (hM : CtX l G y bytes mL (none) rm [a0, a1, a2] M (PoV G post) xp' mc ms) (hM0 : rm.cells = mc ∧ rm.slots = ms) (ok : CalOk y bytes mL (none) 3) (sk : Cond.static y ∈ tG) (wl : Cond.methodLink own i y ∈ tG) (hf : Fits rm rm0 mL st) (hL : Lft k n rm0 mc ms) (hdg : decode cc pc = .ok (.invokestatic i, 3)) (hzw : k + mc ≤ z ∧ n + ms ≤ w) (hx : ∀ (E : String) (M' : Mem), xp' E M' → xp E M') (kk : ∀ (M' : Mem), post M' → WM G X (k + mc) (n + ms) (bX X Q xp z w G) M' (pc + 3) lv (st)) : WM G X k n (bX X Q xp z w G) M pc lv (a2 :: a1 :: a0 :: st) := by
  intro H locs ls hP hS hl
  have hl2 := B.2.1
  subst hl2
  refine vx_callv (vx_runS (As := [a0, a1, a2]) (rest := st) ⟨B.1.1, B.1.2.1, B.1.2.2.1, B.1.2.2.2.1, B.1.2.2.2.2⟩ hM ⟨mk_B B ok wl hM0.1 hM0.2 ⟨hf.1, hf.2.1⟩, B.1.2.2.2.2 _ sk⟩ ⟨PreM.blind G M _, mk_P B hP hS⟩ rfl rfl (by rw [hl.1]; exact B.1.2.2.1) rfl (lv_room hf.2.2) hdg ⟨by rw [B.2.2.1]; exact hL.1, by rw [B.2.2.1]; exact hL.2⟩) hS (fun q _ h => h) (fun q h => h) (fun q _ h => h) (fun E ce q9 u t H1 locs1 ht hvm hp hb hz hk hS1 hce hcv hcl => vx_out (fun x h => (Tx x h).elim) B.2.2.2.2.1 hce hcv hcl (fun t2 ht2 hvm2 => ⟨u, hx _ _ hp, ⟨hb.1, by rw [ht2, ← ht]; exact hb.2⟩, hS1.F ht2⟩) hS1.2.2 hzw.1 hzw.2) (fun u t H1 locs1 ht hvm hp hb hz hk hS1 => ?_)
  skip
  rw [ht] at hb
  exact kk u hp H1 locs1 ls hb hS1 hl
end R
