/-! the law from its entry -/
theorem tG_tbl {w : Cond} (h : w ∈ tG) : w ∈ lw_tbl := (List.mem_filter.mp h).1
theorem t1_tbl {w : Cond} (h : w ∈ tables_1) : w ∈ lw_tbl := List.mem_append_right _ h
theorem nest_in : ∀ q ∈ nestL, Cond.methodLinkNest q.1 q.2.1 q.2.2.1 q.2.2.2 ∈ tables_1 := by decide +kernel
theorem decl_in : ∀ x ∈ declL, Cond.declares x ∈ tables_1 := by decide +kernel
theorem cast_in : ∀ e ∈ excL, Cond.castable e e ∈ tables_1 := by decide +kernel
theorem str_in : ∀ q ∈ strL, Cond.stringRef "GearGauge" q.1 q.2 ∈ tables_1 := by decide +kernel
theorem nc_in : ∀ e ∈ excL, ∀ f ∈ excL, e ≠ f → Cond.not (.castable e f) ∈ flatC (Jvm.Cond.and given_1 narrow_1) := by decide +kernel
theorem st1_in : Cond.isRef (.static Bundle.tN "UNASSIGNED_STACK" Bundle.steD) ∈ flatC (Jvm.Cond.and given_1 narrow_1) := by decide +kernel
theorem st2_in : Cond.isRef (.static Bundle.tN "SUPPRESSED_SENTINEL" Bundle.listD) ∈ flatC (Jvm.Cond.and given_1 narrow_1) := by decide +kernel
theorem ls1_in : Cond.laysStatic Bundle.tN "UNASSIGNED_STACK" Bundle.steD ∈ tables_1 := List.mem_of_getElem? (i := 469) (by decide +kernel)
theorem ls2_in : Cond.laysStatic Bundle.tN "SUPPRESSED_SENTINEL" Bundle.listD ∈ tables_1 := List.mem_of_getElem? (i := 471) (by decide +kernel)
theorem ao0_in : Cond.arrayOver (.object RX0) ∈ tables_1 := List.mem_of_getElem? (i := 31) (by decide +kernel)
theorem ao1_in : Cond.arrayOver (.object RX1) ∈ tables_1 := List.mem_of_getElem? (i := 33) (by decide +kernel)
theorem ao3_in : Cond.arrayOver (.object RX3) ∈ tables_1 := List.mem_of_getElem? (i := 110) (by decide +kernel)
theorem aoI_in : Cond.arrayOver (.array .int) ∈ tables_1 := List.mem_of_getElem? (i := 40) (by decide +kernel)
theorem arrP {args : Array Value} {s : State} {ty : FieldType} (h : (Cond.arrayClass ty).before args s = true) : ∃ c : ClassId, ArrOfT s c ty ∧ s.vm.findClass ("[" ++ ty.toString) = some c := by
  obtain ⟨c, k, comp, h1, h2, h3⟩ := Cond.arrayClass_spec h
  exact ⟨c, fun n z => ⟨(fun k h => by cases h), k, h2, comp, h3⟩, h1⟩
theorem arrQ {s : State} {C : String} (h : va_AO C s) : ∃ c : ClassId, ArrOfT s c (.object C) ∧ va_RA s c (.object C) := by
  obtain ⟨comp, c, k, h1, h2, h3, h4, h5⟩ := Cond.arrayOver_spec h
  exact ⟨c, fun n z => ⟨(fun k h => by cases h), k, h3, comp, h4⟩, k, comp, h3, h4, h1, h5⟩
theorem arrA {s : State} (h : va_AB s) : ∃ c : ClassId, ArrOfT s c (.array .int) ∧ va_RA s c (.array .int) := by
  obtain ⟨comp, c, k, h1, h2, h3, h4, h5⟩ := arrayOverA_spec h
  exact ⟨c, fun n z => ⟨(fun k h => by cases h), k, h3, comp, h4⟩, h5⟩
/-- the classes' and the arrays' numbers -/
theorem k_start {s : State} {args : Array Value} (hts : ∀ w ∈ lw_tbl, w.before args s = true) : ∃ (D : va_G) (E : Nat → ClassId), va_K D vwCl (tysE E) s := by
  have hg : ∀ w ∈ tG, w.before args s = true := fun w h => hts w (tG_tbl h)
  obtain ⟨c0, i0, k0⟩ := u_known (C := RX0) (T := TX0) (N := 3) (n := 3) hg inG0 (hg _ q_34)
  obtain ⟨c1, i1, k1⟩ := u_known (C := RX1) (T := TX1) (N := 8) (n := 8) hg inG1 (hg _ q_57)
  obtain ⟨c2, i2, k2⟩ := u_known (C := RX2) (T := TX2) (N := 5) (n := 5) hg inG2 (hg _ q_148)
  obtain ⟨c3, i3, k3⟩ := u_known (C := RX3) (T := TX3) (N := 4) (n := 4) hg inG3 (hg _ q_25)
  obtain ⟨c4, i4, k4⟩ := u_known (C := RX4) (T := TX4) (N := 8) (n := 8) hg inG4 (hg _ q_112)
  obtain ⟨c5, i5, k5⟩ := u_known (C := RX5) (T := TX5) (N := 9) (n := 9) hg inG5 (hg _ q_17)
  obtain ⟨c6, i6, k6⟩ := u_known (C := RX6) (T := TX6) (N := 18) (n := 18) hg inG6 (hg _ q_887)
  obtain ⟨e0, a0, b0⟩ := arrP (hg _ q_56)
  obtain ⟨e1, a1, b1⟩ := arrQ (va_AO.of (hts _ (t1_tbl ao0_in)))
  obtain ⟨e2, a2, b2⟩ := arrQ (va_AO.of (hts _ (t1_tbl ao1_in)))
  obtain ⟨e3, a3, b3⟩ := arrQ (va_AO.of (hts _ (t1_tbl ao3_in)))
  obtain ⟨e4, a4, b4⟩ := arrA (hts _ (t1_tbl aoI_in))
  obtain ⟨e5, a5, b5⟩ := arrP (hg _ q_1331)
  obtain ⟨e6, a6, b6⟩ := arrP (hg _ q_1332)
  refine ⟨(fun k => if k = 0 then c0 else if k = 1 then c1 else if k = 2 then c2 else if k = 3 then c3 else if k = 4 then c4 else if k = 5 then c5 else c6, fun k => if k = 0 then i0 else if k = 1 then i1 else if k = 2 then i2 else if k = 3 then i3 else if k = 4 then i4 else if k = 5 then i5 else i6), fun k => if k = 0 then e0 else if k = 1 then e1 else if k = 2 then e2 else if k = 3 then e3 else if k = 4 then e4 else if k = 5 then e5 else e6, fun k q hq => ?_, fun k q hq => ?_⟩
  · match k, hq with
    | 0, hq => cases hq; exact k0
    | 1, hq => cases hq; exact k1
    | 2, hq => cases hq; exact k2
    | 3, hq => cases hq; exact k3
    | 4, hq => cases hq; exact k4
    | 5, hq => cases hq; exact k5
    | 6, hq => cases hq; exact k6
    | k + 7, hq => cases hq
  · match k, hq with
    | 0, hq => cases hq; exact ⟨a0, b0⟩
    | 1, hq => cases hq; exact ⟨a1, b1⟩
    | 2, hq => cases hq; exact ⟨a2, b2⟩
    | 3, hq => cases hq; exact ⟨a3, b3⟩
    | 4, hq => cases hq; exact ⟨a4, b4⟩
    | 5, hq => cases hq; exact ⟨a5, b5⟩
    | 6, hq => cases hq; exact ⟨a6, b6⟩
    | k + 7, hq => cases hq
theorem ng_start {s : State} {m : MethodId} {meth : Method} {c : Code} {p : Program} {b L : Nat} {xs : Nat → Int32} {D : va_G} {E : Nat → ClassId} (C0 : lw_At p s m meth c b L xs) (hK : va_K D vwCl (tysE E) s) : Ng s := by
  obtain ⟨hx, hb, hr, hml, hown, hts, hX, hbl, hlocks, hgv⟩ := C0
  have hf := flat_of_before _ hgv
  refine ⟨fun q hq => va_Nw.of rfl (hts _ (t1_tbl (nest_in q hq))), fun x hq => va_Nw.of rfl (hts _ (t1_tbl (decl_in x hq))), fun e he => va_Nw.of rfl (hts _ (t1_tbl (cast_in e he))), fun e he f hf2 hn => va_Nc.of (hf _ (nc_in e he f hf2 hn)), fun q hq => ?_⟩
  have h5 := (hK.1 5 _ rfl).2.1
  have hs := hts _ (t1_tbl (str_in q hq))
  obtain ⟨-, -, -, sa, -, -, -, -, -, hev⟩ := Cond.stringRef_spec h5 hs
  exact ⟨sa, vk_R.of hs hev⟩
theorem zs_start {s : State} {m : MethodId} {meth : Method} {c : Code} {p : Program} {b L : Nat} {xs : Nat → Int32} {D : va_G} {E : Nat → ClassId} (C0 : lw_At p s m meth c b L xs) : Zs (s.heap.size, D, E) s s.heap := by
  obtain ⟨hx, hb, hr, hml, hown, hts, hX, hbl, hlocks, hgv⟩ := C0
  have hf := flat_of_before _ hgv
  exact ⟨vx_Zqof (hts _ (t1_tbl ls1_in)) (hts _ (tG_tbl q_8)) (hf _ st1_in) (fun a h q => by have q2 : s.heap.size ≤ a := q; omega), vx_Zqof (hts _ (t1_tbl ls2_in)) (hts _ (tG_tbl q_8)) (hf _ st2_in) (fun a h q => by have q2 : s.heap.size ≤ a := q; omega)⟩
theorem oa_start {s : State} {args : Array Value} (hts : ∀ w ∈ lw_tbl, w.before args s = true) : Oa s := ⟨va_AO.of (hts _ (t1_tbl ao0_in)), va_AO.of (hts _ (t1_tbl ao1_in)), va_AO.of (hts _ (t1_tbl ao3_in)), hts _ (t1_tbl aoI_in)⟩
theorem bs_start {p : Program} {e : Env} {s : State} {m : MethodId} {below : List Frame} {meth : Method} {c : Code} (l : Launch) {b L : Nat} {xs : Nat → Int32} {D : va_G} {E : Nat → ClassId} (C0 : lw_At p s m meth c b L xs) (hK : va_K D vwCl (tysE E) s) : Bx l (s.heap.size, D, E) (p, l, e, room_1, s, m, #[Value.ref b], below, meth, c) cL_law 9 RL room_1 ret := by
  have hN := ng_start C0 hK
  have hZ := zs_start (D := D) (E := E) C0
  obtain ⟨hx, hb, hr, hml, hown, hts, hX, hbl, hlocks, hgv⟩ := C0
  exact ⟨⟨hx, hb, hml, hown, fun w h => hts w (tG_tbl h)⟩, rfl, rfl, hr, hlocks, ⟨hK, hN⟩, hZ⟩
/-- the end -/
theorem law_end {p : Program} {e : Env} {s : State} {m : MethodId} {below : List Frame} {meth : Method} {c : Code} (l : Launch) {b L : Nat} {xs : Nat → Int32} {D : va_G} {E : Nat → ClassId} (C0 : lw_At p s m meth c b L xs) (B : Bx l (s.heap.size, D, E) (p, l, e, room_1, s, m, #[Value.ref b], below, meth, c) cL_law 9 RL room_1 ret) {M : Mem} {k n : Nat} (hk : k ≤ 601024) (hn : n ≤ 7293034) {lv : List (Nat × Value)} : WM (s.heap.size, D, E) (p, l, e, room_1, s, m, #[Value.ref b], below, meth, c) k n (lw_Z below #[Value.ref b] s) M 2429 lv [] := by
  obtain ⟨hx, hb, hr, hml, hown, hts, hX, hbl, hlocks, hgv⟩ := C0
  refine r_iconst B dL_law_2429 ?_
  exact fun H locs ls hP hS hl => W.widen hk hn (va_forget (fun q hq => hS.2.2 q hq) (lw_ret (d0 := s.drawn) (Drawn.sameBut.refl s.drawn lw_cs) hx hb hr hlocks dL_law_2430))
set_option maxRecDepth 100000 in
set_option maxHeartbeats 4000000 in
theorem law_loop (l : Launch) (hst : l.stackTraces = false) (G : Gs) (X : Cx) (B : Bx l G X cL_law 9 RL room_1 ret) {Q : State → Prop} {bS L : Nat} {xs : Nat → Int32} (hX : va_X bS L xs X.2.2.2.2.1 X.2.2.2.2.1.heap) (hbl : bS < X.2.2.2.2.1.heap.size) (hbA : bS < G.1) (hL : L ≤ 2560) (hfin : ∀ (M : Mem) (k n : Nat) (lv : List (Nat × Value)), k ≤ 601024 → n ≤ 7293034 → WM G X k n Q M 2429 lv []) : ∀ (r c : Nat) (i : Int) (M : Mem) (g : Gst) (len : Int) (b : Int → Int), i = 5 * (c : Int) → L + 5 ≤ 5 * c + 5 * r → 5 * c ≤ L → CI G M g len b → RI G M g len b → OkI g len b → WM G X (345 + 4 * c) (10113 + 24 * c) Q M 28 [(5, .int (iI i)), (4, .ref (G.1 + 344)), (3, .ref (G.1 + 343)), (2, .ref (G.1 + 335)), (1, .ref G.1), (0, .ref bS)] [] := by
  intro r
  induction r with
  | zero => intro c i M g len b hi h1 h2; omega
  | succ r ih =>
    intro c i M g len b hi h1 h2 hC hR hk
    refine r_iload B 0 dL_law_28 rfl ?_
    refine r_aload_n B 5 dL_law_30 rfl ?_
    refine r_slen B hX hbl hbA dL_law_31 ?_
    refine r_iconst B dL_law_32 ?_
    refine r_isub B dL_law_33 ?_
    refine r_icmp_gt B dL_law_34 rfl ⟨by omega, by omega⟩ ⟨by omega, by omega⟩ (fun _ => hfin M _ _ _ (by omega) (by omega)) (fun hc => ?_)
    have kend : ∀ (M' : Mem) (g' : Gst) (len' : Int) (b' : Int → Int), CI G M' g' len' b' → RI G M' g' len' b' → OkI g' len' b' → WM G X (345 + 4 * c + 4) (10113 + 24 * c + 24) Q M' 2423 [(5, .int (iI i)), (4, .ref (G.1 + 344)), (3, .ref (G.1 + 343)), (2, .ref (G.1 + 335)), (1, .ref G.1), (0, .ref bS)] [] := by
      intro M' g' len' b' hC' hR' hk'
      refine r_iinc B (lv' := [(5, .int (iI (i + 5))), (4, .ref (G.1 + 344)), (3, .ref (G.1 + 343)), (2, .ref (G.1 + 335)), (1, .ref G.1), (0, .ref bS)]) dL_law_2423 (j := 0) rfl (by decide) rfl ?_
      refine r_goto B dL_law_2426 rfl ?_
      have w := ih (c + 1) (i + 5) M' g' len' b' (by omega) (by omega) (by omega) hC' hR' hk'
      rw [show 345 + 4 * (c + 1) = 345 + 4 * c + 4 by omega, show 10113 + 24 * (c + 1) = 10113 + 24 * c + 24 by omega] at w
      exact w
    refine r_aload_n B 5 dL_law_37 rfl ?_
    refine r_iload B 0 dL_law_38 rfl ?_
    refine r_sld B hX hbl hbA dL_law_40 (by omega) (by omega) hL ?_
    refine r_bipush B (z := 63) dL_law_41 (by decide) ?_
    refine r_iand B dL_law_43 ?_
    rw [← iI_of (iI (sc xs i) &&& iI 63)]
    have h32 := in32_of (iI (sc xs i) &&& iI 63)
    generalize (iI (sc xs i) &&& iI 63).toInt = j at h32
    by_cases hj : j < 0 ∨ 34 < j
    · refine r_tabOut B (tgt := 2423) dL_law_44 h32 hj rfl ?_
      exact WM.widen (by omega) (by omega) (kend M g len b hC hR hk)
    have hj2 : j = 0 ∨ j = 1 ∨ j = 2 ∨ j = 3 ∨ j = 4 ∨ j = 5 ∨ j = 6 ∨ j = 7 ∨ j = 8 ∨ j = 9 ∨ j = 10 ∨ j = 11 ∨ j = 12 ∨ j = 13 ∨ j = 14 ∨ j = 15 ∨ j = 16 ∨ j = 17 ∨ j = 18 ∨ j = 19 ∨ j = 20 ∨ j = 21 ∨ j = 22 ∨ j = 23 ∨ j = 24 ∨ j = 25 ∨ j = 26 ∨ j = 27 ∨ j = 28 ∨ j = 29 ∨ j = 30 ∨ j = 31 ∨ j = 32 ∨ j = 33 ∨ j = 34 := by omega
    rcases hj2 with hj | hj | hj | hj | hj | hj | hj | hj | hj | hj | hj | hj | hj | hj | hj | hj | hj | hj | hj | hj | hj | hj | hj | hj | hj | hj | hj | hj | hj | hj | hj | hj | hj | hj | hj
    · rw [hj]
      exact r_tabIn B (off := 156) (tgt := 200) dL_law_44 ⟨by omega, by omega⟩ (by omega) (by omega) rfl rfl (law_addGear l hst G X B hX hbl hbA isGg0 isMd0 isO0 isOD0 M g len b hC hR hk _ _ ⟨by omega, by omega⟩ i (by omega) (by omega) hL kend)
    · rw [hj]
      exact r_tabIn B (off := 224) (tgt := 268) dL_law_44 ⟨by omega, by omega⟩ (by omega) (by omega) rfl rfl (law_removeGear l hst G X B hX hbl hbA isGg0 isMd0 isO0 isOD0 M g len b hC hR hk _ _ ⟨by omega, by omega⟩ i (by omega) (by omega) hL kend)
    · rw [hj]
      exact r_tabIn B (off := 280) (tgt := 324) dL_law_44 ⟨by omega, by omega⟩ (by omega) (by omega) rfl rfl (law_setReading l hst G X B hX hbl hbA isGg0 isMd0 isO0 isOD0 M g len b hC hR hk _ _ ⟨by omega, by omega⟩ i (by omega) (by omega) hL kend)
    · rw [hj]
      exact r_tabIn B (off := 372) (tgt := 416) dL_law_44 ⟨by omega, by omega⟩ (by omega) (by omega) rfl rfl (law_fill l hst G X B hX hbl hbA isGg0 isMd0 isO0 isOD0 M g len b hC hR hk _ _ ⟨by omega, by omega⟩ i (by omega) (by omega) hL kend)
    · rw [hj]
      exact r_tabIn B (off := 452) (tgt := 496) dL_law_44 ⟨by omega, by omega⟩ (by omega) (by omega) rfl rfl (law_turn l hst G X B hX hbl hbA isGg0 isMd0 isO0 isOD0 M g len b hC hR hk _ _ ⟨by omega, by omega⟩ i (by omega) (by omega) hL kend)
    · rw [hj]
      exact r_tabIn B (off := 520) (tgt := 564) dL_law_44 ⟨by omega, by omega⟩ (by omega) (by omega) rfl rfl (law_gears l hst G X B hX hbl hbA isGg0 isMd0 isO0 isOD0 M g len b hC hR hk _ _ ⟨by omega, by omega⟩ i (by omega) (by omega) hL kend)
    · rw [hj]
      exact r_tabIn B (off := 533) (tgt := 577) dL_law_44 ⟨by omega, by omega⟩ (by omega) (by omega) rfl rfl (law_gear l hst G X B hX hbl hbA isGg0 isMd0 isO0 isOD0 M g len b hC hR hk _ _ ⟨by omega, by omega⟩ i (by omega) (by omega) hL kend)
    · rw [hj]
      exact r_tabIn B (off := 601) (tgt := 645) dL_law_44 ⟨by omega, by omega⟩ (by omega) (by omega) rfl rfl (law_reading l hst G X B hX hbl hbA isGg0 isMd0 isO0 isOD0 M g len b hC hR hk _ _ ⟨by omega, by omega⟩ i (by omega) (by omega) hL kend)
    · rw [hj]
      exact r_tabIn B (off := 681) (tgt := 725) dL_law_44 ⟨by omega, by omega⟩ (by omega) (by omega) rfl rfl (law_index l hst G X B hX hbl hbA isGg0 isMd0 isO0 isOD0 M g len b hC hR hk _ _ ⟨by omega, by omega⟩ i (by omega) (by omega) hL kend)
    · rw [hj]
      exact r_tabIn B (off := 761) (tgt := 805) dL_law_44 ⟨by omega, by omega⟩ (by omega) (by omega) rfl rfl (law_pitch l hst G X B hX hbl hbA isGg0 isMd0 isO0 isOD0 M g len b hC hR hk _ _ ⟨by omega, by omega⟩ i (by omega) (by omega) hL kend)
    · rw [hj]
      exact r_tabIn B (off := 841) (tgt := 885) dL_law_44 ⟨by omega, by omega⟩ (by omega) (by omega) rfl rfl (law_span l hst G X B hX hbl hbA isGg0 isMd0 isO0 isOD0 M g len b hC hR hk _ _ ⟨by omega, by omega⟩ i (by omega) (by omega) hL kend)
    · rw [hj]
      exact r_tabIn B (off := 921) (tgt := 965) dL_law_44 ⟨by omega, by omega⟩ (by omega) (by omega) rfl rfl (law_thickness l hst G X B hX hbl hbA isGg0 isMd0 isO0 isOD0 M g len b hC hR hk _ _ ⟨by omega, by omega⟩ i (by omega) (by omega) hL kend)
    · rw [hj]
      exact r_tabIn B (off := 989) (tgt := 1033) dL_law_44 ⟨by omega, by omega⟩ (by omega) (by omega) rfl rfl (law_eccentricity l hst G X B hX hbl hbA isGg0 isMd0 isO0 isOD0 M g len b hC hR hk _ _ ⟨by omega, by omega⟩ i (by omega) (by omega) hL kend)
    · rw [hj]
      exact r_tabIn B (off := 1066) (tgt := 1110) dL_law_44 ⟨by omega, by omega⟩ (by omega) (by omega) rfl rfl (law_deviation l hst G X B hX hbl hbA isGg0 isMd0 isO0 isOD0 M g len b hC hR hk _ _ ⟨by omega, by omega⟩ i (by omega) (by omega) hL kend)
    · rw [hj]
      exact r_tabIn B (off := 1134) (tgt := 1178) dL_law_44 ⟨by omega, by omega⟩ (by omega) (by omega) rfl rfl (law_addLine l hst G X B hX hbl hbA isGg0 isMd0 isO0 isOD0 M g len b hC hR hk _ _ ⟨by omega, by omega⟩ i (by omega) (by omega) hL kend)
    · rw [hj]
      exact r_tabIn B (off := 1202) (tgt := 1246) dL_law_44 ⟨by omega, by omega⟩ (by omega) (by omega) rfl rfl (law_addPoint l hst G X B hX hbl hbA isGg0 isMd0 isO0 isOD0 M g len b hC hR hk _ _ ⟨by omega, by omega⟩ i (by omega) (by omega) hL kend)
    · rw [hj]
      exact r_tabIn B (off := 1270) (tgt := 1314) dL_law_44 ⟨by omega, by omega⟩ (by omega) (by omega) rfl rfl (law_removeLine l hst G X B hX hbl hbA isGg0 isMd0 isO0 isOD0 M g len b hC hR hk _ _ ⟨by omega, by omega⟩ i (by omega) (by omega) hL kend)
    · rw [hj]
      exact r_tabIn B (off := 1326) (tgt := 1370) dL_law_44 ⟨by omega, by omega⟩ (by omega) (by omega) rfl rfl (law_lines l hst G X B hX hbl hbA isGg0 isMd0 isO0 isOD0 M g len b hC hR hk _ _ ⟨by omega, by omega⟩ i (by omega) (by omega) hL kend)
    · rw [hj]
      exact r_tabIn B (off := 1339) (tgt := 1383) dL_law_44 ⟨by omega, by omega⟩ (by omega) (by omega) rfl rfl (law_line l hst G X B hX hbl hbA isGg0 isMd0 isO0 isOD0 M g len b hC hR hk _ _ ⟨by omega, by omega⟩ i (by omega) (by omega) hL kend)
    · rw [hj]
      exact r_tabIn B (off := 1407) (tgt := 1451) dL_law_44 ⟨by omega, by omega⟩ (by omega) (by omega) rfl rfl (law_point l hst G X B hX hbl hbA isGg0 isMd0 isO0 isOD0 M g len b hC hR hk _ _ ⟨by omega, by omega⟩ i (by omega) (by omega) hL kend)
    · rw [hj]
      exact r_tabIn B (off := 1475) (tgt := 1519) dL_law_44 ⟨by omega, by omega⟩ (by omega) (by omega) rfl rfl (law_lineDeviation l hst G X B hX hbl hbA isGg0 isMd0 isO0 isOD0 M g len b hC hR hk _ _ ⟨by omega, by omega⟩ i (by omega) (by omega) hL kend)
    · rw [hj]
      exact r_tabIn B (off := 1543) (tgt := 1587) dL_law_44 ⟨by omega, by omega⟩ (by omega) (by omega) rfl rfl (law_best l hst G X B hX hbl hbA isGg0 isMd0 isO0 isOD0 M g len b hC hR hk _ _ ⟨by omega, by omega⟩ i (by omega) (by omega) hL kend)
    · rw [hj]
      exact r_tabIn B (off := 1638) (tgt := 1682) dL_law_44 ⟨by omega, by omega⟩ (by omega) (by omega) rfl rfl (law_tolerance l hst G X B hX hbl hbA isGg0 isMd0 isO0 isOD0 M g len b hC hR hk _ _ ⟨by omega, by omega⟩ i (by omega) (by omega) hL kend)
    · rw [hj]
      exact r_tabIn B (off := 1718) (tgt := 1762) dL_law_44 ⟨by omega, by omega⟩ (by omega) (by omega) rfl rfl (law_quality l hst G X B hX hbl hbA isGg0 isMd0 isO0 isOD0 M g len b hC hR hk _ _ ⟨by omega, by omega⟩ i (by omega) (by omega) hL kend)
    · rw [hj]
      exact r_tabIn B (off := 1786) (tgt := 1830) dL_law_44 ⟨by omega, by omega⟩ (by omega) (by omega) rfl rfl (law_decide l hst G X B hX hbl hbA isGg0 isMd0 isO0 isOD0 M g len b hC hR hk _ _ ⟨by omega, by omega⟩ i (by omega) (by omega) hL kend)
    · rw [hj]
      exact r_tabIn B (off := 1866) (tgt := 1910) dL_law_44 ⟨by omega, by omega⟩ (by omega) (by omega) rfl rfl (law_mesh l hst G X B hX hbl hbA isGg0 isMd0 isO0 isOD0 M g len b hC hR hk _ _ ⟨by omega, by omega⟩ i (by omega) (by omega) hL kend)
    · rw [hj]
      exact r_tabIn B (off := 1958) (tgt := 2002) dL_law_44 ⟨by omega, by omega⟩ (by omega) (by omega) rfl rfl (law_bestPhase l hst G X B hX hbl hbA isGg0 isMd0 isO0 isOD0 M g len b hC hR hk _ _ ⟨by omega, by omega⟩ i (by omega) (by omega) hL kend)
    · rw [hj]
      exact r_tabIn B (off := 2038) (tgt := 2082) dL_law_44 ⟨by omega, by omega⟩ (by omega) (by omega) rfl rfl (law_partner l hst G X B hX hbl hbA isGg0 isMd0 isO0 isOD0 M g len b hC hR hk _ _ ⟨by omega, by omega⟩ i (by omega) (by omega) hL kend)
    · rw [hj]
      exact r_tabIn B (off := 2106) (tgt := 2150) dL_law_44 ⟨by omega, by omega⟩ (by omega) (by omega) rfl rfl (law_mean l hst G X B hX hbl hbA isGg0 isMd0 isO0 isOD0 M g len b hC hR hk _ _ ⟨by omega, by omega⟩ i (by omega) (by omega) hL kend)
    · rw [hj]
      exact r_tabIn B (off := 2183) (tgt := 2227) dL_law_44 ⟨by omega, by omega⟩ (by omega) (by omega) rfl rfl (law_ranked l hst G X B hX hbl hbA isGg0 isMd0 isO0 isOD0 M g len b hC hR hk _ _ ⟨by omega, by omega⟩ i (by omega) (by omega) hL kend)
    · rw [hj]
      exact r_tabIn B (off := 2239) (tgt := 2283) dL_law_44 ⟨by omega, by omega⟩ (by omega) (by omega) rfl rfl (law_append l hst G X B hX hbl hbA isGg0 isMd0 isO0 isOD0 M g len b hC hR hk _ _ ⟨by omega, by omega⟩ i (by omega) (by omega) hL kend)
    · rw [hj]
      exact r_tabIn B (off := 2295) (tgt := 2339) dL_law_44 ⟨by omega, by omega⟩ (by omega) (by omega) rfl rfl (law_clearText l hst G X B hX hbl hbA isGg0 isMd0 isO0 isOD0 M g len b hC hR hk _ _ ⟨by omega, by omega⟩ i (by omega) (by omega) hL kend)
    · rw [hj]
      exact r_tabIn B (off := 2308) (tgt := 2352) dL_law_44 ⟨by omega, by omega⟩ (by omega) (by omega) rfl rfl (law_parse l hst G X B hX hbl hbA isGg0 isMd0 isO0 isOD0 M g len b hC hR hk _ _ ⟨by omega, by omega⟩ i (by omega) (by omega) hL kend)
    · rw [hj]
      exact r_tabIn B (off := 2321) (tgt := 2365) dL_law_44 ⟨by omega, by omega⟩ (by omega) (by omega) rfl rfl (law_undo l hst G X B hX hbl hbA isGg0 isMd0 isO0 isOD0 M g len b hC hR hk _ _ ⟨by omega, by omega⟩ i (by omega) (by omega) hL kend)
    · rw [hj]
      exact r_tabIn B (off := 2365) (tgt := 2409) dL_law_44 ⟨by omega, by omega⟩ (by omega) (by omega) rfl rfl (law_digest l hst G X B hX hbl hbA isGg0 isMd0 isO0 isOD0 M g len b hC hR hk _ _ ⟨by omega, by omega⟩ i (by omega) (by omega) hL kend)
theorem WE.toWM {G : Gs} {X : Cx} {k n : Nat} {Q : State → Prop} {f : Nat → va_E} {pc : Nat} {lv : List (Nat × Value)} {st : List Value} (hf : ∀ j, j < 345 → alF G.2.2 G.1 j = f j) (kk : WM G X k n Q (M0 G) pc lv st) : WE G X k n Q 345 f pc lv st :=
  fun H locs ls hP hS hl => kk H locs ls (WW_init (hP.congr hf)) hS hl
theorem fc_long {G : Gs} (U : State) (h : St G U) : U.vm.findClass ("[" ++ FieldType.long.toString) = some (G.2.2 5) := (h.1.2 5 _ rfl).2
theorem fc_double {G : Gs} (U : State) (h : St G U) : U.vm.findClass ("[" ++ FieldType.double.toString) = some (G.2.2 6) := (h.1.2 6 _ rfl).2
set_option maxRecDepth 100000 in
set_option maxHeartbeats 4000000 in
theorem law_walk (l : Launch) (hst : l.stackTraces = false) (G : Gs) (X : Cx) (B : Bx l G X cL_law 9 RL room_1 ret) {Q : State → Prop} {bS L : Nat} {xs : Nat → Int32} (hX : va_X bS L xs X.2.2.2.2.1 X.2.2.2.2.1.heap) (hbl : bS < X.2.2.2.2.1.heap.size) (hbA : bS < G.1) (hL : L ≤ 2560) (hfin : ∀ (M : Mem) (k n : Nat) (lv : List (Nat × Value)), k ≤ 601024 → n ≤ 7293034 → WM G X k n Q M 2429 lv []) (hO : Oa X.2.2.2.2.1) (hN : G.1 = X.2.2.2.2.1.heap.size) (f : Nat → va_E) : WE G X 0 0 Q 0 f 0 [(0, .ref bS)] [] := by
  have Be1 : Be l G X cL_law 9 RL room_1 ret := ⟨B, hO, by omega⟩
  refine e_new Be1 (ci := 5) tyX5 rfl inG5 tyX5_ok (fs := [.null, .null, .null, .int 0, .null, .null, .null, .null, .null]) (by decide +kernel) q_16 q_17 q_1 ⟨Nat.le_of_ble_eq_true rfl, Nat.le_of_ble_eq_true rfl⟩ dL_law_0 ?_
  refine e_dup Be1 dL_law_3 rfl ?_
  refine e_I Be1 (cI_X5 l G _ (by rw [upE_eq]; rfl)) ⟨rfl, rfl⟩ ok_X5_init rfl q_19 q_18 ⟨Nat.le_of_ble_eq_true rfl, Nat.le_of_ble_eq_true rfl, Nat.le_of_ble_eq_true rfl⟩ ⟨Nat.le_of_ble_eq_true rfl, Nat.le_of_ble_eq_true rfl⟩ dL_law_4 ?_
  refine e_astore_n Be1 (lv' := [(1, .ref (G.1 + 0)), (0, .ref bS)]) dL_law_7 (by decide) rfl ?_
  refine e_new Be1 (ci := 6) tyX6 rfl inG6 tyX6_ok (fs := [.null, .null, .null, .int 0, .null, .int 0, .int 0, .long 0, .long 0, .long 0, .long 0, .null, .null, .int 0, .int 0, .null, .int 0, .long 0]) (by decide +kernel) q_886 q_887 q_7 ⟨Nat.le_of_ble_eq_true rfl, Nat.le_of_ble_eq_true rfl⟩ dL_law_8 ?_
  refine e_dup Be1 dL_law_11 rfl ?_
  refine e_I Be1 (cI_X6 l G 335 _ (by rw [upE_eq]; rfl)) ⟨rfl, rfl⟩ ok_X6_init rfl q_889 q_888 ⟨Nat.le_of_ble_eq_true rfl, Nat.le_of_ble_eq_true rfl, Nat.le_of_ble_eq_true rfl⟩ ⟨Nat.le_of_ble_eq_true rfl, Nat.le_of_ble_eq_true rfl⟩ dL_law_12 ?_
  refine e_astore_n Be1 (lv' := [(2, .ref (G.1 + 335)), (1, .ref (G.1 + 0)), (0, .ref bS)]) dL_law_15 (by decide) rfl ?_
  refine e_iconst Be1 dL_law_16 ?_
  refine e_newa Be1 (z := 1) (N' := 1) (atype := .long) (cA := G.2.2 5) (a0 := (1, .inr (.inl (fun _ => 0)))) rfl fc_long q_1331 (vp_cell_l _ _ _) ⟨by omega, by omega⟩ rfl (Nat.le_of_ble_eq_true rfl) ⟨Nat.le_of_ble_eq_true rfl, Nat.le_of_ble_eq_true rfl⟩ dL_law_17 ?_
  refine e_astore_n Be1 (lv' := [(3, .ref (G.1 + (335 + 8))), (2, .ref (G.1 + 335)), (1, .ref (G.1 + 0)), (0, .ref bS)]) dL_law_19 (by decide) rfl ?_
  refine e_iconst Be1 dL_law_20 ?_
  refine e_newa Be1 (z := 1) (N' := 1) (atype := .double) (cA := G.2.2 6) (a0 := (1, .inr (.inr (.inr (.inl (fun _ => 0)))))) rfl fc_double q_1332 (vp_cell_d _ _ _) ⟨by omega, by omega⟩ rfl (Nat.le_of_ble_eq_true rfl) ⟨Nat.le_of_ble_eq_true rfl, Nat.le_of_ble_eq_true rfl⟩ dL_law_21 ?_
  refine e_astore Be1 (lv' := [(4, .ref (G.1 + (335 + 8 + 1))), (3, .ref (G.1 + (335 + 8))), (2, .ref (G.1 + 335)), (1, .ref (G.1 + 0)), (0, .ref bS)]) dL_law_23 (by decide) rfl ?_
  refine e_iconst Be1 dL_law_25 ?_
  refine e_istore Be1 (lv' := [(5, .int (iI 0)), (4, .ref (G.1 + (335 + 8 + 1))), (3, .ref (G.1 + (335 + 8))), (2, .ref (G.1 + 335)), (1, .ref (G.1 + 0)), (0, .ref bS)]) dL_law_26 (by decide) rfl ?_
  refine WE.toWM (fun j hj => ?_) ?_
  · unfold alF
    by_cases w1 : j = 335 + 8 + 1
    · subst w1
      rw [upE_eq, if_neg (by omega), if_neg (by omega), if_neg (by omega)]
    rw [upE_ne w1]
    by_cases w2 : j = 335 + 8
    · subst w2
      rw [upE_eq, if_neg (by omega), if_neg (by omega), if_pos rfl]
    rw [upE_ne w2]
    by_cases w3 : j < 335
    · rw [lay_lt w3, upE_ne (by omega), if_pos w3]
      rfl
    · rw [lay_ge (by omega), if_neg w3, if_pos (by omega)]
  · exact law_loop l hst G X B hX hbl hbA hL hfin (L + 5) 0 0 (M0 G) g0 0 (fun _ => 0) rfl (by omega) (by omega) ci0 ri0 g0_ok
theorem whole_start {p : Program} {e : Env} {s : State} {m : MethodId} {below : List Frame} {meth : Method} {c : Code} (l : Launch) (hflags : l.flags = flags0) {b L : Nat} {xs : Nat → Int32} (hL : L ≤ 2560) (C0 : lw_At p s m meth c b L xs) : W p l e room_1 s m #[Value.ref b] below meth c s.heap [] 0 0 (lw_Z below #[Value.ref b] s) (entryFrame m ([Value.ref b] : List Value).toArray 9) := by
  obtain ⟨hx, hb, hr, hml, hown, hts, hX, hbl, hlocks, hgv⟩ := id C0
  obtain ⟨D, E, hK⟩ := k_start hts
  have B := bs_start (e := e) (below := below) l C0 hK
  have hst : l.stackTraces = false := by
    unfold Launch.stackTraces
    rw [hflags]
    decide
  have hl := lv_entry ([.ref b]) (n := 9) (Nat.le_of_ble_eq_true rfl)
  rw [lg_entry_eq]
  have hl2 : lv_has (lg_sl [Value.ref b] ++ List.replicate (9 - (lg_sl [Value.ref b]).length) Slot.unset).toArray 9 [(0, .ref b)] := hl
  exact law_walk l hst (s.heap.size, D, E) (p, l, e, room_1, s, m, #[Value.ref b], below, meth, c) B hX hbl hbl hL (fun M k n lv h1 h2 => law_end l C0 B h1 h2) (oa_start hts) rfl (fun _ => bl0) s.heap [] _ ⟨(fun k q h => by cases h), rfl⟩ va_S.rf (by show lv_has _ c.maxLocals _; rw [hml]; exact hl2)
