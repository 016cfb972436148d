/-! the law: what it holds between its calls -/
/-- the class's side -/
def CI (G : Gs) (M : Mem) (g : Gst) (len : Int) (b : Int → Int) : Prop := GgIs M G.1 g ∧ TxB M (G.1 + 320) len b
/-- the reference's side -/
def RI (G : Gs) (M : Mem) (g : Gst) (len : Int) (b : Int → Int) : Prop := MdG M (G.1 + 335) g ∧ gI M (G.1 + 335) 5 = len ∧ ∀ i : Int, 0 ≤ i → i < len → gI M (G.1 + 335 + 4) i = b i
def OkI (g : Gst) (len : Int) (b : Int → Int) : Prop := GgOk g ∧ TxOk len b
/-- the reference's cells are kept -/
def fC (G : Gs) (M M' : Mem) : Prop := ∀ c : Nat, G.1 + 335 ≤ c → c < G.1 + 343 → Same M M' c
/-- only the reference's cells are changed -/
def fR (G : Gs) (M M' : Mem) : Prop := ∀ c : Nat, (c < G.1 + 335 ∨ G.1 + 343 ≤ c) → Same M M' c
theorem fC.rf {G : Gs} {M : Mem} : fC G M M := fun c _ _ => Same.rf M c
theorem fC.tr {G : Gs} {M1 M2 M3 : Mem} (h : fC G M1 M2) (k : fC G M2 M3) : fC G M1 M3 := fun c p q => (h c p q).tr (k c p q)
theorem fC.only {G : Gs} {M M' : Mem} {a b : Nat} (h : Only M M' a b) (hb : b ≤ G.1 + 335) : fC G M M' := fun c p q => h c (by omega)
theorem fC.fg {G : Gs} {M M' : Mem} (h : Fg M M' G.1) : fC G M M' := fun c p q => h c (by omega)
theorem fC.sL {G : Gs} {M : Mem} {k v : Int} : fC G M (sL M (G.1 + 343) k v) := fun c p q => Same.sL (by omega)
theorem fC.sD {G : Gs} {M : Mem} {k : Int} {v : UInt64} : fC G M (sD M (G.1 + 344) k v) := fun c p q => Same.sD (by omega)
theorem RI.kept {G : Gs} {M M' : Mem} {g : Gst} {len : Int} {b : Int → Int} (h : RI G M g len b) (k : fC G M M') : RI G M' g len b := by
  obtain ⟨h1, h2, h3⟩ := h
  have e0 := (k (G.1 + 335) (by omega) (by omega)).1
  have e1 := (k (G.1 + 335 + 1) (by omega) (by omega)).1
  have e2 := (k (G.1 + 335 + 2) (by omega) (by omega)).1
  have e4 := (k (G.1 + 335 + 4) (by omega) (by omega)).1
  exact ⟨h1.only e1 e2 (by rw [e0]), by rw [e0]; exact h2, fun i p q => by rw [e4]; exact h3 i p q⟩
theorem CI.same {G : Gs} {M M' : Mem} {g : Gst} {len : Int} {b : Int → Int} (h : CI G M g len b) (hok : GgOk g) (k : ∀ c : Nat, c < G.1 + 323 → Same M M' c) : CI G M' g len b :=
  ⟨h.1.kept hok (by rw [(k G.1 (by omega)).1]) (fun c _ q => k c (by omega)), by rw [(k (G.1 + 320) (by omega)).1]; exact h.2.1, fun i p q => by rw [(k (G.1 + 320 + 1) (by omega)).1]; exact h.2.2 i p q⟩
theorem CI.kept {G : Gs} {M M' : Mem} {g : Gst} {len : Int} {b : Int → Int} (h : CI G M g len b) (hok : GgOk g) (k : fR G M M') : CI G M' g len b := h.same hok (fun c q => k c (by omega))
theorem CI.sL {G : Gs} {M : Mem} {g : Gst} {len : Int} {b : Int → Int} {k v : Int} (h : CI G M g len b) (hok : GgOk g) : CI G (sL M (G.1 + 343) k v) g len b := h.same hok (fun c q => Same.sL (by omega))
theorem CI.sD {G : Gs} {M : Mem} {g : Gst} {len : Int} {b : Int → Int} {k : Int} {v : UInt64} (h : CI G M g len b) (hok : GgOk g) : CI G (sD M (G.1 + 344) k v) g len b := h.same hok (fun c q => Same.sD (by omega))
/-- what is then now -/
def nxG (g : Gst) (o : Int × Int × Ast) : Gst := if o.1 = 0 then (o.2.2, (savG g).2) else g
/-- a call of the class, wrapped: the place of what was thrown; the answer lies in a row -/
def Wp (G : Gs) (M : Mem) (k0 v0 : Int) (g' : Gst) (len' : Int) (b' : Int → Int) : Int → Mem → Prop := fun r M' => r = k0 ∧ In32 k0 ∧ (k0 = 0 → gL M' (G.1 + 343) 0 = v0) ∧ CI G M' g' len' b' ∧ fC G M M'
def Wd (G : Gs) (M : Mem) (k0 : Int) (d0 : UInt64) (g' : Gst) (len' : Int) (b' : Int → Int) : Int → Mem → Prop := fun r M' => r = k0 ∧ In32 k0 ∧ (k0 = 0 → gD M' (G.1 + 344) 0 = d0) ∧ CI G M' g' len' b' ∧ fC G M M'
/-- an int as a long -/
def xI (v : Int) : Int := (iI v).toInt
theorem Wp.x {G : Gs} {M M' : Mem} {o : Int × Int} {v : Int} {g : Gst} {len e : Int} {b : Int → Int} (ho : o = (e, 0)) (he : e = 1 ∨ e = 2 ∨ e = 3) (hC : CI G M' g len b) (hF : fC G M M') : Wp G M o.1 v g len b e M' := by
  rw [ho]
  exact ⟨rfl, by show In32 e; exact ⟨by omega, by omega⟩, fun q => by have q2 : e = 0 := q; omega, hC, hF⟩
theorem Wd.x {G : Gs} {M M' : Mem} {o : Int × Int} {v : UInt64} {g : Gst} {len e : Int} {b : Int → Int} (ho : o = (e, 0)) (he : e = 1 ∨ e = 2 ∨ e = 3) (hC : CI G M' g len b) (hF : fC G M M') : Wd G M o.1 v g len b e M' := by
  rw [ho]
  exact ⟨rfl, by show In32 e; exact ⟨by omega, by omega⟩, fun q => by have q2 : e = 0 := q; omega, hC, hF⟩
theorem Wp.r {G : Gs} {M M' : Mem} {o : Int × Int} {v w : Int} {g : Gst} {len : Int} {b : Int → Int} (ho : o = (0, v)) (hok : GgOk g) (hC : CI G M' g len b) (hF : fC G M M') : Wp G M o.1 w g len b 0 (sL M' (G.1 + 343) 0 w) := by
  rw [ho]
  exact ⟨rfl, in32_0, fun _ => gL_eq, hC.sL hok, hF.tr fC.sL⟩
theorem Wd.r {G : Gs} {M M' : Mem} {o : Int × Int} {v : Int} {w : UInt64} {g : Gst} {len : Int} {b : Int → Int} (ho : o = (0, v)) (hok : GgOk g) (hC : CI G M' g len b) (hF : fC G M M') : Wd G M o.1 w g len b 0 (sD M' (G.1 + 344) 0 w) := by
  rw [ho]
  exact ⟨rfl, in32_0, fun _ => by rw [gD_sD, if_pos ⟨rfl, rfl⟩], hC.sD hok, hF.tr fC.sD⟩
theorem Wm.x {G : Gs} {M M' : Mem} {o : Int × Int × Ast} {v : Int} {g : Gst} {a : Ast} {len e : Int} {b : Int → Int} (ho : o = (e, 0, a)) (he : e = 1 ∨ e = 2 ∨ e = 3) (hC : CI G M' g len b) (hF : fC G M M') : Wp G M o.1 v (nxG g o) len b e M' := by
  rw [ho]
  refine ⟨rfl, by show In32 e; exact ⟨by omega, by omega⟩, fun q => by have q2 : e = 0 := q; omega, ?_, hF⟩
  unfold nxG
  rw [if_neg (by show ¬ e = 0; omega)]
  exact hC
theorem Wm.r {G : Gs} {M M' : Mem} {o : Int × Int × Ast} {v w : Int} {g : Gst} {a : Ast} {len : Int} {b : Int → Int} (ho : o = (0, v, a)) (hok : GgOk (a, (savG g).2)) (hC : CI G M' (a, (savG g).2) len b) (hF : fC G M M') : Wp G M o.1 w (nxG g o) len b 0 (sL M' (G.1 + 343) 0 w) := by
  rw [ho]
  refine ⟨rfl, in32_0, fun _ => gL_eq, ?_, hF.tr fC.sL⟩
  unfold nxG
  rw [if_pos rfl]
  exact hC.sL hok
/-- .. of the reference -/
def Rp (G : Gs) (M : Mem) (k0 v0 : Int) (g' : Gst) (len' : Int) (b' : Int → Int) : Int → Mem → Prop := fun r M' => r = v0 ∧ gI M' (G.1 + 335) 6 = k0 ∧ RI G M' g' len' b' ∧ fR G M M'
theorem fR.sI {G : Gs} {M : Mem} {k v : Int} : fR G M (sI M (G.1 + 335) k v) := fun c h => Same.sI (by omega)
theorem fR.tr {G : Gs} {M1 M2 M3 : Mem} (h : fR G M1 M2) (k : fR G M2 M3) : fR G M1 M3 := fun c p => (h c p).tr (k c p)
theorem fR.only {G : Gs} {M M' : Mem} {a b : Nat} (h : Only M M' a b) (ha : G.1 + 335 ≤ a) (hb : b ≤ G.1 + 343) : fR G M M' := fun c p => h c (by omega)
theorem RI.sI6 {G : Gs} {M : Mem} {g : Gst} {len v : Int} {b : Int → Int} (h : RI G M g len b) : RI G (sI M (G.1 + 335) 6 v) g len b := by
  obtain ⟨h1, h2, h3⟩ := h
  exact ⟨h1.only (by funext j; exact gI_ne (by omega)) (by funext j; exact gI_ne (by omega)) (gI_nk (by omega)), by rw [gI_nk (by omega)]; exact h2, fun i p q => by rw [gI_ne (by omega)]; exact h3 i p q⟩
theorem RI.gI {G : Gs} {M M' : Mem} {g : Gst} {len : Int} {b : Int → Int} (h : RI G M g len b) (e : gI M' = gI M) : RI G M' g len b := by
  obtain ⟨h1, h2, h3⟩ := h
  exact ⟨h1.only (by rw [e]) (by rw [e]) (by rw [e]), by rw [e]; exact h2, fun i p q => by rw [e]; exact h3 i p q⟩
theorem RI.mesh {G : Gs} {M M' : Mem} {g : Gst} {len : Int} {b : Int → Int} (h : RI G M g len b) (k : Only M M' (G.1 + 335 + 5) (G.1 + 335 + 7)) : RI G M' g len b := by
  obtain ⟨h1, h2, h3⟩ := h
  exact ⟨h1.only (by rw [(k (G.1 + 335 + 1) (by omega)).1]) (by rw [(k (G.1 + 335 + 2) (by omega)).1]) (by rw [(k (G.1 + 335) (by omega)).1]), by rw [(k (G.1 + 335) (by omega)).1]; exact h2, fun i p q => by rw [(k (G.1 + 335 + 4) (by omega)).1]; exact h3 i p q⟩
theorem fR.fl {G : Gs} {M M' : Mem} (h : ∀ c : Nat, c ≠ G.1 + 335 → Same M M' c) : fR G M M' := fun c p => h c (by omega)
theorem Rp.A {G : Gs} {M M' : Mem} {k0 v0 r len : Int} {g : Gst} {b : Int → Int} (hR : RI G M g len b) (h : r = v0 ∧ M' = sI M (G.1 + 335) 6 k0) : Rp G M k0 v0 g len b r M' := by
  obtain ⟨h1, rfl⟩ := h
  exact ⟨h1, gI_eq, hR.sI6, fR.sI⟩
theorem Rp.B {G : Gs} {M M' : Mem} {k0 v0 r len : Int} {g : Gst} {b : Int → Int} (hR : RI G M g len b) (h : r = v0 ∧ ∃ M1 : Mem, FL M M1 (G.1 + 335) ∧ M' = sI M1 (G.1 + 335) 6 k0) : Rp G M k0 v0 g len b r M' := by
  obtain ⟨h1, M1, h2, rfl⟩ := h
  exact ⟨h1, gI_eq, (hR.gI h2.1.1).sI6, (fR.fl h2.2).tr fR.sI⟩
theorem Rp.C {G : Gs} {M M' : Mem} {k0 v0 r len : Int} {g : Gst} {b : Int → Int} (hR : RI G M g len b) (h : r = v0 ∧ ∃ M1 : Mem, Only M M1 (G.1 + 335 + 5) (G.1 + 335 + 7) ∧ M' = sI M1 (G.1 + 335) 6 k0) : Rp G M k0 v0 g len b r M' := by
  obtain ⟨h1, M1, h2, rfl⟩ := h
  exact ⟨h1, gI_eq, (hR.mesh h2).sI6, (fR.only h2 (by omega) (by omega)).tr fR.sI⟩
theorem Rp.E {G : Gs} {M M' : Mem} {k0 v0 r len : Int} {g : Gst} {b : Int → Int} (hR : RI G M g len b) (h : r = v0 ∧ FL (sI M (G.1 + 335) 6 k0) M' (G.1 + 335)) : Rp G M k0 v0 g len b r M' := by
  obtain ⟨h1, h2⟩ := h
  exact ⟨h1, by rw [h2.1.1]; exact gI_eq, hR.sI6.gI h2.1.1, fR.sI.tr (fR.fl h2.2)⟩
theorem RI.mdf {G : Gs} {M M' : Mem} {g g' : Gst} {len : Int} {b : Int → Int} (hR : RI G M g len b) (h : MdG M' (G.1 + 335) g') (hF : MdF M M' (G.1 + 335)) : RI G M' g' len b :=
  ⟨h, by rw [hF.2.1]; exact hR.2.1, fun i p q => by rw [hF.1]; exact hR.2.2 i p q⟩
theorem Rp.D {G : Gs} {M M' : Mem} {o : Int × Int × Ast} {r len : Int} {g : Gst} {b : Int → Int} (hR : RI G M g len b) (h : r = o.2.1 ∧ gI M' (G.1 + 335) 6 = o.1 ∧ MdG M' (G.1 + 335) (if o.1 = 0 then (o.2.2, (savG g).2) else g) ∧ MdF M M' (G.1 + 335)) : Rp G M o.1 o.2.1 (nxG g o) len b r M' :=
  ⟨h.1, h.2.1, hR.mdf h.2.2.1 h.2.2.2, fR.only h.2.2.2.2.2 (by omega) (by omega)⟩
/-! .. what is then now is well-formed -/
theorem nxG_ok {g : Gst} {o : Int × Int × Ast} (hg : GgOk g) (h : o.1 = 0 → StateOk o.2.2) : GgOk (nxG g o) := by
  unfold nxG
  split
  · rename_i w
    exact ⟨h w, (savG_ok hg).2⟩
  · exact hg
theorem ok_oAddG {s : Ast} (h : StateOk s) {t m : Int} (e : (oAddG s t m).1 = 0) : StateOk (oAddG s t m).2.2 := by
  unfold oAddG at e ⊢
  split at e
  · cases e
  · split at e
    · cases e
    · rename_i w1 w2
      rw [if_neg w1, if_neg w2]
      have w3 := Decidable.of_not_not w1
      unfold isG at w3
      exact addG_ok h (by omega) (by omega) (by omega) (by omega) (by omega)
theorem ok_oRemG {s : Ast} (h : StateOk s) {ge : Int} (e : (oRemG s ge).1 = 0) : StateOk (oRemG s ge).2.2 := by
  unfold oRemG at e ⊢
  split at e
  · cases e
  · rename_i w1
    rw [if_neg w1]
    exact delG_ok h (by omega) (by omega)
theorem ok_oRemL {s : Ast} (h : StateOk s) {li : Int} (e : (oRemL s li).1 = 0) : StateOk (oRemL s li).2.2 := by
  unfold oRemL at e ⊢
  split at e
  · cases e
  · rename_i w1
    rw [if_neg w1]
    exact delL_ok h (by omega) (by omega)
theorem ok_oAddL {s : Ast} (h : StateOk s) {ge k : Int} (e : (oAddL s ge k).1 = 0) : StateOk (oAddL s ge k).2.2 := by
  unfold oAddL at e ⊢
  split at e
  · cases e
  · split at e
    · cases e
    · split at e
      · cases e
      · rename_i w1 w2 w3
        rw [if_neg w1, if_neg w2, if_neg w3]
        exact addL_ok h (by omega) (by omega) (by omega) (by omega) (by omega)
theorem ok_oSetR {s : Ast} (h : StateOk s) {g se k v : Int} (e : (oSetR s g se k v).1 = 0) : StateOk (oSetR s g se k v).2.2 := by
  unfold oSetR at e ⊢
  split at e
  · cases e
  · split at e
    · cases e
    · rename_i w1 w2
      rw [if_neg w1, if_neg w2]
      have w3 := Decidable.of_not_not w1
      have hg := h.2.2.2.2.1 g w3.1.1 w3.1.2
      refine h.gear (g := g) (q := ((s.2.2.1 g).1, (s.2.2.1 g).2.1, rdPut (s.2.2.1 g).2.2 se k v)) ⟨hg.1, hg.2.1, hg.2.2.1, hg.2.2.2.1, fun t j a1 a2 a3 a4 => ?_⟩
      show -5000 ≤ rdPut (s.2.2.1 g).2.2 se k v t j ∧ rdPut (s.2.2.1 g).2.2 se k v t j ≤ 5000
      unfold rdPut
      split
      · omega
      · exact hg.2.2.2.2 t j a1 a2 a3 a4
theorem ok_oFill {s : Ast} (h : StateOk s) {g sd sp : Int} (e : (oFill s g sd sp).1 = 0) : StateOk (oFill s g sd sp).2.2 := by
  unfold oFill at e ⊢
  split at e
  · cases e
  · split at e
    · cases e
    · rename_i w1 w2
      rw [if_neg w1, if_neg w2]
      have hg := h.2.2.2.2.1 g (by omega) (by omega)
      refine h.gear (g := g) (q := ((s.2.2.1 g).1, (s.2.2.1 g).2.1, fiV sd sp (s.2.2.1 g).1)) ⟨hg.1, hg.2.1, hg.2.2.1, hg.2.2.2.1, fun t j a1 a2 a3 a4 => ?_⟩
      have w3 := fiV_in (seed := sd) (sp := sp) (z := (s.2.2.1 g).1) (s := t) (k := j) (by omega)
      show -5000 ≤ fiV sd sp (s.2.2.1 g).1 t j ∧ fiV sd sp (s.2.2.1 g).1 t j ≤ 5000
      omega
theorem ok_oTurn {s : Ast} (h : StateOk s) {g k : Int} (e : (oTurn s g k).1 = 0) : StateOk (oTurn s g k).2.2 := by
  unfold oTurn at e ⊢
  split at e
  · cases e
  · split at e
    · cases e
    · rename_i w1 w2
      rw [if_neg w1, if_neg w2]
      have w4 : RdIn (s.2.2.1 g).1 (trF (s.2.2.1 g).1 ((s.2.2.1 g).2.2) k) := Classical.byContradiction w2
      have hg := h.2.2.2.2.1 g (by omega) (by omega)
      exact h.gear (g := g) (q := ((s.2.2.1 g).1, (s.2.2.1 g).2.1, trF (s.2.2.1 g).1 ((s.2.2.1 g).2.2) k)) ⟨hg.1, hg.2.1, hg.2.2.1, hg.2.2.2.1, fun t j a1 a2 a3 a4 => w4 t j a1 a2 a3 a4⟩
theorem ok_oAddP {s : Ast} (h : StateOk s) {i v : Int} (e : (oAddP s i v).1 = 0) : StateOk (oAddP s i v).2.2 := by
  unfold oAddP at e ⊢
  split at e
  · cases e
  · split at e
    · cases e
    · split at e
      · cases e
      · rename_i w1 w2 w3
        rw [if_neg w1, if_neg w2, if_neg w3]
        obtain ⟨a1, a2, a3, a4, a5, a6⟩ := h
        refine ⟨a1, a2, a3, a4, a5, fun k p q => ?_⟩
        show LnOk (upF s.2.2.2 i _ k) ∧ _
        have hk := a6 k p q
        by_cases z : k = i
        · subst z
          rw [show (addP s k v).2.2.2 k = ((s.2.2.2 k).1, (s.2.2.2 k).2.1, (s.2.2.2 k).2.2.1 + 1, ySet (s.2.2.2 k).2.2.2 (s.2.2.2 k).2.2.1 v) from upF_eq, upF_eq]
          obtain ⟨⟨b1, b2, b3⟩, c1, c2, c3, c4⟩ := hk
          refine ⟨⟨by show 0 ≤ (s.2.2.2 k).2.2.1 + 1; omega, by show (s.2.2.2 k).2.2.1 + 1 ≤ 12; omega, fun j p1 p2 => ?_⟩, c1, c2, c3, c4⟩
          show -5000 ≤ ySet (s.2.2.2 k).2.2.2 (s.2.2.2 k).2.2.1 v j ∧ ySet (s.2.2.2 k).2.2.2 (s.2.2.2 k).2.2.1 v j ≤ 5000
          have p3 : j < (s.2.2.2 k).2.2.1 + 1 := p2
          unfold ySet
          split
          · omega
          · exact b3 j p1 (by omega)
        · rw [show (addP s i v).2.2.2 k = s.2.2.2 k from upF_ne z, upF_ne z]
          exact hk
theorem cmF_some {a t : Ast} {q : Sq} (h : cmF a q = some t) : CmR a q (some t) := by
  unfold cmF at h
  split at h
  · rename_i hx
    have h2 := Classical.choose_spec hx
    rw [h] at h2
    exact h2
  · cases h
theorem runP_ok {b : Int → Int} {len : Int} {s : Ast} (hb : Okto b len) (hs : StateOk s) : ∀ (n : Nat) (k : Int) (t : Ast), (n : Int) ≤ len → runP b s n = (k, some t) → StateOk t
  | 0, k, t, _, h => by
    have h2 : ((0 : Int), some s) = (k, some t) := h
    cases h2
    exact hs
  | n + 1, k, t, hn, h => by
    have ih := runP_ok (s := s) hb hs n
    have h2 : (if b n = 59 then (match (runP b s n).2 with
      | none => runP b s n
      | some t => match cmF t (auS b n) with
        | none => ((runP b s n).1, none)
        | some t' => ((runP b s n).1 + 1, some t')) else runP b s n) = (k, some t) := h
    split at h2
    · rename_i w
      generalize hr : runP b s n = R at h2 ih
      obtain ⟨c, o⟩ := R
      cases o with
      | none => cases h2
      | some u =>
        have hu := ih c u (by omega) rfl
        simp only at h2
        generalize hc : cmF u (auS b n) = C at h2
        cases C with
        | none => cases h2
        | some t' =>
          cases h2
          have hcmd := cmd_at hb (e := (n : Int)) (by omega) (by omega) w
          rw [show ((n : Int)).toNat = n by omega] at hcmd
          exact (cmF_some hc).ok hu (by omega) hcmd.2.2.2.2.1
    · exact ih k t (by omega) h2
theorem paS_ok {g : Gst} {b : Int → Int} {len r : Int} {o : Option Ast} (hg : GgOk g) (hl : 0 ≤ len) (h : PaR g.1 b len r o) : GgOk (paS g o) := by
  rcases h with ⟨er, a1, a2, a3, rfl⟩ | ⟨a1, a2, rfl⟩ | ⟨a1, t, a2, rfl⟩
  · exact hg
  · exact hg
  · exact ⟨runP_ok (len := len) (by rcases a1 with ⟨_, w, _⟩ | ⟨w, _⟩ | ⟨w, _⟩; exact w; omega; omega) hg.1 len.toNat r t (by omega) a2, (savG_ok hg).2⟩
/-! the law's rows -/
def CtW (l : Launch) (G : Gs) (y : MethodName) (cc : ByteArray) (nL : Nat) (hh : List (Nat × Nat × Nat × Nat)) (rm : Room) (av : List Value) (M : Mem) (Q : Array Value → State → Outcome → State → Prop) (z w : Nat) : Prop :=
  Met l y (.codeWith y cc nL (some .int) hh :: tG) rm (PreM G M av) Q z w (Fr G)
theorem CtW.of {l : Launch} {G : Gs} {y : MethodName} {cc : ByteArray} {nL : Nat} {hh : List (Nat × Nat × Nat × Nat)} {rm : Room} {av : List Value} {M : Mem} {Q : Array Value → State → Outcome → State → Prop} {z w : Nat} (hy : plainName y.cls = true) (hn : (lg_sl av).length ≤ nL) (lv : List (Nat × Value)) (hlv : lv_args 0 av = lv)
    (body : ∀ X : Cx, Bx l G X cc nL y.cls rm (some .int) → X.2.2.2.2.2.2.2.2.2.exceptionTable.toList = tableOf hh → WM G X 0 0 (bM X Q z w G) M 0 lv []) : CtW l G y cc nL hh rm av M Q z w := by
  refine va_MetW (cc := cc) (maxL := nL) (ret := some .int) (hh := hh) hy rfl ?_
  intro p e s m args below meth c s₁ B hml hv
  obtain ⟨rfl, hP, hSt, hZ⟩ := hv
  have hts := atoms_spec (ws := .codeWith y cc nL (some .int) hh :: tG) B.pre
  have hown : s.vm.findClass y.cls = some m.cls := findClass_of_methodNamed B.named
  have htb := vx_table (x := y) B (hts _ List.mem_cons_self)
  have hl := lv_entry av (n := nL) hn
  rw [hlv] at hl
  rw [lg_entry_eq]
  subst hml
  exact body (p, l, e, (headSpec (.codeWith y cc c.maxLocals (some .int) hh :: tG) rm).room, s, m, av.toArray, below, meth, c) ⟨⟨B.exec, B.bytes, rfl, hown, fun w hw => hts w (List.mem_cons_of_mem _ hw)⟩, rfl, rfl, B.returns, B.notSynchronized, hSt, hZ⟩ htb s.heap [] _ hP va_S.rf hl
/-- the row of a table that takes what is thrown -/
abbrev HX (X : Cx) (own : String) (pc : Nat) (E : String) (P : Nat → Prop) : Prop := ∃ (pre : List ExceptionTableEntry) (x : ExceptionTableEntry) (suf : List ExceptionTableEntry), X.2.2.2.2.2.2.2.2.2.exceptionTable.toList = pre ++ x :: suf ∧ (∀ z ∈ pre, z.catchType ≠ 0 ∧ ∃ nm : String, Cond.classLink own z.catchType nm ∈ tG ∧ nm ∈ excL ∧ E ≠ nm) ∧ covers x pc = true ∧ x.catchType ≠ 0 ∧ Cond.classLink own x.catchType E ∈ tG ∧ E ∈ excL ∧ P x.handlerPc
section R
variable {l : Launch} {G : Gs} {X : Cx} {cc : ByteArray} {nL : Nat} {own : String} {rm0 : Room} {ret0 : Option FieldType} {k n : Nat} {Q : State → Prop} {M : Mem} {pc : Nat} {lv : List (Nat × Value)} {st : List Value}
theorem mk_CW (B : Bx l G X cc nL own rm0 ret0) {y : MethodName} {bytes : ByteArray} {mL z i mc ms : Nat} {hh : List (Nat × Nat × Nat × Nat)} {rm : Room} (hy : y.cls ≠ "java/lang/invoke/MethodHandle" ∧ y.cls ≠ "java/lang/invoke/VarHandle") (hd : (parseMethodDescriptor y.desc).map (fun d => d.parameters.length) = some z) (wc : Cond.codeWith y bytes mL (some .int) hh ∈ tG) (wi : Cond.initialized y.cls ∈ tG) (w : Cond.methodLink own i y ∈ tG) (ws : Cond.static y ∈ tG) (hrc : rm.cells = mc) (hrs : rm.slots = ms) (hf : rm.frames + 1 ≤ rm0.frames ∧ 8 + (mL + 11) + rm.locals ≤ rm0.locals) : vx_CSW X.2.2.2.1 X.2.2.2.2.1 X.2.2.2.2.2.2.1 own i y bytes mL (some .int) hh (.codeWith y bytes mL (some .int) hh :: tG) rm mc ms z := by
  have hts := B.1.2.2.2.2
  have hR := B.2.2.1
  refine ⟨⟨hrc, hrs, by rw [hR]; exact hf.1, by rw [hR]; exact hf.2, pay_in hts (tG_in wc), List.mem_cons_self⟩, hts _ wc, hts _ wi, hy, fun sig h => ?_, hts _ w, hts _ ws⟩
  rw [h] at hd
  exact (Option.some.inj hd).symm
/-- a call of a method with a table -/
theorem r_W (B : Bx l G X cc nL own rm0 ret0) {y : MethodName} {bytes : ByteArray} {mL z i mc ms : Nat} {hh : List (Nat × Nat × Nat × Nat)} {rm : Room} {As st0 : List Value} {post : Int → Mem → Prop} (hM : CtW l G y bytes mL hh rm As M (PoI G post) mc ms) (hM0 : rm.cells = mc ∧ rm.slots = ms) (hst : st0 = As.reverse ++ st) (hy : y.cls ≠ "java/lang/invoke/MethodHandle" ∧ y.cls ≠ "java/lang/invoke/VarHandle") (hzl : As.length = z) (hd : (parseMethodDescriptor y.desc).map (fun d => d.parameters.length) = some z) (wc : Cond.codeWith y bytes mL (some .int) hh ∈ tG) (wi : Cond.initialized y.cls ∈ tG) (w : Cond.methodLink own i y ∈ tG) (ws : Cond.static y ∈ tG) (hf : Fits rm rm0 mL st) (hL : Lft k n rm0 mc ms) (hdg : decode cc pc = .ok (.invokestatic i, 3)) (kk : ∀ (r : Int) (M' : Mem), post r M' → WM G X (k + mc) (n + ms) Q M' (pc + 3) lv (.int (iI r) :: st)) : WM G X k n Q M pc lv st0 := by
  intro H locs ls hP hS hl
  have hl2 := B.2.1
  subst hl2
  subst hst
  refine va_calli (vx_runSW (As := As) (rest := st) ⟨B.1.1, B.1.2.1, B.1.2.2.1, B.1.2.2.2.1, B.1.2.2.2.2⟩ hM (mk_CW B hy hd wc wi w ws hM0.1 hM0.2 ⟨hf.1, hf.2.1⟩) ⟨PreM.blind G M _, mk_P B hP hS⟩ rfl hzl (by rw [hl.1]; exact B.1.2.2.1) rfl (lv_room hf.2.2) hdg ⟨by rw [B.2.2.1]; exact hL.1, by rw [B.2.2.1]; exact hL.2⟩) hS (fun q _ h => h) (fun q h => h) (fun r u t H1 locs1 ht hvm hp hb hz hk hS1 => ?_)
  obtain ⟨rfl, hp⟩ := hp
  rw [ht] at hb
  exact kk u.1 u.2 hp H1 locs1 ls hb hS1 hl
theorem r_hx (B : Bx l G X cc nL own rm0 ret0) {E : String} {M' : Mem} {ce : Cell} {q9 : Addr} {H1 : Heap} {locs1 : List Loc} {ls : Array Slot} (hl : lv_has ls X.2.2.2.2.2.2.2.2.2.maxLocals lv) (hP : va_P G.2.1 vwCl (WW G M') H1) (hS1 : va_S (Fr G) X.2.2.2.2.1.heap H1 locs1) (hce : H1[q9]? = some ce) (hcv : ce.vm = .none) (hcl : X.2.2.2.2.1.vm.findClass E = some ce.cls) (hx : HX X own pc E (fun h => ∀ q : Nat, WM G X k n Q M' h lv [.ref q])) : vx_W X.1 X.2.1 X.2.2.1 X.2.2.2.1 X.2.2.2.2.1 X.2.2.2.2.2.1 X.2.2.2.2.2.2.1 X.2.2.2.2.2.2.2.1 X.2.2.2.2.2.2.2.2.1 X.2.2.2.2.2.2.2.2.2 H1 locs1 k n Q (F0 X.2.2.2.2.2.1 pc ls st) q9 := by
  obtain ⟨pre, x, suf, h1, h2, h3, h4, h5, h6, h7⟩ := hx
  have hts := B.1.2.2.2.2
  exact vx_catch (own := own) (name := E) B.1.2.2.2.1 pre x suf h1 (fun z hz => by
    obtain ⟨a1, nm, a2, a3, a4⟩ := h2 z hz
    exact Or.inr ⟨a1, nm, hts _ a2, B.2.2.2.2.2.1.2.2.2.2.1 _ h6 _ a3 a4⟩) h3 h4 (hts _ h5) (va_Nw.use rfl (B.2.2.2.2.2.1.2.2.2.1 _ h6)) hce hcv hcl (h7 q9 H1 locs1 ls hP hS1 hl)
theorem r_cVi (B : Bx l G X cc nL own rm0 ret0) {y : MethodName} {bytes : ByteArray} {mL i z mc ms : Nat} {rm : Room} {b ci N : Nat} {T : u_T} {As st0 : List Value} {post : Int → Mem → Prop} {xp' : String → Mem → Prop} (hM : CtX l G y bytes mL (some .int) rm (.ref b :: As) M (PoI G post) xp' mc ms) (hM0 : rm.cells = mc ∧ rm.slots = ms) (ok : CalOk y bytes mL (some .int) z) (hzl : As.length = z) (vi : VirOk y) (wl : Cond.methodLink own i y ∈ tG) (hb0 : At G b ci 0) (hc : vwCl[ci]? = some (y.cls, T, N)) (he : ∀ M, ent G.2.2 M b (ci, 0) = .inr (ci, flds ci b M)) (hst0 : st0 = As.reverse ++ .ref b :: st) (hf : Fits rm rm0 mL st) (hL : Lft k n rm0 mc ms) (hdg : decode cc pc = .ok (.invokevirtual i, 3)) (kx : ∀ (E : String) (M' : Mem), xp' E M' → HX X own pc E (fun h => ∀ q : Nat, WM G X (k + mc) (n + ms) Q M' h lv [.ref q])) (kk : ∀ (r : Int) (M' : Mem), post r M' → WM G X (k + mc) (n + ms) Q M' (pc + 3) lv (.int (iI r) :: st)) : WM G X k n Q M pc lv st0 := by
  intro H locs ls hP hS hl
  have hl2 := B.2.1
  subst hl2
  subst hst0
  refine vx_calli (vx_runV (As := As) (rest := st) ⟨B.1.1, B.1.2.1, B.1.2.2.1, B.1.2.2.2.1, B.1.2.2.2.2⟩ hM ⟨mk_B B ok wl hM0.1 hM0.2 ⟨hf.1, hf.2.1⟩, B.1.2.2.2.2 _ vi.1, B.1.2.2.2.2 _ vi.2⟩ ⟨PreM.blind G M _, mk_R B hP hc hb0 (he M), mk_P B hP hS⟩ rfl hzl (by rw [hl.1]; exact B.1.2.2.1) rfl (lv_room hf.2.2) hdg ⟨by rw [B.2.2.1]; exact hL.1, by rw [B.2.2.1]; exact hL.2⟩) hS (fun q _ h => h) (fun q h => h) (fun q _ h => h) (fun E ce q9 u t H1 locs1 ht hvm hp hb hz hk hS1 hce hcv hcl => ?_) (fun r u t H1 locs1 ht hvm hp hb hz hk hS1 => ?_)
  · obtain ⟨rfl, hb⟩ := hb
    rw [ht] at hb
    exact r_hx B hl hb hS1 hce hcv hcl (kx _ _ hp)
  · obtain ⟨rfl, hp⟩ := hp
    rw [ht] at hb
    exact kk u.1 u.2 hp H1 locs1 ls hb hS1 hl
theorem r_cVl (B : Bx l G X cc nL own rm0 ret0) {y : MethodName} {bytes : ByteArray} {mL i z mc ms : Nat} {rm : Room} {b ci N : Nat} {T : u_T} {As st0 : List Value} {post : Int → Mem → Prop} {xp' : String → Mem → Prop} (hM : CtX l G y bytes mL (some .long) rm (.ref b :: As) M (PoL G post) xp' mc ms) (hM0 : rm.cells = mc ∧ rm.slots = ms) (ok : CalOk y bytes mL (some .long) z) (hzl : As.length = z) (vi : VirOk y) (wl : Cond.methodLink own i y ∈ tG) (hb0 : At G b ci 0) (hc : vwCl[ci]? = some (y.cls, T, N)) (he : ∀ M, ent G.2.2 M b (ci, 0) = .inr (ci, flds ci b M)) (hst0 : st0 = As.reverse ++ .ref b :: st) (hf : Fits rm rm0 mL st) (hL : Lft k n rm0 mc ms) (hdg : decode cc pc = .ok (.invokevirtual i, 3)) (kx : ∀ (E : String) (M' : Mem), xp' E M' → HX X own pc E (fun h => ∀ q : Nat, WM G X (k + mc) (n + ms) Q M' h lv [.ref q])) (kk : ∀ (r : Int) (M' : Mem), post r M' → WM G X (k + mc) (n + ms) Q M' (pc + 3) lv (.long (lI r) :: st)) : WM G X k n Q M pc lv st0 := by
  intro H locs ls hP hS hl
  have hl2 := B.2.1
  subst hl2
  subst hst0
  refine vx_calll (vx_runV (As := As) (rest := st) ⟨B.1.1, B.1.2.1, B.1.2.2.1, B.1.2.2.2.1, B.1.2.2.2.2⟩ hM ⟨mk_B B ok wl hM0.1 hM0.2 ⟨hf.1, hf.2.1⟩, B.1.2.2.2.2 _ vi.1, B.1.2.2.2.2 _ vi.2⟩ ⟨PreM.blind G M _, mk_R B hP hc hb0 (he M), mk_P B hP hS⟩ rfl hzl (by rw [hl.1]; exact B.1.2.2.1) rfl (lv_room hf.2.2) hdg ⟨by rw [B.2.2.1]; exact hL.1, by rw [B.2.2.1]; exact hL.2⟩) hS (fun q _ h => h) (fun q h => h) (fun q _ h => h) (fun E ce q9 u t H1 locs1 ht hvm hp hb hz hk hS1 hce hcv hcl => ?_) (fun r u t H1 locs1 ht hvm hp hb hz hk hS1 => ?_)
  · obtain ⟨rfl, hb⟩ := hb
    rw [ht] at hb
    exact r_hx B hl hb hS1 hce hcv hcl (kx _ _ hp)
  · obtain ⟨rfl, hp⟩ := hp
    rw [ht] at hb
    exact kk u.1 u.2 hp H1 locs1 ls hb hS1 hl
theorem r_cVd (B : Bx l G X cc nL own rm0 ret0) {y : MethodName} {bytes : ByteArray} {mL i z mc ms : Nat} {rm : Room} {b ci N : Nat} {T : u_T} {As st0 : List Value} {post : UInt64 → Mem → Prop} {xp' : String → Mem → Prop} (hM : CtX l G y bytes mL (some .double) rm (.ref b :: As) M (PoD G post) xp' mc ms) (hM0 : rm.cells = mc ∧ rm.slots = ms) (ok : CalOk y bytes mL (some .double) z) (hzl : As.length = z) (vi : VirOk y) (wl : Cond.methodLink own i y ∈ tG) (hb0 : At G b ci 0) (hc : vwCl[ci]? = some (y.cls, T, N)) (he : ∀ M, ent G.2.2 M b (ci, 0) = .inr (ci, flds ci b M)) (hst0 : st0 = As.reverse ++ .ref b :: st) (hf : Fits rm rm0 mL st) (hL : Lft k n rm0 mc ms) (hdg : decode cc pc = .ok (.invokevirtual i, 3)) (kx : ∀ (E : String) (M' : Mem), xp' E M' → HX X own pc E (fun h => ∀ q : Nat, WM G X (k + mc) (n + ms) Q M' h lv [.ref q])) (kk : ∀ (r : UInt64) (M' : Mem), post r M' → WM G X (k + mc) (n + ms) Q M' (pc + 3) lv (.double r :: st)) : WM G X k n Q M pc lv st0 := by
  intro H locs ls hP hS hl
  have hl2 := B.2.1
  subst hl2
  subst hst0
  refine vx_calld (vx_runV (As := As) (rest := st) ⟨B.1.1, B.1.2.1, B.1.2.2.1, B.1.2.2.2.1, B.1.2.2.2.2⟩ hM ⟨mk_B B ok wl hM0.1 hM0.2 ⟨hf.1, hf.2.1⟩, B.1.2.2.2.2 _ vi.1, B.1.2.2.2.2 _ vi.2⟩ ⟨PreM.blind G M _, mk_R B hP hc hb0 (he M), mk_P B hP hS⟩ rfl hzl (by rw [hl.1]; exact B.1.2.2.1) rfl (lv_room hf.2.2) hdg ⟨by rw [B.2.2.1]; exact hL.1, by rw [B.2.2.1]; exact hL.2⟩) hS (fun q _ h => h) (fun q h => h) (fun q _ h => h) (fun E ce q9 u t H1 locs1 ht hvm hp hb hz hk hS1 hce hcv hcl => ?_) (fun r u t H1 locs1 ht hvm hp hb hz hk hS1 => ?_)
  · obtain ⟨rfl, hb⟩ := hb
    rw [ht] at hb
    exact r_hx B hl hb hS1 hce hcv hcl (kx _ _ hp)
  · skip
    rw [ht] at hb
    exact kk r u hp H1 locs1 ls hb hS1 hl
theorem r_i2lw (B : Bx l G X cc nL own rm0 ret0) {x : Int} (hdg : decode cc pc = .ok (.i2l, 1)) (kk : WM G X k n Q M (pc + 1) lv (.long (lI (xI x)) :: st)) : WM G X k n Q M pc lv (.int (iI x) :: st) := by
  rw [show iI x = iI (xI x) from (iI_of (iI x)).symm]
  exact r_i2l B hdg (in32_of _) kk
theorem r_lastore (B : Bx l G X cc nL own rm0 ret0) {a m : Nat} {i x : Int} (hdg : decode cc pc = .ok (.lastore, 1)) (ha : At G a 12 m) (h0 : 0 ≤ i) (h1 : i < m) (kk : WM G X k n Q (sL M a i x) (pc + 1) lv st) : WM G X k n Q M pc lv (.long (lI x) :: .int (iI i) :: .ref a :: st) := by
  intro H locs ls hP hS hl
  have hm := ha.small
  refine va_last B.1.1 B.1.2.1 B.2.2.2.2.2.1.1 hP WW_D hS (a - G.1) 5 (WW_get ha) rfl (iI_in h0 h1 hm) hdg (fun H1 locs1 hP1 hD1 hS1 => ?_)
  rw [WW_set (M' := sL M a i x) ha ?_ (fun b h => Same.sL h)] at hP1
  · exact kk H1 locs1 ls hP1 hS1 hl
  · show Sum.inl _ = Sum.inl _
    rw [toNat_iI h0 (by omega)]
    congr 2; congr 1; congr 1; congr 1
    funext j
    unfold vp_updL
    rw [gL_sL]
    by_cases hj : j = i.toNat
    · rw [if_pos hj, if_pos ⟨rfl, by omega⟩]
    · rw [if_neg hj, if_neg (fun q => hj (by omega))]
theorem r_dastore (B : Bx l G X cc nL own rm0 ret0) {a m : Nat} {i : Int} {x : UInt64} (hdg : decode cc pc = .ok (.dastore, 1)) (ha : At G a 13 m) (h0 : 0 ≤ i) (h1 : i < m) (kk : WM G X k n Q (sD M a i x) (pc + 1) lv st) : WM G X k n Q M pc lv (.double x :: .int (iI i) :: .ref a :: st) := by
  intro H locs ls hP hS hl
  have hm := ha.small
  refine va_dast B.1.1 B.1.2.1 B.2.2.2.2.2.1.1 hP WW_D hS (a - G.1) 6 (WW_get ha) rfl (iI_in h0 h1 hm) hdg (fun H1 locs1 hP1 hD1 hS1 => ?_)
  rw [WW_set (M' := sD M a i x) ha ?_ (fun b h => Same.sD h)] at hP1
  · exact kk H1 locs1 ls hP1 hS1 hl
  · show Sum.inl _ = Sum.inl _
    rw [toNat_iI h0 (by omega)]
    congr 2; congr 1; congr 1; congr 1; congr 1; congr 1
    funext j
    unfold vf_upd
    rw [gD_sD]
    by_cases hj : j = i.toNat
    · rw [if_pos hj, if_pos ⟨rfl, by omega⟩]
    · rw [if_neg hj, if_neg (fun q => hj (by omega))]
end R
