/-! what changes the state: one gear, one line, now, the whole -/
theorem StateIs.gear {M M' : Mem} {S : Nat} {s : Ast} {g : Int} {q : Gr} (h : StateIs M S s) (hok : StateOk s) (g0 : 0 ≤ g) (g1 : g < s.1) (hG : GrIs M' (gP M (S + 1) g) q) (hF : Only M M' (gP M (S + 1) g) (gP M (S + 1) g + 5)) : StateIs M' S (s.1, s.2.1, upF s.2.2.1 g q, s.2.2.2) := by
  have h6 := hok.2.1
  have h10 := hok.2.2.2.1
  obtain ⟨a1, a2, a3, a4, a5, a6⟩ := h
  have hb := a3.in g0 (show g < 6 by omega)
  have e0 := hF S (by omega)
  have e1 := (hF (S + 1) (by omega)).2.2.2
  have e2 := (hF (S + 2) (by omega)).2.2.2
  refine ⟨by rw [e0.1]; exact a1, by rw [e0.1]; exact a2, a3.kept e1, a4.kept e2, fun k p w => ?_, fun k p w => ?_⟩
  · rw [e1]
    show GrIs M' (gP M (S + 1) k) (upF s.2.2.1 g q k)
    by_cases z : k = g
    · rw [z, upF_eq]; exact hG
    · rw [upF_ne z]
      have w2 : k < s.1 := w
      have b2 := a3.in p (show k < 6 by omega)
      have b3 := a3.apart p (show k < 6 by omega) g0 (show g < 6 by omega) z
      exact (a5 k p w2).kept (fun c q1 q2 => hF c (by omega))
  · rw [e2]
    have w2 : k < s.2.1 := w
    have b2 := a4.in p (show k < 10 by omega)
    exact (a6 k p w2).kept (fun c q1 q2 => hF c (by omega))
theorem StateIs.line {M M' : Mem} {S : Nat} {s : Ast} {i : Int} {q : Ln} (h : StateIs M S s) (hok : StateOk s) (i0 : 0 ≤ i) (i1 : i < s.2.1) (hG : LnIs M' (gP M (S + 2) i) q) (hF : Only M M' (gP M (S + 2) i) (gP M (S + 2) i + 2)) : StateIs M' S (s.1, s.2.1, s.2.2.1, upF s.2.2.2 i q) := by
  have h6 := hok.2.1
  have h10 := hok.2.2.2.1
  obtain ⟨a1, a2, a3, a4, a5, a6⟩ := h
  have hb := a4.in i0 (show i < 10 by omega)
  have e0 := hF S (by omega)
  have e1 := (hF (S + 1) (by omega)).2.2.2
  have e2 := (hF (S + 2) (by omega)).2.2.2
  refine ⟨by rw [e0.1]; exact a1, by rw [e0.1]; exact a2, a3.kept e1, a4.kept e2, fun k p w => ?_, fun k p w => ?_⟩
  · rw [e1]
    have w2 : k < s.1 := w
    have b2 := a3.in p (show k < 6 by omega)
    exact (a5 k p w2).kept (fun c q1 q2 => hF c (by omega))
  · rw [e2]
    show LnIs M' (gP M (S + 2) k) (upF s.2.2.2 i q k)
    by_cases z : k = i
    · rw [z, upF_eq]; exact hG
    · rw [upF_ne z]
      have w2 : k < s.2.1 := w
      have b2 := a4.in p (show k < 10 by omega)
      have b3 := a4.apart p (show k < 10 by omega) i0 (show i < 10 by omega) z
      exact (a6 k p w2).kept (fun c q1 q2 => hF c (by omega))
theorem StateOk.gear {s : Ast} {g : Int} {q : Gr} (h : StateOk s) (hq : GrOk q) : StateOk (s.1, s.2.1, upF s.2.2.1 g q, s.2.2.2) := by
  obtain ⟨a1, a2, a3, a4, a5, a6⟩ := h
  refine ⟨a1, a2, a3, a4, fun k p w => ?_, a6⟩
  show GrOk (upF s.2.2.1 g q k)
  by_cases z : k = g
  · rw [z, upF_eq]; exact hq
  · rw [upF_ne z]; exact a5 k p w
theorem savG_1 (s : Gst) : (savG s).1 = s.1 := by
  unfold savG
  split <;> rfl
/-- now alone is written -/
theorem GgIs.now {M M' : Mem} {N : Nat} {s : Gst} {a' : Ast} (h : GgIs M N s) (hok : GgOk s) (hS : StateIs M' (N + 1) a') (hF : Only M M' (N + 1) (N + 54)) : GgIs M' N (a', s.2) := by
  obtain ⟨h1, h2, h3, h4, h5, h6, h7⟩ := h
  have eP := (hF (N + 107) (by omega)).2.2.2
  refine ⟨hS, by rw [(hF N (by omega)).1]; exact h2, h3.kept eP, fun j hj => ⟨(h4 j hj).1.kept (hF (N + 108 + 53 * j + 1) (by omega)).2.2.2, (h4 j hj).2.kept (hF (N + 108 + 53 * j + 2) (by omega)).2.2.2⟩, fun i p q => ?_, h6.kept (hF (N + 55) (by omega)).2.2.2, h7.kept (hF (N + 56) (by omega)).2.2.2⟩
  show StateIs M' (gP M' (N + 107) i) (s.2.2 i)
  rw [eP]
  have q4 : i < 4 := by have := hok.2.2.1; have q2 : i < s.2.1 := q; omega
  have hi := RowS.in h3 p q4
  exact (h5 i p q).kept (hok.2.2.2 i p q) (fun c p q => hF c (by omega))
/-- what no change of the gauge's state touches -/
def Fg (M M' : Mem) (N : Nat) : Prop := ∀ c : Nat, (c < N ∨ (N + 320 ≤ c ∧ c < N + 323) ∨ N + 335 ≤ c) → Same M M' c
theorem Fg.rf {M : Mem} {N : Nat} : Fg M M N := fun c _ => Same.rf M c
theorem Fg.tr {M1 M2 M3 : Mem} {N : Nat} (h : Fg M1 M2 N) (k : Fg M2 M3 N) : Fg M1 M3 N := fun c p => (h c p).tr (k c p)
theorem SvO.fg {M M' : Mem} {N : Nat} (h : SvO M M' N) : Fg M M' N := fun c p => h c (by omega) (by omega)
theorem Only.fg {M M' : Mem} {N a b : Nat} (h : Only M M' a b) (ha : N ≤ a) (hb : b ≤ N + 320 ∨ (N + 323 ≤ a ∧ b ≤ N + 335)) : Fg M M' N := fun c p => h c (by omega)
theorem TxB.fg {M M' : Mem} {N : Nat} {len : Int} {b : Int → Int} (h : TxB M (N + 320) len b) (k : Fg M M' N) : TxB M' (N + 320) len b := ⟨by rw [(k (N + 320) (by omega)).1]; exact h.1, fun i p q => by rw [(k (N + 320 + 1) (by omega)).1]; exact h.2 i p q⟩
theorem GgIs.save2 {M M1 M2 : Mem} {N : Nat} {s : Gst} {a' : Ast} (h : GgIs M1 N (savG s)) (hok : GgOk s) (hf : SvO M M1 N) (hS : StateIs M2 (N + 1) a') (hF : Only M1 M2 (N + 1) (N + 54)) : GgIs M2 N (a', (savG s).2) ∧ Fg M M2 N := ⟨h.now (savG_ok hok) hS hF, hf.fg.tr (hF.fg (by omega) (by omega))⟩
/-- an empty line, or whatever the state's own is -/
theorem StateIs.sav {M : Mem} {N : Nat} {s : Gst} (h : GgIs M N (savG s)) : StateIs M (N + 1) s.1 := by
  have w := h.1
  rw [savG_1] at w
  exact w
theorem trF_in {z m : Int} {rd : Int → Int → Int} (h : GearOk z m rd) {k : Int} (k0 : 0 ≤ k) (k1 : k < z) {s i : Int} (s0 : 0 ≤ s) (s1 : s < 3) (i0 : 0 ≤ i) (i1 : i < szS z s) : -20000 ≤ trF z rd k s i ∧ trF z rd k s i ≤ 20000 := by
  obtain ⟨h1, h2, h3, h4, h5⟩ := h
  have hz : szS z s = if s = 2 then z else z + 1 := rfl
  unfold trF
  by_cases w : z ≤ k + i
  · rw [if_pos w]
    have a1 := h5 s (k + i - z) s0 s1 (by omega) (by rw [hz]; split at hz <;> omega)
    by_cases w2 : s = 2
    · rw [if_pos w2]; omega
    · rw [if_neg w2]
      have a2 := h5 s z s0 s1 (by omega) (by rw [hz, if_neg w2]; omega)
      have a3 := h5 s 0 s0 s1 (by omega) (by rw [hz, if_neg w2]; omega)
      omega
  · rw [if_neg w]
    have a1 := h5 s (k + i) s0 s1 (by omega) (by rw [hz]; split <;> omega)
    omega
