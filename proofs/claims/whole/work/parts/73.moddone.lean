/-! a command that is carried out, in the reference's row -/
theorem addP_addN {s : Ast} {ki k : Int} {va : Int → Int} : addP (addN s ki k va) s.2.1 (va k) = addN s ki (k + 1) va := by
  unfold addP addN
  simp only [upF_eq, ySet_same, Prod.mk.injEq, true_and]
  funext j
  unfold upF
  by_cases w : j = s.2.1
  · rw [if_pos w, if_pos w]
  · rw [if_neg w, if_neg w, if_neg w]
theorem RowS.w_addN0 {f : Int → Int} {s : Ast} {ki : Int} {va : Int → Int} (h : RowS f (addL s (s.1 - 1) ki)) : RowS f (addN s ki 0 va) := by
  obtain ⟨a1, a2, a3, a4⟩ := h
  refine ⟨a1, a2, a3, fun i p q => ?_⟩
  have c := a4 i p q
  by_cases w : i = s.2.1
  · rw [show (addL s (s.1 - 1) ki).2.2.2 i = (s.1 - 1, ki, 0, fun _ => 0) by rw [w]; exact upF_eq] at c
    rw [show (addN s ki 0 va).2.2.2 i = (s.1 - 1, ki, 0, va) by rw [w]; exact upF_eq]
    exact ⟨c.1, c.2.1, c.2.2.1, fun k k0 k1 => by have k1' : k < 0 := k1; omega⟩
  · rw [show (addL s (s.1 - 1) ki).2.2.2 i = s.2.2.2 i from upF_ne w] at c
    rw [show (addN s ki 0 va).2.2.2 i = s.2.2.2 i from upF_ne w]
    exact c
theorem addN_okk {s : Ast} {ki k : Int} {va : Int → Int} (hok : StateOk s) (h1 : 1 ≤ s.1) (h3 : s.2.1 < 10) (hk0 : 0 ≤ ki) (hk1 : ki ≤ 1) (k0 : 0 ≤ k) (k1 : k ≤ 12) (hv : inRg k va) : StateOk (addN s ki k va) := addN_ok hok h1 hv h3 k0 k1 hk0 hk1
theorem RowS.w_setS {f g : Int → Int} {s : Ast} {se : Int} {va : Int → Int} (h : RowS f s) (hok : StateOk s) (h1 : 1 ≤ s.1) (e1 : ∀ k : Int, 0 ≤ k → k < szS (s.2.2.1 (s.1 - 1)).1 se → g (1 + 95 * (s.1 - 1) + 2 + 31 * se + k) = va k) (e2 : ∀ k : Int, (k < 1 + 95 * (s.1 - 1) + 2 + 31 * se ∨ 1 + 95 * (s.1 - 1) + 2 + 31 * se + 31 ≤ k) → g k = f k) (s0 : 0 ≤ se) (s1 : se < 3) : RowS g (setS s se va) := by
  have hc := h.2.2.1 (s.1 - 1) (by omega) (by omega)
  have hz := (hok.2.2.2.2.1 (s.1 - 1) (by omega) (by omega)).2.1
  refine RowS.w_putG (rd := rdSet (s.2.2.1 (s.1 - 1)).2.2 se va) h hok (i := s.1 - 1) (by omega) (by omega) (fun t k t0 t1 k0 k1 => ?_) (fun k p q w => e2 k (by omega))
  have hs := szS_30 (z := (s.2.2.1 (s.1 - 1)).1) (t := t) hz
  show _ = if t = se then va k else (s.2.2.1 (s.1 - 1)).2.2 t k
  by_cases w : t = se
  · rw [if_pos w, w]
    exact e1 k k0 (by rw [← w]; exact k1)
  · rw [if_neg w, e2 _ (by omega)]
    exact hc.2.2 t k t0 t1 k0 k1
