/-! what the reference writes -/
def SvR (f : Int → Int) (c : Int) (sv : Int → Ast) : Prop := ∀ i : Int, 0 ≤ i → i < c → RowS (fun k => f (722 * i + k)) (sv i)
def MdG (M : Mem) (m : Nat) (g : Gst) : Prop := MdS M m g.1 ∧ gI M m 3 = g.2.1 ∧ SvR (gI M (m + 2)) g.2.1 g.2.2
def MdF (M M' : Mem) (m : Nat) : Prop := gI M' (m + 4) = gI M (m + 4) ∧ gI M' m 5 = gI M m 5 ∧ Only M M' m (m + 8)
theorem MdF.rf {M : Mem} {m : Nat} : MdF M M m := ⟨rfl, rfl, Only.rf⟩
theorem MdF.tr {M1 M2 M3 : Mem} {m : Nat} (h : MdF M1 M2 m) (k : MdF M2 M3 m) : MdF M1 M3 m := ⟨k.1.trans h.1, k.2.1.trans h.2.1, h.2.2.tr k.2.2⟩
theorem SvR.congr {f g : Int → Int} {c : Int} {sv : Int → Ast} (h : SvR f c sv) (hok : ∀ i : Int, 0 ≤ i → i < c → StateOk (sv i)) (e : ∀ k : Int, 0 ≤ k → k < 722 * c → g k = f k) : SvR g c sv := fun i a b => (h i a b).congr (hok i a b) (fun k k0 k1 => e _ (by omega) (by omega))
/-- only the cell c's numbers change, the rows beside stay -/
theorem MdG.only {M M' : Mem} {m : Nat} {g : Gst} (h : MdG M m g) (e1 : gI M' (m + 1) = gI M (m + 1)) (e2 : gI M' (m + 2) = gI M (m + 2)) (e3 : gI M' m 3 = gI M m 3) : MdG M' m g := by
  obtain ⟨a, b, c⟩ := h
  refine ⟨?_, by rw [e3]; exact b, by rw [e2]; exact c⟩
  unfold MdS
  rw [e1]
  exact a
theorem SvR.shift {f g : Int → Int} {sv : Int → Ast} (h : SvR f 4 sv) (hok : ∀ i : Int, 0 ≤ i → i < 4 → StateOk (sv i)) (e : ∀ k : Int, 0 ≤ k → k < 2166 → g k = f (k + 722)) : SvR g 3 (fun i => sv (i + 1)) := fun i a b => by
  refine (h (i + 1) (by omega) (by omega)).congr (hok (i + 1) (by omega) (by omega)) (fun k k0 k1 => ?_)
  show g (722 * i + k) = f (722 * (i + 1) + k)
  rw [e _ (by omega) (by omega), show 722 * i + k + 722 = 722 * (i + 1) + k by omega]
theorem SvR.push {f g : Int → Int} {c : Int} {sv : Int → Ast} {s : Ast} {A : Int → Int} (h : SvR f c sv) (hok : ∀ i : Int, 0 ≤ i → i < c → StateOk (sv i)) (hs : RowS A s) (hs2 : StateOk s) (e : ∀ k : Int, 0 ≤ k → k < 722 * c → g k = f k) (e2 : ∀ k : Int, 0 ≤ k → k < 722 → g (722 * c + k) = A k) : SvR g (c + 1) (upF sv c s) := fun i a b => by
  by_cases w : i = c
  · rw [w, upF_eq]
    exact hs.congr hs2 (fun k k0 k1 => e2 k k0 k1)
  · rw [upF_ne w]
    exact (h i a (by omega)).congr (hok i a (by omega)) (fun k k0 k1 => e _ (by omega) (by omega))
theorem szS_30 {z t : Int} (h : z ≤ 30) : szS z t ≤ 31 := by
  have := szS_le z t
  omega
theorem RowS.w_addG {f g : Int → Int} {s : Ast} {t m : Int} (h : RowS f s) (hok : StateOk s) (hn : s.1 < 6) (ht : t ≤ 30) (e0 : g 0 = s.1 + 1) (e1 : g (1 + 95 * s.1) = t) (e2 : g (1 + 95 * s.1 + 1) = m) (e3 : ∀ k : Int, 1 + 95 * s.1 + 2 ≤ k → k < 1 + 95 * s.1 + 95 → g k = 0) (e4 : ∀ k : Int, 0 < k → k < 722 → (k < 1 + 95 * s.1 ∨ 1 + 95 * s.1 + 95 ≤ k) → g k = f k) : RowS g (addG s t m) := by
  obtain ⟨a1, a2, a3, a4⟩ := h
  obtain ⟨b1, b2, b3, b4, b5, b6⟩ := hok
  refine ⟨e0, by rw [e4 571 (by omega) (by omega) (by omega)]; exact a2, fun i p q => ?_, fun i p q => ?_⟩
  · have q' : i < s.1 + 1 := q
    show g (1 + 95 * i) = (upF s.2.2.1 s.1 (t, m, fun _ _ => 0) i).1 ∧ g (1 + 95 * i + 1) = (upF s.2.2.1 s.1 (t, m, fun _ _ => 0) i).2.1 ∧ ∀ u k : Int, 0 ≤ u → u < 3 → 0 ≤ k → k < szS (upF s.2.2.1 s.1 (t, m, fun _ _ => 0) i).1 u → g (1 + 95 * i + 2 + 31 * u + k) = (upF s.2.2.1 s.1 (t, m, fun _ _ => 0) i).2.2 u k
    by_cases w : i = s.1
    · rw [w, upF_eq]
      refine ⟨e1, e2, fun u k u0 u1 k0 k1 => ?_⟩
      have hz := szS_30 (z := t) (t := u) ht
      have k1' : k < szS t u := k1
      exact e3 _ (by omega) (by omega)
    · rw [upF_ne w]
      have c := a3 i p (by omega)
      have d := b5 i p (by omega)
      have d2 := d.2.1
      refine ⟨by rw [e4 _ (by omega) (by omega) (by omega)]; exact c.1, by rw [e4 _ (by omega) (by omega) (by omega)]; exact c.2.1, fun u k u0 u1 k0 k1 => ?_⟩
      have hz := szS_30 (z := (s.2.2.1 i).1) (t := u) d2
      rw [e4 _ (by omega) (by omega) (by omega)]
      exact c.2.2 u k u0 u1 k0 k1
  · have c := a4 i p q
    have q' : i < s.2.1 := q
    have d := (b6 i p q).1.2.1
    refine ⟨by rw [e4 _ (by omega) (by omega) (by omega)]; exact c.1, by rw [e4 _ (by omega) (by omega) (by omega)]; exact c.2.1, by rw [e4 _ (by omega) (by omega) (by omega)]; exact c.2.2.1, fun k k0 k1 => ?_⟩
    have k1' : k < (s.2.2.2 i).2.2.1 := k1
    rw [e4 _ (by omega) (by omega) (by omega)]
    exact c.2.2.2 k k0 k1
/-- one gear's readings are others -/
theorem RowS.w_putG {f g : Int → Int} {s : Ast} {i : Int} {rd : Int → Int → Int} (h : RowS f s) (hok : StateOk s) (i0 : 0 ≤ i) (i1 : i < s.1) (e1 : ∀ t k : Int, 0 ≤ t → t < 3 → 0 ≤ k → k < szS (s.2.2.1 i).1 t → g (1 + 95 * i + 2 + 31 * t + k) = rd t k) (e2 : ∀ k : Int, 0 ≤ k → k < 722 → (k < 1 + 95 * i + 2 ∨ 1 + 95 * i + 95 ≤ k) → g k = f k) : RowS g (putG s i rd) := by
  obtain ⟨a1, a2, a3, a4⟩ := h
  obtain ⟨b1, b2, b3, b4, b5, b6⟩ := hok
  refine ⟨by rw [e2 0 (by omega) (by omega) (by omega)]; exact a1, by rw [e2 571 (by omega) (by omega) (by omega)]; exact a2, fun j p q => ?_, fun j p q => ?_⟩
  · have q' : j < s.1 := q
    show g (1 + 95 * j) = (upF s.2.2.1 i ((s.2.2.1 i).1, (s.2.2.1 i).2.1, rd) j).1 ∧ g (1 + 95 * j + 1) = (upF s.2.2.1 i ((s.2.2.1 i).1, (s.2.2.1 i).2.1, rd) j).2.1 ∧ ∀ u k : Int, 0 ≤ u → u < 3 → 0 ≤ k → k < szS (upF s.2.2.1 i ((s.2.2.1 i).1, (s.2.2.1 i).2.1, rd) j).1 u → g (1 + 95 * j + 2 + 31 * u + k) = (upF s.2.2.1 i ((s.2.2.1 i).1, (s.2.2.1 i).2.1, rd) j).2.2 u k
    by_cases w : j = i
    · rw [w, upF_eq]
      have c := a3 i i0 i1
      exact ⟨by rw [e2 _ (by omega) (by omega) (by omega)]; exact c.1, by rw [e2 _ (by omega) (by omega) (by omega)]; exact c.2.1, e1⟩
    · rw [upF_ne w]
      have c := a3 j p q'
      have d2 := (b5 j p q').2.1
      refine ⟨by rw [e2 _ (by omega) (by omega) (by omega)]; exact c.1, by rw [e2 _ (by omega) (by omega) (by omega)]; exact c.2.1, fun u k u0 u1 k0 k1 => ?_⟩
      have hz := szS_30 (z := (s.2.2.1 j).1) (t := u) d2
      rw [e2 _ (by omega) (by omega) (by omega)]
      exact c.2.2 u k u0 u1 k0 k1
  · have c := a4 j p q
    have q' : j < s.2.1 := q
    have d := (b6 j p q).1.2.1
    refine ⟨by rw [e2 _ (by omega) (by omega) (by omega)]; exact c.1, by rw [e2 _ (by omega) (by omega) (by omega)]; exact c.2.1, by rw [e2 _ (by omega) (by omega) (by omega)]; exact c.2.2.1, fun k k0 k1 => ?_⟩
    have k1' : k < (s.2.2.2 j).2.2.1 := k1
    rw [e2 _ (by omega) (by omega) (by omega)]
    exact c.2.2.2 k k0 k1
theorem RowS.w_addL {f g : Int → Int} {s : Ast} {u v : Int} (h : RowS f s) (hok : StateOk s) (hn : s.2.1 < 10) (e0 : g 571 = s.2.1 + 1) (e1 : g (572 + 15 * s.2.1) = u) (e2 : g (572 + 15 * s.2.1 + 1) = v) (e3 : g (572 + 15 * s.2.1 + 2) = 0) (e4 : ∀ k : Int, 0 ≤ k → k < 722 → k ≠ 571 → (k < 572 + 15 * s.2.1 ∨ 572 + 15 * s.2.1 + 3 ≤ k) → g k = f k) : RowS g (addL s u v) := by
  obtain ⟨a1, a2, a3, a4⟩ := h
  obtain ⟨b1, b2, b3, b4, b5, b6⟩ := hok
  refine ⟨by rw [e4 0 (by omega) (by omega) (by omega) (by omega)]; exact a1, e0, fun i p q => ?_, fun i p q => ?_⟩
  · have q' : i < s.1 := q
    have c := a3 i p q
    have d2 := (b5 i p q).2.1
    refine ⟨by rw [e4 _ (by omega) (by omega) (by omega) (by omega)]; exact c.1, by rw [e4 _ (by omega) (by omega) (by omega) (by omega)]; exact c.2.1, fun w k u0 u1 k0 k1 => ?_⟩
    have hz := szS_30 (z := (s.2.2.1 i).1) (t := w) d2
    have k1' : k < szS (s.2.2.1 i).1 w := k1
    rw [e4 _ (by omega) (by omega) (by omega) (by omega)]
    exact c.2.2 w k u0 u1 k0 k1
  · have q' : i < s.2.1 + 1 := q
    show g (572 + 15 * i + 0) = (upF s.2.2.2 s.2.1 (u, v, 0, fun _ => 0) i).1 ∧ g (572 + 15 * i + 1) = (upF s.2.2.2 s.2.1 (u, v, 0, fun _ => 0) i).2.1 ∧ g (572 + 15 * i + 2) = (upF s.2.2.2 s.2.1 (u, v, 0, fun _ => 0) i).2.2.1 ∧ ∀ k : Int, 0 ≤ k → k < (upF s.2.2.2 s.2.1 (u, v, 0, fun _ => 0) i).2.2.1 → g (572 + 15 * i + (3 + k)) = (upF s.2.2.2 s.2.1 (u, v, 0, fun _ => 0) i).2.2.2 k
    by_cases w : i = s.2.1
    · rw [w, upF_eq]
      exact ⟨by rw [show 572 + 15 * s.2.1 + 0 = 572 + 15 * s.2.1 by omega]; exact e1, e2, e3, fun k k0 k1 => by have k1' : k < 0 := k1; omega⟩
    · rw [upF_ne w]
      have c := a4 i p (by omega)
      have d := (b6 i p (by omega)).1.2.1
      refine ⟨by rw [e4 _ (by omega) (by omega) (by omega) (by omega)]; exact c.1, by rw [e4 _ (by omega) (by omega) (by omega) (by omega)]; exact c.2.1, by rw [e4 _ (by omega) (by omega) (by omega) (by omega)]; exact c.2.2.1, fun k k0 k1 => ?_⟩
      rw [e4 _ (by omega) (by omega) (by omega) (by omega)]
      exact c.2.2.2 k k0 k1
theorem RowS.w_addP {f g : Int → Int} {s : Ast} {l v : Int} (h : RowS f s) (hok : StateOk s) (l0 : 0 ≤ l) (l1 : l < s.2.1) (hn : (s.2.2.2 l).2.2.1 < 12) (e1 : g (572 + 15 * l + 2) = (s.2.2.2 l).2.2.1 + 1) (e2 : g (572 + 15 * l + 3 + (s.2.2.2 l).2.2.1) = v) (e3 : ∀ k : Int, 0 ≤ k → k < 722 → k ≠ 572 + 15 * l + 2 → k ≠ 572 + 15 * l + 3 + (s.2.2.2 l).2.2.1 → g k = f k) : RowS g (addP s l v) := by
  obtain ⟨a1, a2, a3, a4⟩ := h
  obtain ⟨b1, b2, b3, b4, b5, b6⟩ := hok
  have hl := (b6 l l0 l1).1
  have hl0 := hl.1
  refine ⟨by rw [e3 0 (by omega) (by omega) (by omega) (by omega)]; exact a1, by rw [e3 571 (by omega) (by omega) (by omega) (by omega)]; exact a2, fun i p q => ?_, fun i p q => ?_⟩
  · have q' : i < s.1 := q
    have c := a3 i p q
    have d2 := (b5 i p q).2.1
    refine ⟨by rw [e3 _ (by omega) (by omega) (by omega) (by omega)]; exact c.1, by rw [e3 _ (by omega) (by omega) (by omega) (by omega)]; exact c.2.1, fun w k u0 u1 k0 k1 => ?_⟩
    have hz := szS_30 (z := (s.2.2.1 i).1) (t := w) d2
    have k1' : k < szS (s.2.2.1 i).1 w := k1
    rw [e3 _ (by omega) (by omega) (by omega) (by omega)]
    exact c.2.2 w k u0 u1 k0 k1
  · have q' : i < s.2.1 := q
    have c := a4 i p q'
    have d := (b6 i p q').1.2.1
    show g (572 + 15 * i + 0) = (upF s.2.2.2 l ((s.2.2.2 l).1, (s.2.2.2 l).2.1, (s.2.2.2 l).2.2.1 + 1, ySet (s.2.2.2 l).2.2.2 (s.2.2.2 l).2.2.1 v) i).1 ∧ g (572 + 15 * i + 1) = (upF s.2.2.2 l ((s.2.2.2 l).1, (s.2.2.2 l).2.1, (s.2.2.2 l).2.2.1 + 1, ySet (s.2.2.2 l).2.2.2 (s.2.2.2 l).2.2.1 v) i).2.1 ∧ g (572 + 15 * i + 2) = (upF s.2.2.2 l ((s.2.2.2 l).1, (s.2.2.2 l).2.1, (s.2.2.2 l).2.2.1 + 1, ySet (s.2.2.2 l).2.2.2 (s.2.2.2 l).2.2.1 v) i).2.2.1 ∧ ∀ k : Int, 0 ≤ k → k < (upF s.2.2.2 l ((s.2.2.2 l).1, (s.2.2.2 l).2.1, (s.2.2.2 l).2.2.1 + 1, ySet (s.2.2.2 l).2.2.2 (s.2.2.2 l).2.2.1 v) i).2.2.1 → g (572 + 15 * i + (3 + k)) = (upF s.2.2.2 l ((s.2.2.2 l).1, (s.2.2.2 l).2.1, (s.2.2.2 l).2.2.1 + 1, ySet (s.2.2.2 l).2.2.2 (s.2.2.2 l).2.2.1 v) i).2.2.2 k
    by_cases w : i = l
    · rw [w] at c d ⊢
      rw [upF_eq]
      refine ⟨by rw [e3 _ (by omega) (by omega) (by omega) (by omega)]; exact c.1, by rw [e3 _ (by omega) (by omega) (by omega) (by omega)]; exact c.2.1, e1, fun k k0 k1 => ?_⟩
      have k1' : k < (s.2.2.2 l).2.2.1 + 1 := k1
      show g (572 + 15 * l + (3 + k)) = if k = (s.2.2.2 l).2.2.1 then v else (s.2.2.2 l).2.2.2 k
      by_cases z : k = (s.2.2.2 l).2.2.1
      · rw [if_pos z, z, show 572 + 15 * l + (3 + (s.2.2.2 l).2.2.1) = 572 + 15 * l + 3 + (s.2.2.2 l).2.2.1 by omega]
        exact e2
      · rw [if_neg z, e3 _ (by omega) (by omega) (by omega) (by omega)]
        exact c.2.2.2 k k0 (by omega)
    · rw [upF_ne w]
      refine ⟨by rw [e3 _ (by omega) (by omega) (by omega) (by omega)]; exact c.1, by rw [e3 _ (by omega) (by omega) (by omega) (by omega)]; exact c.2.1, by rw [e3 _ (by omega) (by omega) (by omega) (by omega)]; exact c.2.2.1, fun k k0 k1 => ?_⟩
      rw [e3 _ (by omega) (by omega) (by omega) (by omega)]
      exact c.2.2.2 k k0 k1
theorem RowS.w_delL {f g : Int → Int} {s : Ast} {l : Int} (h : RowS f s) (hok : StateOk s) (l0 : 0 ≤ l) (l1 : l < s.2.1) (e0 : g 571 = s.2.1 - 1) (e1 : ∀ k : Int, 572 + 15 * l ≤ k → k < 572 + 15 * (s.2.1 - 1) → g k = f (k + 15)) (e2 : ∀ k : Int, 0 ≤ k → k < 572 + 15 * l → k ≠ 571 → g k = f k) : RowS g (delL s l) := by
  obtain ⟨a1, a2, a3, a4⟩ := h
  obtain ⟨b1, b2, b3, b4, b5, b6⟩ := hok
  refine ⟨by rw [e2 0 (by omega) (by omega) (by omega)]; exact a1, e0, fun i p q => ?_, fun i p q => ?_⟩
  · have q' : i < s.1 := q
    have c := a3 i p q
    have d2 := (b5 i p q).2.1
    refine ⟨by rw [e2 _ (by omega) (by omega) (by omega)]; exact c.1, by rw [e2 _ (by omega) (by omega) (by omega)]; exact c.2.1, fun w k u0 u1 k0 k1 => ?_⟩
    have hz := szS_30 (z := (s.2.2.1 i).1) (t := w) d2
    have k1' : k < szS (s.2.2.1 i).1 w := k1
    rw [e2 _ (by omega) (by omega) (by omega)]
    exact c.2.2 w k u0 u1 k0 k1
  · have q' : i < s.2.1 - 1 := q
    by_cases w : i < l
    · have c := a4 i p (by omega)
      have d := (b6 i p (by omega)).1.2.1
      rw [show (delL s l).2.2.2 i = s.2.2.2 i from rmF_lt w]
      refine ⟨by rw [e2 _ (by omega) (by omega) (by omega)]; exact c.1, by rw [e2 _ (by omega) (by omega) (by omega)]; exact c.2.1, by rw [e2 _ (by omega) (by omega) (by omega)]; exact c.2.2.1, fun k k0 k1 => ?_⟩
      rw [e2 _ (by omega) (by omega) (by omega)]
      exact c.2.2.2 k k0 k1
    · have c := a4 (i + 1) (by omega) (by omega)
      have d := (b6 (i + 1) (by omega) (by omega)).1.2.1
      rw [show (delL s l).2.2.2 i = s.2.2.2 (i + 1) from rmF_ge (by omega)]
      refine ⟨?_, ?_, ?_, fun k k0 k1 => ?_⟩
      · rw [e1 _ (by omega) (by omega), show 572 + 15 * i + 0 + 15 = 572 + 15 * (i + 1) + 0 by omega]; exact c.1
      · rw [e1 _ (by omega) (by omega), show 572 + 15 * i + 1 + 15 = 572 + 15 * (i + 1) + 1 by omega]; exact c.2.1
      · rw [e1 _ (by omega) (by omega), show 572 + 15 * i + 2 + 15 = 572 + 15 * (i + 1) + 2 by omega]; exact c.2.2.1
      · rw [e1 _ (by omega) (by omega), show 572 + 15 * i + (3 + k) + 15 = 572 + 15 * (i + 1) + (3 + k) by omega]; exact c.2.2.2 k k0 k1
/-- the lines name their gears anew, up to n -/
theorem RowS.w_decP {f g : Int → Int} {s : Ast} {ge n : Int} (h : RowS f (decP ge n s)) (hok : StateOk s) (n0 : 0 ≤ n) (n1 : n < s.2.1) (e1 : g (572 + 15 * n) = (decL ge (s.2.2.2 n)).1) (e2 : ∀ k : Int, 0 ≤ k → k < 722 → k ≠ 572 + 15 * n → g k = f k) : RowS g (decP ge (n + 1) s) := by
  obtain ⟨a1, a2, a3, a4⟩ := h
  obtain ⟨b1, b2, b3, b4, b5, b6⟩ := hok
  refine ⟨by rw [e2 0 (by omega) (by omega) (by omega)]; exact a1, by rw [e2 571 (by omega) (by omega) (by omega)]; exact a2, fun i p q => ?_, fun i p q => ?_⟩
  · have q' : i < s.1 := q
    have c := a3 i p q
    have d2 := (b5 i p q).2.1
    refine ⟨by rw [e2 _ (by omega) (by omega) (by omega)]; exact c.1, by rw [e2 _ (by omega) (by omega) (by omega)]; exact c.2.1, fun w k u0 u1 k0 k1 => ?_⟩
    have k1' : k < szS (s.2.2.1 i).1 w := k1
    have hz := szS_30 (z := (s.2.2.1 i).1) (t := w) d2
    rw [e2 _ (by omega) (by omega) (by omega)]
    exact c.2.2 w k u0 u1 k0 k1
  · have q' : i < s.2.1 := q
    have c := a4 i p q'
    have d := (b6 i p q').1.2.1
    by_cases w : i = n
    · have eL : (decP ge (n + 1) s).2.2.2 i = decL ge (s.2.2.2 i) := by
        show (if 0 ≤ i ∧ i < n + 1 then decL ge (s.2.2.2 i) else s.2.2.2 i) = _
        rw [if_pos (by omega)]
      have eO : (decP ge n s).2.2.2 i = s.2.2.2 i := by
        show (if 0 ≤ i ∧ i < n then decL ge (s.2.2.2 i) else s.2.2.2 i) = _
        rw [if_neg (by omega)]
      rw [eO] at c
      rw [eL]
      refine ⟨by rw [show 572 + 15 * i + 0 = 572 + 15 * n by omega, e1, w], by rw [e2 _ (by omega) (by omega) (by omega)]; exact c.2.1, by rw [e2 _ (by omega) (by omega) (by omega)]; exact c.2.2.1, fun k k0 k1 => ?_⟩
      have k1' : k < (s.2.2.2 i).2.2.1 := k1
      rw [e2 _ (by omega) (by omega) (by omega)]
      exact c.2.2.2 k k0 k1'
    · have eL : (decP ge (n + 1) s).2.2.2 i = (decP ge n s).2.2.2 i := decP_ne w
      have dd : ((decP ge n s).2.2.2 i).2.2.1 = (s.2.2.2 i).2.2.1 := by
        show (if 0 ≤ i ∧ i < n then decL ge (s.2.2.2 i) else s.2.2.2 i).2.2.1 = _
        split <;> rfl
      rw [eL]
      refine ⟨by rw [e2 _ (by omega) (by omega) (by omega)]; exact c.1, by rw [e2 _ (by omega) (by omega) (by omega)]; exact c.2.1, by rw [e2 _ (by omega) (by omega) (by omega)]; exact c.2.2.1, fun k k0 k1 => ?_⟩
      have k1' : k < (s.2.2.2 i).2.2.1 := by rw [← dd]; exact k1
      rw [e2 _ (by omega) (by omega) (by omega)]
      exact c.2.2.2 k k0 k1
theorem RowS.w_remG {f g : Int → Int} {s : Ast} {ge : Int} (h : RowS f s) (hok : StateOk s) (g0 : 0 ≤ ge) (g1 : ge < s.1) (e0 : g 0 = s.1 - 1) (e1 : ∀ k : Int, 1 + 95 * ge ≤ k → k < 1 + 95 * (s.1 - 1) → g k = f (k + 95)) (e2 : ∀ k : Int, 0 < k → k < 722 → (k < 1 + 95 * ge ∨ 571 ≤ k) → g k = f k) : RowS g (remG s ge) := by
  obtain ⟨a1, a2, a3, a4⟩ := h
  obtain ⟨b1, b2, b3, b4, b5, b6⟩ := hok
  refine ⟨e0, by rw [e2 571 (by omega) (by omega) (by omega)]; exact a2, fun i p q => ?_, fun i p q => ?_⟩
  · have q' : i < s.1 - 1 := q
    by_cases w : i < ge
    · have c := a3 i p (by omega)
      have d := (b5 i p (by omega)).2.1
      rw [show (remG s ge).2.2.1 i = s.2.2.1 i from rmF_lt w]
      refine ⟨by rw [e2 _ (by omega) (by omega) (by omega)]; exact c.1, by rw [e2 _ (by omega) (by omega) (by omega)]; exact c.2.1, fun t k t0 t1 k0 k1 => ?_⟩
      have hz := szS_30 (z := (s.2.2.1 i).1) (t := t) d
      rw [e2 _ (by omega) (by omega) (by omega)]
      exact c.2.2 t k t0 t1 k0 k1
    · have c := a3 (i + 1) (by omega) (by omega)
      have d := (b5 (i + 1) (by omega) (by omega)).2.1
      rw [show (remG s ge).2.2.1 i = s.2.2.1 (i + 1) from rmF_ge (by omega)]
      refine ⟨?_, ?_, fun t k t0 t1 k0 k1 => ?_⟩
      · rw [e1 _ (by omega) (by omega), show 1 + 95 * i + 95 = 1 + 95 * (i + 1) by omega]; exact c.1
      · rw [e1 _ (by omega) (by omega), show 1 + 95 * i + 1 + 95 = 1 + 95 * (i + 1) + 1 by omega]; exact c.2.1
      · have hz := szS_30 (z := (s.2.2.1 (i + 1)).1) (t := t) d
        rw [e1 _ (by omega) (by omega), show 1 + 95 * i + 2 + 31 * t + k + 95 = 1 + 95 * (i + 1) + 2 + 31 * t + k by omega]
        exact c.2.2 t k t0 t1 k0 k1
  · have q' : i < s.2.1 := q
    have c := a4 i p q
    have d := (b6 i p q).1.2.1
    refine ⟨by rw [e2 _ (by omega) (by omega) (by omega)]; exact c.1, by rw [e2 _ (by omega) (by omega) (by omega)]; exact c.2.1, by rw [e2 _ (by omega) (by omega) (by omega)]; exact c.2.2.1, fun k k0 k1 => ?_⟩
    have k1' : k < (s.2.2.2 i).2.2.1 := k1
    rw [e2 _ (by omega) (by omega) (by omega)]
    exact c.2.2.2 k k0 k1
theorem MdG.fail {M : Mem} {m : Nat} {g : Gst} {k : Int} (h : MdG M m g) : MdG (sI M m 6 k) m g ∧ MdF M (sI M m 6 k) m :=
  ⟨h.only (Same.sI (by omega)).1 (Same.sI (by omega)).1 (gI_nk (by omega)), (Same.sI (by omega)).1, gI_nk (by omega), Only.sI (by omega) (by omega)⟩
theorem MdG.fin {M Mh Mw Me : Mem} {m : Nat} {a' : Ast} {c' : Int} {sv' : Int → Ast} (hh : ∀ c : Nat, c ≠ m + 3 → Same M Mh c) (hw : ∀ c : Nat, c ≠ m + 1 → Same Mh Mw c) (hW : MdS Mw m a') (h3 : gI Me m 3 = c') (hsr : SvR (gI Me (m + 2)) c' sv') (hsm : ∀ c : Nat, c ≠ m → c ≠ m + 2 → Same Mw Me c) (h5 : gI Me m 5 = gI Mw m 5) : MdG Me m (a', c', sv') ∧ MdF M Me m := by
  refine ⟨⟨?_, h3, hsr⟩, ?_, ?_, fun c p => ?_⟩
  · unfold MdS
    rw [(hsm (m + 1) (by omega) (by omega)).1]
    exact hW
  · rw [(hsm (m + 4) (by omega) (by omega)).1, (hw (m + 4) (by omega)).1, (hh (m + 4) (by omega)).1]
  · rw [h5, (hw m (by omega)).1, (hh m (by omega)).1]
  · exact ((hh c (by omega)).tr (hw c (by omega))).tr (hsm c (by omega) (by omega))
theorem RowS.w_decA {f : Int → Int} {t : Ast} {ge : Int} (h : RowS f (decP ge t.2.1 t)) : RowS f (decA ge t) := by
  obtain ⟨a1, a2, a3, a4⟩ := h
  refine ⟨a1, a2, a3, fun l p q => ?_⟩
  have c := a4 l p q
  have q' : l < t.2.1 := q
  have e : (decP ge t.2.1 t).2.2.2 l = decL ge (t.2.2.2 l) := by
    show (if 0 ≤ l ∧ l < t.2.1 then decL ge (t.2.2.2 l) else t.2.2.2 l) = _
    rw [if_pos ⟨p, q'⟩]
  rw [e] at c
  exact c
theorem decP_at {ge i : Int} {t : Ast} : (decP ge i t).2.2.2 i = t.2.2.2 i := by
  show (if 0 ≤ i ∧ i < i then decL ge (t.2.2.2 i) else t.2.2.2 i) = _
  rw [if_neg (by omega)]
theorem decA_ok1 {t : Ast} {ge : Int} (h : StateOk t) : ∀ k : Int, 0 ≤ k → k < t.1 → GrOk (t.2.2.1 k) := h.2.2.2.2.1
theorem RowS.w_remA {f g : Int → Int} {t : Ast} {ge : Int} (h : RowS f (decA ge t)) (hok : StateOk t) (g0 : 0 ≤ ge) (g1 : ge < t.1) (e0 : g 0 = t.1 - 1) (e1 : ∀ k : Int, 1 + 95 * ge ≤ k → k < 1 + 95 * (t.1 - 1) → g k = f (k + 95)) (e2 : ∀ k : Int, 0 < k → k < 722 → (k < 1 + 95 * ge ∨ 571 ≤ k) → g k = f k) : RowS g (remG (decA ge t) ge) := by
  obtain ⟨a1, a2, a3, a4⟩ := h
  obtain ⟨b1, b2, b3, b4, b5, b6⟩ := hok
  refine ⟨e0, by rw [e2 571 (by omega) (by omega) (by omega)]; exact a2, fun i p q => ?_, fun i p q => ?_⟩
  · have q' : i < t.1 - 1 := q
    by_cases w : i < ge
    · have c := a3 i p (by show i < t.1; omega)
      have d := (b5 i p (by omega)).2.1
      rw [show (remG (decA ge t) ge).2.2.1 i = t.2.2.1 i from rmF_lt w]
      refine ⟨by rw [e2 _ (by omega) (by omega) (by omega)]; exact c.1, by rw [e2 _ (by omega) (by omega) (by omega)]; exact c.2.1, fun u k t0 t1 k0 k1 => ?_⟩
      have hz := szS_30 (z := (t.2.2.1 i).1) (t := u) d
      rw [e2 _ (by omega) (by omega) (by omega)]
      exact c.2.2 u k t0 t1 k0 k1
    · have c := a3 (i + 1) (by omega) (by show i + 1 < t.1; omega)
      have d := (b5 (i + 1) (by omega) (by omega)).2.1
      rw [show (remG (decA ge t) ge).2.2.1 i = t.2.2.1 (i + 1) from rmF_ge (by omega)]
      refine ⟨?_, ?_, fun u k t0 t1 k0 k1 => ?_⟩
      · rw [e1 _ (by omega) (by omega), show 1 + 95 * i + 95 = 1 + 95 * (i + 1) by omega]; exact c.1
      · rw [e1 _ (by omega) (by omega), show 1 + 95 * i + 1 + 95 = 1 + 95 * (i + 1) + 1 by omega]; exact c.2.1
      · have hz := szS_30 (z := (t.2.2.1 (i + 1)).1) (t := u) d
        rw [e1 _ (by omega) (by omega), show 1 + 95 * i + 2 + 31 * u + k + 95 = 1 + 95 * (i + 1) + 2 + 31 * u + k by omega]
        exact c.2.2 u k t0 t1 k0 k1
  · have q' : i < t.2.1 := q
    have c := a4 i p q'
    have d := (b6 i p q').1.2.1
    refine ⟨by rw [e2 _ (by omega) (by omega) (by omega)]; exact c.1, by rw [e2 _ (by omega) (by omega) (by omega)]; exact c.2.1, by rw [e2 _ (by omega) (by omega) (by omega)]; exact c.2.2.1, fun k k0 k1 => ?_⟩
    have k1' : k < (t.2.2.2 i).2.2.1 := k1
    rw [e2 _ (by omega) (by omega) (by omega)]
    exact c.2.2.2 k k0 k1
